/-! The class's proofs by their bytes -/
theorem absI_n (x : Int) : absI (-x) = absI x := by unfold absI; split <;> split <;> omega
theorem bv_le {S : sS} {o : Nat} (hs : -1 ≤ S.1 o 2 ∧ S.1 o 2 ≤ 1) (hv : 0 ≤ VR S o) : bv S o ≤ VR S o := by
  unfold bv
  rcases (by omega : S.1 o 2 = -1 ∨ S.1 o 2 = 0 ∨ S.1 o 2 = 1) with e | e | e <;> rw [e]
  · omega
  · omega
  · omega
theorem bv_ab {S : sS} {o : Nat} {z : Int} (hs : -1 ≤ S.1 o 2 ∧ S.1 o 2 ≤ 1) (hz : (0 ≤ S.1 o 2 → z = S.1 o 2) ∧ (S.1 o 2 ≤ 0 → z = -S.1 o 2)) (hv : 0 ≤ VR S o) : bv (uF S o 2 z) o = absI (bv S o) := by
  rw [bv_F2]
  unfold bv
  rcases (by omega : S.1 o 2 = -1 ∨ S.1 o 2 = 0 ∨ S.1 o 2 = 1) with e | e | e
  · rw [show z = 1 by omega, e]; unfold absI; split <;> omega
  · rw [show z = 0 by omega, e]; unfold absI; split <;> omega
  · rw [show z = 1 by omega, e]; unfold absI; split <;> omega
theorem gd_l {H L : List Int} {k : Nat} (h : k < H.length) : (H ++ L).getD k 0 = H.getD k 0 := by
  rw [List.getD_eq_getElem?_getD, List.getD_eq_getElem?_getD, List.getElem?_append_left h]
theorem gd_r {H L : List Int} {k : Nat} (h : H.length ≤ k) : (H ++ L).getD k 0 = L.getD (k - H.length) 0 := by
  rw [List.getD_eq_getElem?_getD, List.getD_eq_getElem?_getD, List.getElem?_append_right h]
theorem pb_h {S : sS} {H L : List Int} {k : Int} (h : TXc S 158 1500 H) (hH : H.length ≤ 1500) (a : asc H) (k0 : 0 ≤ k) (k1 : k < (H.length : Int)) : S.2.1 (158 + 1) k % 256 = (if 0 < L.length then H ++ (32 :: L) else H).getD k.toNat 0 := by
  have e := (h.1 hH).2.2 k.toNat (by omega)
  rw [show ((k.toNat : Nat) : Int) = k by omega] at e
  have b := a.gd k.toNat
  rw [e, show (if 0 < L.length then H ++ (32 :: L) else H).getD k.toNat 0 = H.getD k.toNat 0 by split; (exact gd_l (by omega)); rfl]
  omega
theorem pb_t {S : sS} {H L : List Int} {k kk : Int} (hkk : kk = k - (H.length : Int) - 1) (h : TXc S 160 30000 L) (hL : L.length ≤ 30000) (a : asc L) (k0 : (H.length : Int) + 1 ≤ k) (k1 : k < (H.length : Int) + 1 + (L.length : Int)) : S.2.1 (160 + 1) kk % 256 = (H ++ (32 :: L)).getD k.toNat 0 := by
  rw [hkk]
  have e := (h.1 hL).2.2 (k.toNat - H.length - 1) (by omega)
  rw [show ((k.toNat - H.length - 1 : Nat) : Int) = k - (H.length : Int) - 1 by omega] at e
  have b := a.gd (k.toNat - H.length - 1)
  have q : (H ++ (32 :: L)).getD k.toNat 0 = L.getD (k.toNat - H.length - 1) 0 := by
    obtain ⟨m, hm⟩ : ∃ m, k.toNat - H.length = m + 1 := ⟨k.toNat - H.length - 1, by omega⟩
    rw [gd_r (by omega), hm]; rfl
  rw [e, q]; omega
theorem pb_b {H L : List Int} {k : Int} (h : k = (H.length : Int)) : (32 : Int) = (H ++ (32 :: L)).getD k.toNat 0 := by
  rw [gd_r (by omega), show k.toNat - H.length = 0 by omega]; rfl
def pWq (k : Nat) : Bool := rgB 167 176 k
def pWr (k : Nat) : Bool := rgB 158 159 k || rgB 169 176 k
def pWp (k : Nat) : Bool := rgB 158 159 k || rgB 163 176 k
def pRe (k : Nat) : Bool := rgB 163 176 k
def pWu (k : Nat) : Bool := rgB 158 159 k || rgB 162 176 k
def pPr (k : Nat) : Bool := Nat.beq k 119 || rgB 158 159 k || rgB 162 176 k
def pWv (k : Nat) : Bool := rgB 158 159 k || rgB 169 170 k
theorem pP_Wq : ∀ k, pP k = true → pWq k = true := fun k h => by
  simp only [pP, pWq, rgB, Bool.or_eq_true, Bool.and_eq_true, Nat.ble_eq, Nat.beq_eq] at h ⊢; omega
theorem pP_Wr : ∀ k, pP k = true → pWr k = true := fun k h => by
  simp only [pP, pWr, rgB, Bool.or_eq_true, Bool.and_eq_true, Nat.ble_eq, Nat.beq_eq] at h ⊢; omega
theorem pWq_Wp : ∀ k, pWq k = true → pWp k = true := fun k h => by
  simp only [pWq, pWp, rgB, Bool.or_eq_true, Bool.and_eq_true, Nat.ble_eq, Nat.beq_eq] at h ⊢; omega
theorem pWr_Wp : ∀ k, pWr k = true → pWp k = true := fun k h => by
  simp only [pWr, pWp, rgB, Bool.or_eq_true, Bool.and_eq_true, Nat.ble_eq, Nat.beq_eq] at h ⊢; omega
theorem pP_Re : ∀ k, pP k = true → pRe k = true := fun k h => by
  simp only [pP, pRe, rgB, Bool.or_eq_true, Bool.and_eq_true, Nat.ble_eq, Nat.beq_eq] at h ⊢; omega
theorem pRe_Wp : ∀ k, pRe k = true → pWp k = true := fun k h => by
  simp only [pRe, pWp, rgB, Bool.or_eq_true, Bool.and_eq_true, Nat.ble_eq, Nat.beq_eq] at h ⊢; omega
theorem pWp_Wu : ∀ k, pWp k = true → pWu k = true := fun k h => by
  simp only [pWp, pWu, rgB, Bool.or_eq_true, Bool.and_eq_true, Nat.ble_eq, Nat.beq_eq] at h ⊢; omega
theorem pGt_Wu : ∀ k, pGt k = true → pWu k = true := fun k h => by
  simp only [pGt, pWu, rgB, Bool.or_eq_true, Bool.and_eq_true, Nat.ble_eq, Nat.beq_eq] at h ⊢; omega
theorem pWv_Wu : ∀ k, pWv k = true → pWu k = true := fun k h => by
  simp only [pWv, pWu, rgB, Bool.or_eq_true, Bool.and_eq_true, Nat.ble_eq, Nat.beq_eq] at h ⊢; omega
theorem pWu_Pr : ∀ k, pWu k = true → pPr k = true := fun k h => by
  simp only [pWu, pPr, rgB, Bool.or_eq_true, Bool.and_eq_true, Nat.ble_eq, Nat.beq_eq] at h ⊢; omega
theorem pPr_H : ∀ k, pPr k = true → pH k = true := fun k h => by
  simp only [pPr, pH, rgB, Bool.or_eq_true, Bool.and_eq_true, Nat.ble_eq, Nat.beq_eq] at h ⊢; omega
theorem p1119_Pr : ∀ k, p1 119 k = true → pPr k = true := fun k h => by
  simp only [p1, pPr, rgB, Bool.or_eq_true, Bool.and_eq_true, Nat.ble_eq, Nat.beq_eq] at h ⊢; omega
theorem dic_pWq {o : Nat} (m : dc o) : pWq o = false := by rcases m with rfl | rfl <;> rfl
theorem mo_pWq {o : Nat} (m : mdl o) : pWq o = false ∧ pWq (o + 1) = false ∧ pWq (o + 2) = false := by
  have a : ∀ o, o < 231 → tau o = .inl 3 → pWq o = false ∧ pWq (o + 1) = false ∧ pWq (o + 2) = false := by decide +kernel
  exact a o (mdl_k m) m.1
theorem dic_pWr {o : Nat} (m : dc o) : pWr o = false := by rcases m with rfl | rfl <;> rfl
theorem mo_pWr {o : Nat} (m : mdl o) : pWr o = false ∧ pWr (o + 1) = false ∧ pWr (o + 2) = false := by
  have a : ∀ o, o < 231 → tau o = .inl 3 → pWr o = false ∧ pWr (o + 1) = false ∧ pWr (o + 2) = false := by decide +kernel
  exact a o (mdl_k m) m.1
theorem dic_pWp {o : Nat} (m : dc o) : pWp o = false := by rcases m with rfl | rfl <;> rfl
theorem mo_pWp {o : Nat} (m : mdl o) : pWp o = false ∧ pWp (o + 1) = false ∧ pWp (o + 2) = false := by
  have a : ∀ o, o < 231 → tau o = .inl 3 → pWp o = false ∧ pWp (o + 1) = false ∧ pWp (o + 2) = false := by decide +kernel
  exact a o (mdl_k m) m.1
theorem dic_pRe {o : Nat} (m : dc o) : pRe o = false := by rcases m with rfl | rfl <;> rfl
theorem mo_pRe {o : Nat} (m : mdl o) : pRe o = false ∧ pRe (o + 1) = false ∧ pRe (o + 2) = false := by
  have a : ∀ o, o < 231 → tau o = .inl 3 → pRe o = false ∧ pRe (o + 1) = false ∧ pRe (o + 2) = false := by decide +kernel
  exact a o (mdl_k m) m.1
theorem dic_pWu {o : Nat} (m : dc o) : pWu o = false := by rcases m with rfl | rfl <;> rfl
theorem mo_pWu {o : Nat} (m : mdl o) : pWu o = false ∧ pWu (o + 1) = false ∧ pWu (o + 2) = false := by
  have a : ∀ o, o < 231 → tau o = .inl 3 → pWu o = false ∧ pWu (o + 1) = false ∧ pWu (o + 2) = false := by decide +kernel
  exact a o (mdl_k m) m.1
theorem dic_pPr {o : Nat} (m : dc o) : pPr o = false := by rcases m with rfl | rfl <;> rfl
theorem mo_pPr {o : Nat} (m : mdl o) : pPr o = false ∧ pPr (o + 1) = false ∧ pPr (o + 2) = false := by
  have a : ∀ o, o < 231 → tau o = .inl 3 → pPr o = false ∧ pPr (o + 1) = false ∧ pPr (o + 2) = false := by decide +kernel
  exact a o (mdl_k m) m.1
theorem dic_pWv {o : Nat} (m : dc o) : pWv o = false := by rcases m with rfl | rfl <;> rfl
theorem mo_pWv {o : Nat} (m : mdl o) : pWv o = false ∧ pWv (o + 1) = false ∧ pWv (o + 2) = false := by
  have a : ∀ o, o < 231 → tau o = .inl 3 → pWv o = false ∧ pWv (o + 1) = false ∧ pWv (o + 2) = false := by decide +kernel
  exact a o (mdl_k m) m.1
set_option maxRecDepth 100000 in
set_option maxHeartbeats 4000000 in
theorem v_X2_rayNumber (l : Launch) (G : sG) (S : sS) {oc od : Nat} {n hw : Int} {d : dT} {v : Nat} {k sc : Int} (hI : cX G S 0 0 0) (hdq : dcs G S oc od) (hDR : Hd (DRc S oc n hw d)) (hv : tau v = .inl 0) (hk : -2147483648 ≤ k ∧ k ≤ 2147483647) (hcol : 1 ≤ sc ∧ sc ≤ d.2.2.2.2.2) (hsc : S.1 135 18 = sc) : Met l yX2_rayNumber (.code yX2_rayNumber cX2_rayNumber 4 none :: tb) (rmk 4 0 0) (sPc G 294 S [.ref (G.2.2.1 + 135), .int (iv k), .ref (G.2.2.1 + v)]) (sQv G 294 (fun u => cX G u 0 0 0 ∧ Fr S u (pB v) ∧ (u.1 v 1 ≤ 6 ∧ Hd (bv u v = rayV d sc k ∧ bs u v)))) 0 0 (sF G) := by
  refine sEnter (by decide) (Nat.le_of_ble_eq_true rfl) ?_
  intro p e s m args below meth c Cx hr hlk hnm hW ls hl
  have Cx : sC G p m c cX2_rayNumber 4 s args RX2 := Cx
  obtain ⟨hx, hb, hml, hown, hts⟩ := id Cx.1
  have hL : sL G [] := sL_nil
  have hl : lv_has ls 4 [(0, .ref (G.2.2.1 + 135)), (1, .int (iv k)), (2, .ref (G.2.2.1 + v))] := hl
  have hW0 := hW
  obtain ⟨hoc, hod, hcd, hec, hed⟩ := id hdq
  have hd13 := hDR.2.2.2.2.1; have hd14 := hDR.2.2.2.2.2.1; have hd15 := hDR.2.2.2.2.2.2.1; have hd16 := hDR.2.2.2.2.2.2.2; have hm40 : 0 ≤ S.1 135 14 ∧ S.1 135 14 ≤ 40 := hI.fi 135 14 2 (by decide) rfl; have hp13 : 0 ≤ S.1 135 15 ∧ S.1 135 15 ≤ 13 := hI.fi 135 15 2 (by decide) rfl
  refine lv_aload_n hx hb dX2_rayNumber_0 rfl (lv_at hl 0 rfl) ?_
  refine lv_iload_n hx hb dX2_rayNumber_1 rfl (lv_at hl 1 rfl) ?_
  refine sBi (sV (As := [.int (iv k)]) (rest := []) (k := 135) Cx (v_X2_rowOf l G S (k := k) (oc := oc) (od := od) (n := n) (hw := hw) (d := d) hI ⟨hoc, hod, (neD hcd), hec, hed⟩ hDR (by omega)) (c_X2_128 Cx rfl rfl (rmk_ok (by omega) (by decide))) hW (by decide) rfl rfl rfl hl.1 rfl (Nat.le_of_ble_eq_true rfl) dX2_rayNumber_2 ⟨Nat.le_of_ble_eq_true rfl, Nat.le_of_ble_eq_true rfl⟩) hL (fun r_3 u_1 H locs k_2 hW hL => ?_)
  obtain ⟨eu_1, xu_1⟩ := k_2
  rw [eu_1] at hW
  refine lv_istore_n (lv' := [(3, .int (iv r_3)), (0, .ref (G.2.2.1 + 135)), (1, .int (iv k)), (2, .ref (G.2.2.1 + v))]) hx hb dX2_rayNumber_5 rfl hl (by decide) rfl (fun ls hl => ?_)
  refine lv_iload_n hx hb dX2_rayNumber_6 rfl (lv_at hl 0 rfl) ?_
  refine r_if_le (tgt := 33) hx hb ⟨(by omega), (by omega)⟩ dX2_rayNumber_7 (by decide) (fun c_4 => ?_) (fun c_4 => ?_)
  · refine lv_aload_n hx hb dX2_rayNumber_33 rfl (lv_at hl 1 rfl) ?_
    refine g_X2_23 Cx hW (k := 135) (by decide) rfl (v := .ref (G.2.2.1 + 139)) (rf_135_3 hI) dX2_rayNumber_34 ?_
    refine lv_aload_n hx hb dX2_rayNumber_37 rfl (lv_at hl 1 rfl) ?_
    have q_5 : (-1) ≤ S.1 135 18 ∧ S.1 135 18 ≤ 13 := hI.fi 135 18 2 (by decide) rfl
    refine g_X2_131 Cx hW (k := 135) (by decide) rfl (v := S.1 135 18) rfl dX2_rayNumber_38 ?_
    refine rIald Cx hW (k := 139) (by decide) rfl (by decide) (by omega) (by omega) dX2_rayNumber_41 ?_
    have q_6 : (-2147483648) ≤ S.2.1 139 (S.1 135 18) ∧ S.2.1 139 (S.1 135 18) ≤ 2147483647 := hI.ai 139 (S.1 135 18) (by decide)
    refine r_i (b := S.2.1 139 (S.1 135 18)) rfl ?_
    refine lv_iload_n hx hb dX2_rayNumber_42 rfl (lv_at hl 2 rfl) ?_
    refine r_icmp_ne (tgt := 54) hx hb ⟨(by omega), (by omega)⟩ ⟨(by omega), (by omega)⟩ dX2_rayNumber_43 (by decide) (fun c_7 => ?_) (fun c_7 => ?_)
    · refine lv_aload_n hx hb dX2_rayNumber_54 rfl (lv_at hl 3 rfl) ?_
      refine lv_lconst (v := jv 0) hx hb dX2_rayNumber_55 (by decide) ?_
      refine sBv (sV (As := [.long (jv 0)]) (rest := []) (k := v) Cx (b_X0_put l G S (o := v) (v := 0) hI hv (by omega)) (c_X2_124 Cx rfl rfl (rmk_ok (by omega) (by decide))) hW (big_l hv) hv rfl rfl hl.1 rfl (Nat.le_of_ble_eq_true rfl) dX2_rayNumber_56 ⟨Nat.le_of_ble_eq_true rfl, Nat.le_of_ble_eq_true rfl⟩) hL (fun u_8 H locs k_9 hW hL => ?_)
      obtain ⟨iu_8, fu_8, xu_8⟩ := k_9
      have F_10 := (Fr.rf : Fr S S (pB v)).trans fu_8
      have bv_11 : bv u_8 v = 0 := (xu_8.2.2.2.2.2 (by decide) (by decide)).1
      have q_12 : 0 ≤ u_8.1 v 1 ∧ u_8.1 v 1 ≤ 32 := iu_8.fi v 1 0 (big_lt hv) hv
      exact sVret Cx hr hlk hW hL ⟨iu_8, F_10, ⟨by omega, ((show bv u_8 v = 0 from bv_11)).trans (show (0 : Int) = rayV d sc k by unfold rayV; rw [cif_f (by omega), cif_f (by have e := hDR.2.2.2.1 sc (by omega) (by omega); rw [← hsc] at e; rw [← hsc]; omega)]), (show Hd (bs u_8 v) from (xu_8.2.2.2.2.2 (by decide) (by decide)).2)⟩⟩ dX2_rayNumber_59
    · refine lv_aload_n hx hb dX2_rayNumber_46 rfl (lv_at hl 1 rfl) ?_
      refine lv_aload_n hx hb dX2_rayNumber_47 rfl (lv_at hl 3 rfl) ?_
      refine sBv (sV (As := [.ref (G.2.2.1 + v)]) (rest := []) (k := 135) Cx (v_X2_denominator l G S (v := v) (oc := oc) (od := od) (n := n) (hw := hw) (d := d) hI ⟨hoc, hod, (neD hcd), hec, hed⟩ hDR hv) (c_X2_121 Cx rfl rfl (rmk_ok (by omega) (by decide))) hW (by decide) rfl rfl rfl hl.1 rfl (Nat.le_of_ble_eq_true rfl) dX2_rayNumber_48 ⟨Nat.le_of_ble_eq_true rfl, Nat.le_of_ble_eq_true rfl⟩) hL (fun u_13 H locs k_14 hW hL => ?_)
      obtain ⟨iu_13, fu_13, xu_13⟩ := k_14
      have F_15 := (Fr.rf : Fr S S (pB v)).trans fu_13
      have bv_16 : bv u_13 v = d.1 := xu_13.2.2.2.1.1
      refine lv_goto (tgt := 59) hx hb dX2_rayNumber_51 (by decide) ?_
      have q_17 : 0 ≤ u_13.1 v 1 ∧ u_13.1 v 1 ≤ 32 := iu_13.fi v 1 0 (big_lt hv) hv
      exact sVret Cx hr hlk hW hL ⟨iu_13, F_15, ⟨by omega, ((show bv u_13 v = d.1 from bv_16)).trans (show _ = rayV d sc k by unfold rayV; rw [cif_f (by omega), cif_t (by have e := hDR.2.2.2.1 sc (by omega) (by omega); rw [← hsc] at e; rw [← hsc]; omega)]), (show Hd (bs u_13 v) from xu_13.2.2.2.1.2)⟩⟩ dX2_rayNumber_59
  · refine lv_aload_n hx hb dX2_rayNumber_10 rfl (lv_at hl 3 rfl) ?_
    refine lv_aload_n hx hb dX2_rayNumber_11 rfl (lv_at hl 1 rfl) ?_
    refine g_X2_13 Cx hW (k := 135) (by decide) rfl (v := .ref (G.2.2.1 + oc)) hec dX2_rayNumber_12 ?_
    refine lv_iload_n hx hb dX2_rayNumber_15 rfl (lv_at hl 0 rfl) ?_
    refine lv_aload_n hx hb dX2_rayNumber_16 rfl (lv_at hl 1 rfl) ?_
    have q_18 : (-1) ≤ S.1 135 18 ∧ S.1 135 18 ≤ 13 := hI.fi 135 18 2 (by decide) rfl
    refine g_X2_131 Cx hW (k := 135) (by decide) rfl (v := S.1 135 18) rfl dX2_rayNumber_17 ?_
    refine sBi (sSt (As := [.int (iv r_3), .int (iv (S.1 135 18))]) (rest := [.ref (G.2.2.1 + oc), .ref (G.2.2.1 + v)]) Cx (s_X2_at l G S (i := r_3) (j := S.1 135 18) (by omega) (by omega)) (c_X2_77 Cx rfl rfl (rmk_ok (by omega) (by decide))) hW rfl hl.1 rfl (Nat.le_of_ble_eq_true rfl) dX2_rayNumber_20 ⟨Nat.le_of_ble_eq_true rfl, Nat.le_of_ble_eq_true rfl⟩) hL (fun r_21 u_19 H locs k_20 hW hL => ?_)
    obtain ⟨eu_19, xu_19⟩ := k_20
    rw [eu_19] at hW
    refine sBv (sV (As := [.ref (G.2.2.1 + oc), .int (iv r_21)]) (rest := []) (k := v) Cx (b_X0_load l G S (o := v) (k := oc) (a := r_21) (N := 4816) hI hv (dic_a hoc) (by omega)) (c_X2_106 Cx rfl rfl (rmk_ok (by omega) (by decide))) hW (big_l hv) hv rfl rfl hl.1 rfl (Nat.le_of_ble_eq_true rfl) dX2_rayNumber_23 ⟨Nat.le_of_ble_eq_true rfl, Nat.le_of_ble_eq_true rfl⟩) hL (fun u_22 H locs k_23 hW hL => ?_)
    obtain ⟨iu_22, fu_22, xu_22⟩ := k_23
    have F_24 := (Fr.rf : Fr S S (pB v)).trans fu_22
    have yu_22 : u_22.1 v 1 ≤ 6 := by have e := xu_22.1; rw [dic_L hoc] at e; exact e
    have bv_25 : bv u_22 v = nv (S.2.1 oc) r_21 := xu_22.2.2.2.2.2.2.2.1
    refine lv_aload_n hx hb dX2_rayNumber_26 rfl (lv_at hl 3 rfl) ?_
    have q_26 : 0 ≤ u_22.1 v 1 ∧ u_22.1 v 1 ≤ 32 := iu_22.fi v 1 0 (big_lt hv) hv
    have q_27 : (-1) ≤ u_22.1 v 2 ∧ u_22.1 v 2 ≤ 1 := iu_22.fi v 2 0 (big_lt hv) hv
    refine sBv (sV (As := []) (rest := []) (k := v) Cx (s_X0_turn l G u_22 (o := v) iu_22 hv) (c_X2_134 Cx rfl rfl (rmk_ok (by omega) (by decide))) hW (big_l hv) hv rfl rfl hl.1 rfl (Nat.le_of_ble_eq_true rfl) dX2_rayNumber_27 ⟨Nat.le_of_ble_eq_true rfl, Nat.le_of_ble_eq_true rfl⟩) hL (fun u_28 H locs k_29 hW hL => ?_)
    obtain ⟨iu_28, fu_28, xu_28⟩ := k_29
    have F_30 := F_24.trans fu_28
    have bv_31 : bv u_28 v = -(nv (S.2.1 oc) r_21) := (tn_bv xu_28.1 xu_28.2.1 xu_28.2.2).trans (congrArg _ ((show bv u_22 v = nv (S.2.1 oc) r_21 from bv_25)))
    refine lv_goto (tgt := 59) hx hb dX2_rayNumber_30 (by decide) ?_
    have q_32 : 0 ≤ u_28.1 v 1 ∧ u_28.1 v 1 ≤ 32 := iu_28.fi v 1 0 (big_lt hv) hv
    exact sVret Cx hr hlk hW hL ⟨iu_28, F_30, ⟨by omega, ((show bv u_28 v = -(nv (S.2.1 oc) r_21) from bv_31)).trans (show _ = rayV d sc k by unfold rayV; have e1 : r_3 = rOf d k := (by omega); rw [cif_t (by omega), ← e1]; exact congrArg Neg.neg (show nv (S.2.1 oc) r_21 = d.2.1 r_3 sc by rw [show r_21 = (r_3 + 2) * 112 + sc * 8 by omega]; exact hDR.2.1 r_3 sc (by omega) (by omega) (by omega) (by omega) (by omega))), (show Hd (bs u_28 v) from (tn_bs xu_28.1 xu_28.2.1 (show Hd (bs u_22 v) from xu_22.2.2.2.2.2.2.2.2)))⟩⟩ dX2_rayNumber_59

set_option maxRecDepth 100000 in
set_option maxHeartbeats 4000000 in
theorem v_X5_common (l : Launch) (G : sG) (S : sS)  (hI : cX G S 0 0 0) (hc0 : S.1 169 1 ≤ 12 ∧ S.1 171 1 ≤ 12) (hs9 : Hd (bs S 169)) (hs1 : Hd (bs S 171)) (hnn : Hd (0 ≤ bv S 169 ∧ 0 ≤ bv S 171)) : Met l yX5_common (.code yX5_common cX5_common 7 (some (.object "OptimumHouse$Big")) :: tb) (rmk 5 0 0) (sPc G 294 S [.ref (G.2.2.1 + 157), .ref (G.2.2.1 + 169), .ref (G.2.2.1 + 171)]) (sQr G 294 (fun r u => cX G u 0 0 0 ∧ Fr S u pP ∧ ((r = 169 ∨ r = 171) ∧ u.1 169 1 ≤ 12 ∧ u.1 171 1 ≤ 12 ∧ Hd (bv u r = gc (bv S 169) (bv S 171)) ∧ Hd (bs u r)))) 0 0 (sF G) := by
  refine sEnter (by decide) (Nat.le_of_ble_eq_true rfl) ?_
  intro p e s m args below meth c Cx hr hlk hnm hW ls hl
  have Cx : sC G p m c cX5_common 7 s args RX5 := Cx
  obtain ⟨hx, hb, hml, hown, hts⟩ := id Cx.1
  have hL : sL G [] := sL_nil
  have hl : lv_has ls 7 [(0, .ref (G.2.2.1 + 157)), (1, .ref (G.2.2.1 + 169)), (2, .ref (G.2.2.1 + 171))] := hl
  have hW0 := hW
  refine lv_aload_n hx hb dX5_common_0 rfl (lv_at hl 1 rfl) ?_
  refine lv_astore_n (lv' := [(3, .ref (G.2.2.1 + 169)), (0, .ref (G.2.2.1 + 157)), (1, .ref (G.2.2.1 + 169)), (2, .ref (G.2.2.1 + 171))]) hx hb dX5_common_1 rfl hl (by decide) rfl (fun ls hl => ?_)
  refine lv_aload_n hx hb dX5_common_2 rfl (lv_at hl 3 rfl) ?_
  refine lv_astore (lv' := [(4, .ref (G.2.2.1 + 171)), (3, .ref (G.2.2.1 + 169)), (0, .ref (G.2.2.1 + 157)), (1, .ref (G.2.2.1 + 169)), (2, .ref (G.2.2.1 + 171))]) hx hb dX5_common_3 hl (by decide) rfl (fun ls hl => ?_)
  refine lv_iconst (v := iv 0) hx hb dX5_common_5 (by decide) ?_
  refine lv_istore (lv' := [(5, .int (iv 0)), (4, .ref (G.2.2.1 + 171)), (3, .ref (G.2.2.1 + 169)), (0, .ref (G.2.2.1 + 157)), (1, .ref (G.2.2.1 + 169)), (2, .ref (G.2.2.1 + 171))]) hx hb dX5_common_6 hl (by decide) rfl (fun ls hl => ?_)
  have loop_8 : ∀ (fuel : Nat) (S8 : sS) (i : Int) (lo : Nat) (hi : Nat) (H : Heap) (locs : List Loc) (ls : Array Slot), (1000 - i).toNat < fuel → (cX G S8 0 0 0) → (Fr S S8 pP) → (Fr S S8 pP) → (0 ≤ i ∧ i ≤ 1000) → ((hi = 169 ∧ lo = 171) ∨ (hi = 171 ∧ lo = 169)) → (S8.1 169 1 ≤ 12 ∧ S8.1 171 1 ≤ 12) → (Hd (bs S8 169)) → (Hd (bs S8 171)) → (Hd (eIv i (bv S8 hi) (bv S8 lo) (gc (bv S 169) (bv S 171)))) → sW G 294 S8 H → sL G locs → lv_has ls 7 [(5, .int (iv i)), (4, .ref (G.2.2.1 + lo)), (3, .ref (G.2.2.1 + hi)), (0, .ref (G.2.2.1 + 157)), (1, .ref (G.2.2.1 + 169)), (2, .ref (G.2.2.1 + 171))] → W p l e (rmk 5 0 0) s m args below meth c H locs 0 0 (MQ below (sQr G 294 (fun r u => cX G u 0 0 0 ∧ Fr S u pP ∧ ((r = 169 ∨ r = 171) ∧ u.1 169 1 ≤ 12 ∧ u.1 171 1 ≤ 12 ∧ Hd (bv u r = gc (bv S 169) (bv S 171)) ∧ Hd (bs u r)))) args s 0 0 (sF G)) (F0 m 8 ls []) := by
    intro fuel
    induction fuel with
    | zero => intro S8 i lo hi H locs ls hmeas hI8 hFm8 hL8_ hii hst hc hb8a hb8b he8 hW hL hl; exact absurd hmeas (Nat.not_lt_zero _)
    | succ fuel ih_8 =>
      intro S8 i lo hi H locs ls hmeas hI8 hFm8 hL8_ hii hst hc hb8a hb8b he8 hW hL hl
      refine lv_iload hx hb dX5_common_8 (lv_at hl 0 rfl) ?_
      rcases hst with ⟨rfl, rfl⟩ | ⟨rfl, rfl⟩
      · refine lv_sipush (v := iv 1000) hx hb dX5_common_10 (by decide) ?_
        refine r_icmp_ge (tgt := 54) hx hb ⟨(by omega), (by omega)⟩ ⟨(by omega), (by omega)⟩ dX5_common_13 (by decide) (fun c_1 => ?_) (fun c_1 => ?_)
        · refine lv_aload_n hx hb dX5_common_54 rfl (lv_at hl 2 rfl) ?_
          have q_2 : 0 ≤ S8.1 169 1 ∧ S8.1 169 1 ≤ 32 := hI8.fi 169 1 0 (by decide) rfl
          have q_3 : 0 ≤ S8.1 171 1 ∧ S8.1 171 1 ≤ 32 := hI8.fi 171 1 0 (by decide) rfl
          exact sRret Cx hr hlk hW hL ⟨hI8, hFm8, ⟨by decide, by omega, by omega, (by by_cases z : 1000 ≤ i; (exact he8.fin (.inl z)); (exact he8.fin (.inr ((bv_0 hI8 (o := 171) rfl hb8b).mp (by omega))))), hb8a⟩⟩ dX5_common_55
        · refine lv_aload hx hb dX5_common_16 (lv_at hl 1 rfl) ?_
          have q_4 : (-1) ≤ S8.1 171 2 ∧ S8.1 171 2 ≤ 1 := hI8.fi 171 2 0 (by decide) rfl
          refine g_X5_126 Cx hW (k := 171) (by decide) rfl (v := S8.1 171 2) rfl dX5_common_18 ?_
          refine r_if_eq (tgt := 54) hx hb ⟨(by omega), (by omega)⟩ dX5_common_21 (by decide) (fun c_5 => ?_) (fun c_5 => ?_)
          · refine lv_aload_n hx hb dX5_common_54 rfl (lv_at hl 2 rfl) ?_
            have q_6 : 0 ≤ S8.1 169 1 ∧ S8.1 169 1 ≤ 32 := hI8.fi 169 1 0 (by decide) rfl
            have q_7 : 0 ≤ S8.1 171 1 ∧ S8.1 171 1 ≤ 32 := hI8.fi 171 1 0 (by decide) rfl
            exact sRret Cx hr hlk hW hL ⟨hI8, hFm8, ⟨by decide, by omega, by omega, (by by_cases z : 1000 ≤ i; (exact he8.fin (.inl z)); (exact he8.fin (.inr ((bv_0 hI8 (o := 171) rfl hb8b).mp (by omega))))), hb8a⟩⟩ dX5_common_55
          · have hlz : bv S8 171 ≠ 0 := fun z => absurd ((bv_0 hI8 (o := 171) rfl hb8b).mpr z) (by omega)
            have hlp : 0 < S8.1 171 2 := bv_sg (hI8.fi 171 2 0 (by decide) rfl) (VR_0 hI8 rfl) (by have y := he8.2.1; omega)
            refine lv_aload_n hx hb dX5_common_24 rfl (lv_at hl 2 rfl) ?_
            refine lv_aload hx hb dX5_common_25 (lv_at hl 1 rfl) ?_
            refine lv_aload_n hx hb dX5_common_27 rfl (lv_at hl 3 rfl) ?_
            refine g_X5_46 Cx hW (k := 157) (by decide) rfl (v := .ref (G.2.2.1 + 173)) (rf_157_8 hI8) dX5_common_28 ?_
            refine lv_aload_n hx hb dX5_common_31 rfl (lv_at hl 3 rfl) ?_
            refine g_X5_49 Cx hW (k := 157) (by decide) rfl (v := .ref (G.2.2.1 + 175)) (rf_157_9 hI8) dX5_common_32 ?_
            have q_8 : 0 ≤ S8.1 169 1 ∧ S8.1 169 1 ≤ 32 := hI8.fi 169 1 0 (by decide) rfl
            have q_9 : 0 ≤ S8.1 171 1 ∧ S8.1 171 1 ≤ 32 := hI8.fi 171 1 0 (by decide) rfl
            have q_10 : (-1) ≤ S8.1 169 2 ∧ S8.1 169 2 ≤ 1 := hI8.fi 169 2 0 (by decide) rfl
            refine sBv (sV (As := [.ref (G.2.2.1 + 171), .ref (G.2.2.1 + 173), .ref (G.2.2.1 + 175)]) (rest := []) (k := 169) Cx (b_X0_divide l G S8 (o := 169) (b := 171) (q := 173) (h := 175) (n := 12) hI8 rfl rfl rfl rfl (show (169 : Nat) ≠ 171 by decide) (show (169 : Nat) ≠ 173 by decide) (show (169 : Nat) ≠ 175 by decide) (show (171 : Nat) ≠ 173 by decide) (show (171 : Nat) ≠ 175 by decide) (show (173 : Nat) ≠ 175 by decide) (show Hd (bs S8 169) from hb8a) (show Hd (bs S8 171) from hb8b) (by omega)) (c_X5_137 Cx rfl rfl (rmk_ok (by omega) (by decide))) hW (by decide) rfl rfl rfl hl.1 rfl (Nat.le_of_ble_eq_true rfl) dX5_common_35 ⟨Nat.le_of_ble_eq_true rfl, Nat.le_of_ble_eq_true rfl⟩) hL (fun u_11 H locs k_12 hW hL => ?_)
            obtain ⟨iu_11, fu_11, xu_11⟩ := k_12
            have F_13 := hFm8.trans (fu_11.to (pD_sub (pB_sub rfl rfl) (pB_sub rfl rfl) (pB_sub rfl rfl)))
            have F_14 := hL8_.trans (fu_11.to (pD_sub (pB_sub rfl rfl) (pB_sub rfl rfl) (pB_sub rfl rfl)))
            have bv_15 : bv u_11 173 = (bv S8 169) / (bv S8 171) := (by have e : bv u_11 173 = _ := (xu_11.2.2.2.2.2.2.1 (by omega)).1; rw [(show bv S8 169 = bv S8 169 from rfl), (show bv S8 171 = bv S8 171 from rfl)] at e; exact e)
            have bv_16 : bv u_11 169 = (bv S8 169) % (bv S8 171) := (by have e : bv u_11 169 = _ := (xu_11.2.2.2.2.2.2.1 (by omega)).2; rw [(show bv S8 169 = bv S8 169 from rfl), (show bv S8 171 = bv S8 171 from rfl)] at e; exact e)
            refine lv_aload_n hx hb dX5_common_38 rfl (lv_at hl 2 rfl) ?_
            refine lv_astore (lv' := [(6, .ref (G.2.2.1 + 169)), (5, .int (iv i)), (4, .ref (G.2.2.1 + 171)), (3, .ref (G.2.2.1 + 169)), (0, .ref (G.2.2.1 + 157)), (1, .ref (G.2.2.1 + 169)), (2, .ref (G.2.2.1 + 171))]) hx hb dX5_common_39 hl (by decide) rfl (fun ls hl => ?_)
            refine lv_aload hx hb dX5_common_41 (lv_at hl 2 rfl) ?_
            refine lv_astore_n (lv' := [(3, .ref (G.2.2.1 + 171)), (6, .ref (G.2.2.1 + 169)), (5, .int (iv i)), (4, .ref (G.2.2.1 + 171)), (0, .ref (G.2.2.1 + 157)), (1, .ref (G.2.2.1 + 169)), (2, .ref (G.2.2.1 + 171))]) hx hb dX5_common_43 rfl hl (by decide) rfl (fun ls hl => ?_)
            refine lv_aload hx hb dX5_common_44 (lv_at hl 1 rfl) ?_
            refine lv_astore (lv' := [(4, .ref (G.2.2.1 + 169)), (3, .ref (G.2.2.1 + 171)), (6, .ref (G.2.2.1 + 169)), (5, .int (iv i)), (0, .ref (G.2.2.1 + 157)), (1, .ref (G.2.2.1 + 169)), (2, .ref (G.2.2.1 + 171))]) hx hb dX5_common_46 hl (by decide) rfl (fun ls hl => ?_)
            refine lv_iinc (v := iv (i + 1)) (lv' := [(5, .int (iv (i + 1))), (4, .ref (G.2.2.1 + 169)), (3, .ref (G.2.2.1 + 171)), (6, .ref (G.2.2.1 + 169)), (0, .ref (G.2.2.1 + 157)), (1, .ref (G.2.2.1 + 169)), (2, .ref (G.2.2.1 + 171))]) hx hb dX5_common_48 hl (k := 3) rfl ((Int32.ofInt_add _ _).symm) (by decide) rfl (fun ls hl => ?_)
            refine lv_goto (tgt := 8) hx hb dX5_common_51 (by decide) ?_
            have q_17 : 0 ≤ u_11.1 169 1 ∧ u_11.1 169 1 ≤ 32 := iu_11.fi 169 1 0 (by decide) rfl
            have lk_18 : u_11.1 171 1 = S8.1 171 1 := (fu_11 171 rfl).1 1
            exact ih_8 u_11 (i + 1) 169 171 _ _ _ (by omega) iu_11 F_13 F_14 (by omega) (by omega) (by omega) (show Hd (bs u_11 169) from xu_11.2.2.2.2.2.2.2.2) (show Hd (bs u_11 171) from (bs_fr fu_11 rfl hb8b)) (by rw [(show bv u_11 171 = bv S8 171 from bv_fr fu_11 rfl rfl), (show bv u_11 169 = (bv S8 169) % (bv S8 171) from bv_16)]; exact he8.st (by omega) hlz) hW hL (lv_sub hl [0, 1, 2, 4, 5, 6] rfl)
      · refine lv_sipush (v := iv 1000) hx hb dX5_common_10 (by decide) ?_
        refine r_icmp_ge (tgt := 54) hx hb ⟨(by omega), (by omega)⟩ ⟨(by omega), (by omega)⟩ dX5_common_13 (by decide) (fun c_19 => ?_) (fun c_19 => ?_)
        · refine lv_aload_n hx hb dX5_common_54 rfl (lv_at hl 2 rfl) ?_
          have q_20 : 0 ≤ S8.1 169 1 ∧ S8.1 169 1 ≤ 32 := hI8.fi 169 1 0 (by decide) rfl
          have q_21 : 0 ≤ S8.1 171 1 ∧ S8.1 171 1 ≤ 32 := hI8.fi 171 1 0 (by decide) rfl
          exact sRret Cx hr hlk hW hL ⟨hI8, hFm8, ⟨by decide, by omega, by omega, (by by_cases z : 1000 ≤ i; (exact he8.fin (.inl z)); (exact he8.fin (.inr ((bv_0 hI8 (o := 169) rfl hb8a).mp (by omega))))), hb8b⟩⟩ dX5_common_55
        · refine lv_aload hx hb dX5_common_16 (lv_at hl 1 rfl) ?_
          have q_22 : (-1) ≤ S8.1 169 2 ∧ S8.1 169 2 ≤ 1 := hI8.fi 169 2 0 (by decide) rfl
          refine g_X5_126 Cx hW (k := 169) (by decide) rfl (v := S8.1 169 2) rfl dX5_common_18 ?_
          refine r_if_eq (tgt := 54) hx hb ⟨(by omega), (by omega)⟩ dX5_common_21 (by decide) (fun c_23 => ?_) (fun c_23 => ?_)
          · refine lv_aload_n hx hb dX5_common_54 rfl (lv_at hl 2 rfl) ?_
            have q_24 : 0 ≤ S8.1 169 1 ∧ S8.1 169 1 ≤ 32 := hI8.fi 169 1 0 (by decide) rfl
            have q_25 : 0 ≤ S8.1 171 1 ∧ S8.1 171 1 ≤ 32 := hI8.fi 171 1 0 (by decide) rfl
            exact sRret Cx hr hlk hW hL ⟨hI8, hFm8, ⟨by decide, by omega, by omega, (by by_cases z : 1000 ≤ i; (exact he8.fin (.inl z)); (exact he8.fin (.inr ((bv_0 hI8 (o := 169) rfl hb8a).mp (by omega))))), hb8b⟩⟩ dX5_common_55
          · have hlz : bv S8 169 ≠ 0 := fun z => absurd ((bv_0 hI8 (o := 169) rfl hb8a).mpr z) (by omega)
            have hlp : 0 < S8.1 169 2 := bv_sg (hI8.fi 169 2 0 (by decide) rfl) (VR_0 hI8 rfl) (by have y := he8.2.1; omega)
            refine lv_aload_n hx hb dX5_common_24 rfl (lv_at hl 2 rfl) ?_
            refine lv_aload hx hb dX5_common_25 (lv_at hl 1 rfl) ?_
            refine lv_aload_n hx hb dX5_common_27 rfl (lv_at hl 3 rfl) ?_
            refine g_X5_46 Cx hW (k := 157) (by decide) rfl (v := .ref (G.2.2.1 + 173)) (rf_157_8 hI8) dX5_common_28 ?_
            refine lv_aload_n hx hb dX5_common_31 rfl (lv_at hl 3 rfl) ?_
            refine g_X5_49 Cx hW (k := 157) (by decide) rfl (v := .ref (G.2.2.1 + 175)) (rf_157_9 hI8) dX5_common_32 ?_
            have q_26 : 0 ≤ S8.1 171 1 ∧ S8.1 171 1 ≤ 32 := hI8.fi 171 1 0 (by decide) rfl
            have q_27 : 0 ≤ S8.1 169 1 ∧ S8.1 169 1 ≤ 32 := hI8.fi 169 1 0 (by decide) rfl
            have q_28 : (-1) ≤ S8.1 171 2 ∧ S8.1 171 2 ≤ 1 := hI8.fi 171 2 0 (by decide) rfl
            refine sBv (sV (As := [.ref (G.2.2.1 + 169), .ref (G.2.2.1 + 173), .ref (G.2.2.1 + 175)]) (rest := []) (k := 171) Cx (b_X0_divide l G S8 (o := 171) (b := 169) (q := 173) (h := 175) (n := 12) hI8 rfl rfl rfl rfl (show (171 : Nat) ≠ 169 by decide) (show (171 : Nat) ≠ 173 by decide) (show (171 : Nat) ≠ 175 by decide) (show (169 : Nat) ≠ 173 by decide) (show (169 : Nat) ≠ 175 by decide) (show (173 : Nat) ≠ 175 by decide) (show Hd (bs S8 171) from hb8b) (show Hd (bs S8 169) from hb8a) (by omega)) (c_X5_137 Cx rfl rfl (rmk_ok (by omega) (by decide))) hW (by decide) rfl rfl rfl hl.1 rfl (Nat.le_of_ble_eq_true rfl) dX5_common_35 ⟨Nat.le_of_ble_eq_true rfl, Nat.le_of_ble_eq_true rfl⟩) hL (fun u_29 H locs k_30 hW hL => ?_)
            obtain ⟨iu_29, fu_29, xu_29⟩ := k_30
            have F_31 := hFm8.trans (fu_29.to (pD_sub (pB_sub rfl rfl) (pB_sub rfl rfl) (pB_sub rfl rfl)))
            have F_32 := hL8_.trans (fu_29.to (pD_sub (pB_sub rfl rfl) (pB_sub rfl rfl) (pB_sub rfl rfl)))
            have bv_33 : bv u_29 173 = (bv S8 171) / (bv S8 169) := (by have e : bv u_29 173 = _ := (xu_29.2.2.2.2.2.2.1 (by omega)).1; rw [(show bv S8 171 = bv S8 171 from rfl), (show bv S8 169 = bv S8 169 from rfl)] at e; exact e)
            have bv_34 : bv u_29 171 = (bv S8 171) % (bv S8 169) := (by have e : bv u_29 171 = _ := (xu_29.2.2.2.2.2.2.1 (by omega)).2; rw [(show bv S8 171 = bv S8 171 from rfl), (show bv S8 169 = bv S8 169 from rfl)] at e; exact e)
            refine lv_aload_n hx hb dX5_common_38 rfl (lv_at hl 2 rfl) ?_
            refine lv_astore (lv' := [(6, .ref (G.2.2.1 + 171)), (5, .int (iv i)), (4, .ref (G.2.2.1 + 169)), (3, .ref (G.2.2.1 + 171)), (0, .ref (G.2.2.1 + 157)), (1, .ref (G.2.2.1 + 169)), (2, .ref (G.2.2.1 + 171))]) hx hb dX5_common_39 hl (by decide) rfl (fun ls hl => ?_)
            refine lv_aload hx hb dX5_common_41 (lv_at hl 2 rfl) ?_
            refine lv_astore_n (lv' := [(3, .ref (G.2.2.1 + 169)), (6, .ref (G.2.2.1 + 171)), (5, .int (iv i)), (4, .ref (G.2.2.1 + 169)), (0, .ref (G.2.2.1 + 157)), (1, .ref (G.2.2.1 + 169)), (2, .ref (G.2.2.1 + 171))]) hx hb dX5_common_43 rfl hl (by decide) rfl (fun ls hl => ?_)
            refine lv_aload hx hb dX5_common_44 (lv_at hl 1 rfl) ?_
            refine lv_astore (lv' := [(4, .ref (G.2.2.1 + 171)), (3, .ref (G.2.2.1 + 169)), (6, .ref (G.2.2.1 + 171)), (5, .int (iv i)), (0, .ref (G.2.2.1 + 157)), (1, .ref (G.2.2.1 + 169)), (2, .ref (G.2.2.1 + 171))]) hx hb dX5_common_46 hl (by decide) rfl (fun ls hl => ?_)
            refine lv_iinc (v := iv (i + 1)) (lv' := [(5, .int (iv (i + 1))), (4, .ref (G.2.2.1 + 171)), (3, .ref (G.2.2.1 + 169)), (6, .ref (G.2.2.1 + 171)), (0, .ref (G.2.2.1 + 157)), (1, .ref (G.2.2.1 + 169)), (2, .ref (G.2.2.1 + 171))]) hx hb dX5_common_48 hl (k := 3) rfl ((Int32.ofInt_add _ _).symm) (by decide) rfl (fun ls hl => ?_)
            refine lv_goto (tgt := 8) hx hb dX5_common_51 (by decide) ?_
            have lk_35 : u_29.1 169 1 = S8.1 169 1 := (fu_29 169 rfl).1 1
            have q_36 : 0 ≤ u_29.1 171 1 ∧ u_29.1 171 1 ≤ 32 := iu_29.fi 171 1 0 (by decide) rfl
            exact ih_8 u_29 (i + 1) 171 169 _ _ _ (by omega) iu_29 F_31 F_32 (by omega) (by omega) (by omega) (show Hd (bs u_29 169) from (bs_fr fu_29 rfl hb8a)) (show Hd (bs u_29 171) from xu_29.2.2.2.2.2.2.2.2) (by rw [(show bv u_29 169 = bv S8 169 from bv_fr fu_29 rfl rfl), (show bv u_29 171 = (bv S8 171) % (bv S8 169) from bv_34)]; exact he8.st (by omega) hlz) hW hL (lv_sub hl [0, 1, 2, 4, 5, 6] rfl)
  have q_37 : 0 ≤ S.1 169 1 ∧ S.1 169 1 ≤ 32 := hI.fi 169 1 0 (by decide) rfl
  have q_38 : 0 ≤ S.1 171 1 ∧ S.1 171 1 ≤ 32 := hI.fi 171 1 0 (by decide) rfl
  exact loop_8 (_ + 1) S 0 171 169 _ _ _ (Nat.lt_succ_self _) hI (Fr.rf : Fr S S pP) Fr.rf (by omega) (by omega) (by omega) hs9 hs1 (eIv.i0 hnn ⟨(show bv S 169 < pw 12 by have a := VR_lt hI (o := 169) rfl; have b := VR_0 hI (o := 169) rfl; have s := hI.fi 169 2 0 (by decide) rfl; exact Int.lt_of_le_of_lt (bv_le s b) (Int.lt_of_lt_of_le a (pw_le (by omega)))), (show bv S 171 < pw 12 by have a := VR_lt hI (o := 171) rfl; have b := VR_0 hI (o := 171) rfl; have s := hI.fi 171 2 0 (by decide) rfl; exact Int.lt_of_le_of_lt (bv_le s b) (Int.lt_of_lt_of_le a (pw_le (by omega))))⟩) hW hL (lv_sub hl [0, 1, 2, 3, 4, 5] rfl)

set_option maxRecDepth 100000 in
set_option maxHeartbeats 4000000 in
theorem v_X5_reduce (l : Launch) (G : sG) (S : sS) {tn : Int} (hI : cX G S 0 0 0) (hab : S.1 163 1 ≤ 7 ∧ S.1 165 1 ≤ 7) (htn : 0 ≤ tn ∧ tn ≤ 1) (hs3 : Hd (bs S 163)) (hs5 : Hd (bs S 165)) (hp5 : 0 < bv S 165) : Met l yX5_reduce (.code yX5_reduce cX5_reduce 4 none :: tb) (rmk 6 0 0) (sPc G 294 S [.ref (G.2.2.1 + 157), .ref (G.2.2.1 + 163), .ref (G.2.2.1 + 165), .int (iv tn)]) (sQv G 294 (fun u => cX G u 0 0 0 ∧ Fr S u pRe ∧ (Hd (bv u 163 = (if tn = 1 then -(bv S 163) else bv S 163) / (gc (absI (bv S 163)) (bv S 165))) ∧ Hd (bv u 165 = bv S 165 / (gc (absI (bv S 163)) (bv S 165))) ∧ Hd (bs u 163) ∧ Hd (bs u 165)))) 0 0 (sF G) := by
  refine sEnter (by decide) (Nat.le_of_ble_eq_true rfl) ?_
  intro p e s m args below meth c Cx hr hlk hnm hW ls hl
  have Cx : sC G p m c cX5_reduce 4 s args RX5 := Cx
  obtain ⟨hx, hb, hml, hown, hts⟩ := id Cx.1
  have hL : sL G [] := sL_nil
  have hl : lv_has ls 4 [(0, .ref (G.2.2.1 + 157)), (1, .ref (G.2.2.1 + 163)), (2, .ref (G.2.2.1 + 165)), (3, .int (iv tn))] := hl
  have hW0 := hW
  refine lv_aload_n hx hb dX5_reduce_0 rfl (lv_at hl 0 rfl) ?_
  refine g_X5_30 Cx hW (k := 157) (by decide) rfl (v := .ref (G.2.2.1 + 163)) (rf_157_3 hI) dX5_reduce_1 ?_
  refine lv_aload_n hx hb dX5_reduce_4 rfl (lv_at hl 1 rfl) ?_
  have q_1 : 0 ≤ S.1 163 1 ∧ S.1 163 1 ≤ 32 := hI.fi 163 1 0 (by decide) rfl
  have q_2 : (-1) ≤ S.1 163 2 ∧ S.1 163 2 ≤ 1 := hI.fi 163 2 0 (by decide) rfl
  refine sBv (sV (As := [.ref (G.2.2.1 + 163)]) (rest := []) (k := 163) Cx (s_X0_copy l G S (o := 163) (a := 163) hI rfl rfl) (c_X5_141 Cx rfl rfl (rmk_ok (by omega) (by decide))) hW (by decide) rfl rfl rfl hl.1 rfl (Nat.le_of_ble_eq_true rfl) dX5_reduce_5 ⟨Nat.le_of_ble_eq_true rfl, Nat.le_of_ble_eq_true rfl⟩) hL (fun u_3 H locs k_4 hW hL => ?_)
  obtain ⟨iu_3, fu_3, xu_3⟩ := k_4
  have F_5 := (Fr.rf : Fr S S pRe).trans (fu_3.to (pB_sub rfl rfl))
  have bv_6 : bv u_3 163 = bv S 163 := (cp_bv xu_3.1 xu_3.2.1 xu_3.2.2).trans ((show bv S 163 = bv S 163 from rfl))
  have join_19 : ∀ (S19 : sS)  (H : Heap) (locs : List Loc) (ls : Array Slot), (cX G S19 0 0 0) → (Fr S S19 pRe) → (Fr u_3 S19 (pB 163)) → (S19.1 163 1 ≤ 7) → (Hd (bv S19 163 = (if tn = 1 then -(bv S 163) else bv S 163))) → (Hd (bs S19 163)) → sW G 294 S19 H → sL G locs → lv_has ls 4 [(0, .ref (G.2.2.1 + 157)), (1, .ref (G.2.2.1 + 163)), (2, .ref (G.2.2.1 + 165)), (3, .int (iv tn))] → W p l e (rmk 6 0 0) s m args below meth c H locs 0 0 (MQ below (sQv G 294 (fun u => cX G u 0 0 0 ∧ Fr S u pRe ∧ (Hd (bv u 163 = (if tn = 1 then -(bv S 163) else bv S 163) / (gc (absI (bv S 163)) (bv S 165))) ∧ Hd (bv u 165 = bv S 165 / (gc (absI (bv S 163)) (bv S 165))) ∧ Hd (bs u 163) ∧ Hd (bs u 165)))) args s 0 0 (sF G)) (F0 m 19 ls []) := by
    intro S19  H locs ls hI19 hFm19 hL19_ hu7 hv19 hb19 hW hL hl
    refine lv_aload_n hx hb dX5_reduce_19 rfl (lv_at hl 0 rfl) ?_
    refine g_X5_34 Cx hW (k := 157) (by decide) rfl (v := .ref (G.2.2.1 + 165)) (rf_157_4 hI19) dX5_reduce_20 ?_
    refine lv_aload_n hx hb dX5_reduce_23 rfl (lv_at hl 2 rfl) ?_
    have q_7 : 0 ≤ S.1 165 1 ∧ S.1 165 1 ≤ 32 := hI.fi 165 1 0 (by decide) rfl
    have lk_8 : S19.1 165 1 = S.1 165 1 := ((hL19_ 165 rfl).1 1).trans ((fu_3 165 rfl).1 1)
    have q_9 : (-1) ≤ S.1 165 2 ∧ S.1 165 2 ≤ 1 := hI.fi 165 2 0 (by decide) rfl
    have lk_10 : S19.1 165 2 = S.1 165 2 := ((hL19_ 165 rfl).1 2).trans ((fu_3 165 rfl).1 2)
    refine sBv (sV (As := [.ref (G.2.2.1 + 165)]) (rest := []) (k := 165) Cx (s_X0_copy l G S19 (o := 165) (a := 165) hI19 rfl rfl) (c_X5_141 Cx rfl rfl (rmk_ok (by omega) (by decide))) hW (by decide) rfl rfl rfl hl.1 rfl (Nat.le_of_ble_eq_true rfl) dX5_reduce_24 ⟨Nat.le_of_ble_eq_true rfl, Nat.le_of_ble_eq_true rfl⟩) hL (fun u_11 H locs k_12 hW hL => ?_)
    obtain ⟨iu_11, fu_11, xu_11⟩ := k_12
    have F_13 := hFm19.trans (fu_11.to (pB_sub rfl rfl))
    have bv_14 : bv u_11 165 = bv S 165 := (cp_bv xu_11.1 xu_11.2.1 xu_11.2.2).trans ((show bv S19 165 = bv S 165 from (bv_fr hL19_ rfl rfl).trans (bv_fr fu_3 rfl rfl)))
    refine lv_aload_n hx hb dX5_reduce_27 rfl (lv_at hl 0 rfl) ?_
    refine g_X5_40 Cx hW (k := 157) (by decide) rfl (v := .ref (G.2.2.1 + 169)) (rf_157_6 iu_11) dX5_reduce_28 ?_
    refine lv_aload_n hx hb dX5_reduce_31 rfl (lv_at hl 1 rfl) ?_
    have q_15 : 0 ≤ S19.1 163 1 ∧ S19.1 163 1 ≤ 32 := hI19.fi 163 1 0 (by decide) rfl
    have lk_16 : u_11.1 163 1 = S19.1 163 1 := (fu_11 163 rfl).1 1
    have q_17 : (-1) ≤ S19.1 163 2 ∧ S19.1 163 2 ≤ 1 := hI19.fi 163 2 0 (by decide) rfl
    have lk_18 : u_11.1 163 2 = S19.1 163 2 := (fu_11 163 rfl).1 2
    refine sBv (sV (As := [.ref (G.2.2.1 + 163)]) (rest := []) (k := 169) Cx (s_X0_copy l G u_11 (o := 169) (a := 163) iu_11 rfl rfl) (c_X5_141 Cx rfl rfl (rmk_ok (by omega) (by decide))) hW (by decide) rfl rfl rfl hl.1 rfl (Nat.le_of_ble_eq_true rfl) dX5_reduce_32 ⟨Nat.le_of_ble_eq_true rfl, Nat.le_of_ble_eq_true rfl⟩) hL (fun u_19 H locs k_20 hW hL => ?_)
    obtain ⟨iu_19, fu_19, xu_19⟩ := k_20
    have F_21 := F_13.trans (fu_19.to (pB_sub rfl rfl))
    have bv_22 : bv u_19 169 = (if tn = 1 then -(bv S 163) else bv S 163) := (cp_bv xu_19.1 xu_19.2.1 xu_19.2.2).trans ((show bv u_11 163 = (if tn = 1 then -(bv S 163) else bv S 163) from (bv_fr fu_11 rfl rfl).trans (hv19)))
    refine lv_aload_n hx hb dX5_reduce_35 rfl (lv_at hl 0 rfl) ?_
    refine g_X5_40 Cx hW (k := 157) (by decide) rfl (v := .ref (G.2.2.1 + 169)) (rf_157_6 iu_19) dX5_reduce_36 ?_
    refine lv_aload_n hx hb dX5_reduce_39 rfl (lv_at hl 0 rfl) ?_
    refine g_X5_40 Cx hW (k := 157) (by decide) rfl (v := .ref (G.2.2.1 + 169)) (rf_157_6 iu_19) dX5_reduce_40 ?_
    have q_23 : (-1) ≤ u_19.1 169 2 ∧ u_19.1 169 2 ≤ 1 := iu_19.fi 169 2 0 (by decide) rfl
    refine g_X5_126 Cx hW (k := 169) (by decide) rfl (v := u_19.1 169 2) rfl dX5_reduce_43 ?_
    refine r_abs hx hb (hml.trans hl.1.symm) hown (hts _ w_1652) (hts _ w_1156) (hts _ w_206) (hts _ w_1157) (rmk_f (by omega)) (rmk_l (by omega) (Nat.le_of_ble_eq_true rfl)) (Nat.le_of_ble_eq_true rfl) (Nat.le_of_ble_eq_true rfl) ⟨(by omega), (by omega)⟩ dX5_reduce_46 (fun z_24 hz_24 => ?_)
    refine p_X5_126 Cx hW hL (k := 169) (by decide) rfl dX5_reduce_49 (fun H locs hW hL => ?_)
    have F_25 : Fr S (uF u_19 169 2 z_24) pRe := F_21.F rfl
    have i_26 : cX G (uF u_19 169 2 z_24) 0 0 0 := iu_19.F rfl rfl (show (-1) ≤ z_24 ∧ z_24 ≤ 1 from ⟨by omega, by omega⟩)
    have hsg9 : -1 ≤ u_19.1 169 2 ∧ u_19.1 169 2 ≤ 1 := iu_19.fi 169 2 0 (by decide) rfl
    have hab9 : bv (uF u_19 169 2 z_24) 169 = absI (bv S 163) := (bv_ab (S := u_19) (o := 169) (z := z_24) hsg9 (by omega) (VR_0 iu_19 rfl)).trans (by rw [(show bv u_19 169 = (if tn = 1 then -(bv S 163) else bv S 163) from bv_22)]; split; (exact absI_n _); rfl)
    have hbb9 : Hd (bs (uF u_19 169 2 z_24) 169) := bs_F2 (show Hd (bs u_19 169) from (cp_bs xu_19.1 xu_19.2.1 (show Hd (bs u_11 163) from (bs_fr fu_11 rfl hb19)))) (by omega)
    refine lv_aload_n hx hb dX5_reduce_52 rfl (lv_at hl 0 rfl) ?_
    refine g_X5_43 Cx hW (k := 157) (by decide) rfl (v := .ref (G.2.2.1 + 171)) (rf_157_7 i_26) dX5_reduce_53 ?_
    refine lv_aload_n hx hb dX5_reduce_56 rfl (lv_at hl 2 rfl) ?_
    have q_27 : 0 ≤ u_11.1 165 1 ∧ u_11.1 165 1 ≤ 32 := iu_11.fi 165 1 0 (by decide) rfl
    have lk_28 : (uF u_19 169 2 z_24).1 165 1 = u_11.1 165 1 := (uF_ne (fun h => absurd h.2 (by decide))).trans ((fu_19 165 rfl).1 1)
    have q_29 : (-1) ≤ u_11.1 165 2 ∧ u_11.1 165 2 ≤ 1 := iu_11.fi 165 2 0 (by decide) rfl
    have lk_30 : (uF u_19 169 2 z_24).1 165 2 = u_11.1 165 2 := (uF_ne (fun h => absurd h.1 (by decide))).trans ((fu_19 165 rfl).1 2)
    refine sBv (sV (As := [.ref (G.2.2.1 + 165)]) (rest := []) (k := 171) Cx (s_X0_copy l G (uF u_19 169 2 z_24) (o := 171) (a := 165) i_26 rfl rfl) (c_X5_141 Cx rfl rfl (rmk_ok (by omega) (by decide))) hW (by decide) rfl rfl rfl hl.1 rfl (Nat.le_of_ble_eq_true rfl) dX5_reduce_57 ⟨Nat.le_of_ble_eq_true rfl, Nat.le_of_ble_eq_true rfl⟩) hL (fun u_31 H locs k_32 hW hL => ?_)
    obtain ⟨iu_31, fu_31, xu_31⟩ := k_32
    have F_33 := F_25.trans (fu_31.to (pB_sub rfl rfl))
    have bv_34 : bv u_31 171 = bv S 165 := (cp_bv xu_31.1 xu_31.2.1 xu_31.2.2).trans ((show bv (uF u_19 169 2 z_24) 165 = bv S 165 from (bv_F (fun h => absurd h (by decide))).trans ((bv_fr fu_19 rfl rfl).trans (bv_14))))
    refine lv_aload_n hx hb dX5_reduce_60 rfl (lv_at hl 0 rfl) ?_
    refine g_X5_37 Cx hW (k := 157) (by decide) rfl (v := .ref (G.2.2.1 + 167)) (rf_157_5 iu_31) dX5_reduce_61 ?_
    refine lv_aload_n hx hb dX5_reduce_64 rfl (lv_at hl 0 rfl) ?_
    refine lv_aload_n hx hb dX5_reduce_65 rfl (lv_at hl 0 rfl) ?_
    refine g_X5_40 Cx hW (k := 157) (by decide) rfl (v := .ref (G.2.2.1 + 169)) (rf_157_6 iu_31) dX5_reduce_66 ?_
    refine lv_aload_n hx hb dX5_reduce_69 rfl (lv_at hl 0 rfl) ?_
    refine g_X5_43 Cx hW (k := 157) (by decide) rfl (v := .ref (G.2.2.1 + 171)) (rf_157_7 iu_31) dX5_reduce_70 ?_
    have q_35 : 0 ≤ u_19.1 169 1 ∧ u_19.1 169 1 ≤ 32 := iu_19.fi 169 1 0 (by decide) rfl
    have lk_36 : u_31.1 169 1 = u_19.1 169 1 := ((fu_31 169 rfl).1 1).trans (uF_ne (fun h => absurd h.2 (by decide)))
    have q_37 : 0 ≤ u_31.1 171 1 ∧ u_31.1 171 1 ≤ 32 := iu_31.fi 171 1 0 (by decide) rfl
    refine sBr (sV (As := [.ref (G.2.2.1 + 169), .ref (G.2.2.1 + 171)]) (rest := [.ref (G.2.2.1 + 167)]) (k := 157) Cx (v_X5_common l G u_31  iu_31 (by omega) (show Hd (bs u_31 169) from (bs_fr fu_31 rfl hbb9)) (show Hd (bs u_31 171) from (cp_bs xu_31.1 xu_31.2.1 (show Hd (bs (uF u_19 169 2 z_24) 165) from (bs_F (fun h => absurd h (by decide)) (bs_fr fu_19 rfl (cp_bs xu_11.1 xu_11.2.1 (show Hd (bs S19 165) from (bs_fr hL19_ rfl (bs_fr fu_3 rfl hs5))))))))) ⟨by rw [(show bv u_31 169 = absI (bv S 163) from (bv_fr fu_31 rfl rfl).trans (hab9))]; exact absI_0 _, by rw [(show bv u_31 171 = bv S 165 from bv_34)]; omega⟩) (c_X5_152 Cx rfl rfl (rmk_ok (by omega) (by decide))) hW (by decide) rfl rfl rfl hl.1 rfl (Nat.le_of_ble_eq_true rfl) dX5_reduce_73 ⟨Nat.le_of_ble_eq_true rfl, Nat.le_of_ble_eq_true rfl⟩) hL (fun r_40 u_38 H locs k_39 hW hL => ?_)
    obtain ⟨iu_38, fu_38, xu_38⟩ := k_39
    have F_41 := F_33.trans (fu_38.to pP_Re)
    have hcmu_38 : gc (bv u_31 169) (bv u_31 171) = gc (absI (bv S 163)) (bv S 165) := (by rw [(show bv u_31 169 = absI (bv S 163) from (bv_fr fu_31 rfl rfl).trans (hab9)), (show bv u_31 171 = bv S 165 from bv_34)])
    rcases xu_38.1 with rfl | rfl
    · have q_42 : 0 ≤ u_38.1 169 1 ∧ u_38.1 169 1 ≤ 32 := iu_38.fi 169 1 0 (by decide) rfl
      have q_43 : (-1) ≤ u_38.1 169 2 ∧ u_38.1 169 2 ≤ 1 := iu_38.fi 169 2 0 (by decide) rfl
      refine sBv (sV (As := [.ref (G.2.2.1 + 169)]) (rest := []) (k := 167) Cx (s_X0_copy l G u_38 (o := 167) (a := 169) iu_38 rfl rfl) (c_X5_141 Cx rfl rfl (rmk_ok (by omega) (by decide))) hW (by decide) rfl rfl rfl hl.1 rfl (Nat.le_of_ble_eq_true rfl) dX5_reduce_76 ⟨Nat.le_of_ble_eq_true rfl, Nat.le_of_ble_eq_true rfl⟩) hL (fun u_44 H locs k_45 hW hL => ?_)
      obtain ⟨iu_44, fu_44, xu_44⟩ := k_45
      have F_46 := F_41.trans (fu_44.to (pB_sub rfl rfl))
      have bv_47 : bv u_44 167 = gc (absI (bv S 163)) (bv S 165) := (cp_bv xu_44.1 xu_44.2.1 xu_44.2.2).trans ((show bv u_38 169 = gc (absI (bv S 163)) (bv S 165) from (xu_38.2.2.2.1.trans hcmu_38)))
      refine lv_aload_n hx hb dX5_reduce_79 rfl (lv_at hl 0 rfl) ?_
      refine g_X5_30 Cx hW (k := 157) (by decide) rfl (v := .ref (G.2.2.1 + 163)) (rf_157_3 iu_44) dX5_reduce_80 ?_
      refine lv_aload_n hx hb dX5_reduce_83 rfl (lv_at hl 0 rfl) ?_
      refine g_X5_37 Cx hW (k := 157) (by decide) rfl (v := .ref (G.2.2.1 + 167)) (rf_157_5 iu_44) dX5_reduce_84 ?_
      refine lv_aload_n hx hb dX5_reduce_87 rfl (lv_at hl 0 rfl) ?_
      refine g_X5_46 Cx hW (k := 157) (by decide) rfl (v := .ref (G.2.2.1 + 173)) (rf_157_8 iu_44) dX5_reduce_88 ?_
      refine lv_aload_n hx hb dX5_reduce_91 rfl (lv_at hl 0 rfl) ?_
      refine g_X5_49 Cx hW (k := 157) (by decide) rfl (v := .ref (G.2.2.1 + 175)) (rf_157_9 iu_44) dX5_reduce_92 ?_
      have hsg_48 : 0 < u_44.1 167 2 := bv_sg (iu_44.fi 167 2 0 (by decide) rfl) (VR_0 iu_44 rfl) (by rw [(show bv u_44 167 = gc (absI (bv S 163)) (bv S 165) from bv_47)]; exact (by rw [gc_cm]; exact gc_p hp5))
      have lk_49 : u_44.1 163 1 = S19.1 163 1 := ((fu_44 163 rfl).1 1).trans (((fu_38 163 rfl).1 1).trans (((fu_31 163 rfl).1 1).trans ((uF_ne (fun h => absurd h.2 (by decide))).trans (((fu_19 163 rfl).1 1).trans ((fu_11 163 rfl).1 1)))))
      have q_50 : 0 ≤ u_44.1 167 1 ∧ u_44.1 167 1 ≤ 32 := iu_44.fi 167 1 0 (by decide) rfl
      have lk_51 : u_44.1 163 2 = S19.1 163 2 := ((fu_44 163 rfl).1 2).trans (((fu_38 163 rfl).1 2).trans (((fu_31 163 rfl).1 2).trans ((uF_ne (fun h => absurd h.1 (by decide))).trans (((fu_19 163 rfl).1 2).trans ((fu_11 163 rfl).1 2)))))
      have q_52 : (-1) ≤ u_44.1 167 2 ∧ u_44.1 167 2 ≤ 1 := iu_44.fi 167 2 0 (by decide) rfl
      refine sBv (sV (As := [.ref (G.2.2.1 + 167), .ref (G.2.2.1 + 173), .ref (G.2.2.1 + 175)]) (rest := []) (k := 163) Cx (b_X0_divide l G u_44 (o := 163) (b := 167) (q := 173) (h := 175) (n := 12) iu_44 rfl rfl rfl rfl (show (163 : Nat) ≠ 167 by decide) (show (163 : Nat) ≠ 173 by decide) (show (163 : Nat) ≠ 175 by decide) (show (167 : Nat) ≠ 173 by decide) (show (167 : Nat) ≠ 175 by decide) (show (173 : Nat) ≠ 175 by decide) (show Hd (bs u_44 163) from (bs_fr fu_44 rfl (bs_fr fu_38 rfl (bs_fr fu_31 rfl (bs_F (fun h => absurd h (by decide)) (bs_fr fu_19 rfl (bs_fr fu_11 rfl hb19))))))) (show Hd (bs u_44 167) from (cp_bs xu_44.1 xu_44.2.1 (show Hd (bs u_38 169) from xu_38.2.2.2.2))) (by omega)) (c_X5_137 Cx rfl rfl (rmk_ok (by omega) (by decide))) hW (by decide) rfl rfl rfl hl.1 rfl (Nat.le_of_ble_eq_true rfl) dX5_reduce_95 ⟨Nat.le_of_ble_eq_true rfl, Nat.le_of_ble_eq_true rfl⟩) hL (fun u_53 H locs k_54 hW hL => ?_)
      obtain ⟨iu_53, fu_53, xu_53⟩ := k_54
      have F_55 := F_46.trans (fu_53.to (pD_sub (pB_sub rfl rfl) (pB_sub rfl rfl) (pB_sub rfl rfl)))
      have bv_56 : bv u_53 173 = ((if tn = 1 then -(bv S 163) else bv S 163)) / (gc (absI (bv S 163)) (bv S 165)) := (by have e : bv u_53 173 = _ := (xu_53.2.2.2.2.2.2.1 (by omega)).1; rw [(show bv u_44 163 = (if tn = 1 then -(bv S 163) else bv S 163) from (bv_fr fu_44 rfl rfl).trans ((bv_fr fu_38 rfl rfl).trans ((bv_fr fu_31 rfl rfl).trans ((bv_F (fun h => absurd h (by decide))).trans ((bv_fr fu_19 rfl rfl).trans ((bv_fr fu_11 rfl rfl).trans (hv19))))))), (show bv u_44 167 = gc (absI (bv S 163)) (bv S 165) from bv_47)] at e; exact e)
      have bv_57 : bv u_53 163 = ((if tn = 1 then -(bv S 163) else bv S 163)) % (gc (absI (bv S 163)) (bv S 165)) := (by have e : bv u_53 163 = _ := (xu_53.2.2.2.2.2.2.1 (by omega)).2; rw [(show bv u_44 163 = (if tn = 1 then -(bv S 163) else bv S 163) from (bv_fr fu_44 rfl rfl).trans ((bv_fr fu_38 rfl rfl).trans ((bv_fr fu_31 rfl rfl).trans ((bv_F (fun h => absurd h (by decide))).trans ((bv_fr fu_19 rfl rfl).trans ((bv_fr fu_11 rfl rfl).trans (hv19))))))), (show bv u_44 167 = gc (absI (bv S 163)) (bv S 165) from bv_47)] at e; exact e)
      refine lv_aload_n hx hb dX5_reduce_98 rfl (lv_at hl 0 rfl) ?_
      refine g_X5_30 Cx hW (k := 157) (by decide) rfl (v := .ref (G.2.2.1 + 163)) (rf_157_3 iu_53) dX5_reduce_99 ?_
      refine lv_aload_n hx hb dX5_reduce_102 rfl (lv_at hl 0 rfl) ?_
      refine g_X5_46 Cx hW (k := 157) (by decide) rfl (v := .ref (G.2.2.1 + 173)) (rf_157_8 iu_53) dX5_reduce_103 ?_
      have q_58 : 0 ≤ u_53.1 173 1 ∧ u_53.1 173 1 ≤ 32 := iu_53.fi 173 1 0 (by decide) rfl
      have q_59 : (-1) ≤ u_53.1 173 2 ∧ u_53.1 173 2 ≤ 1 := iu_53.fi 173 2 0 (by decide) rfl
      refine sBv (sV (As := [.ref (G.2.2.1 + 173)]) (rest := []) (k := 163) Cx (s_X0_copy l G u_53 (o := 163) (a := 173) iu_53 rfl rfl) (c_X5_141 Cx rfl rfl (rmk_ok (by omega) (by decide))) hW (by decide) rfl rfl rfl hl.1 rfl (Nat.le_of_ble_eq_true rfl) dX5_reduce_106 ⟨Nat.le_of_ble_eq_true rfl, Nat.le_of_ble_eq_true rfl⟩) hL (fun u_60 H locs k_61 hW hL => ?_)
      obtain ⟨iu_60, fu_60, xu_60⟩ := k_61
      have F_62 := F_55.trans (fu_60.to (pB_sub rfl rfl))
      have bv_63 : bv u_60 163 = ((if tn = 1 then -(bv S 163) else bv S 163)) / (gc (absI (bv S 163)) (bv S 165)) := (cp_bv xu_60.1 xu_60.2.1 xu_60.2.2).trans ((show bv u_53 173 = ((if tn = 1 then -(bv S 163) else bv S 163)) / (gc (absI (bv S 163)) (bv S 165)) from bv_56))
      refine lv_aload_n hx hb dX5_reduce_109 rfl (lv_at hl 0 rfl) ?_
      refine g_X5_34 Cx hW (k := 157) (by decide) rfl (v := .ref (G.2.2.1 + 165)) (rf_157_4 iu_60) dX5_reduce_110 ?_
      refine lv_aload_n hx hb dX5_reduce_113 rfl (lv_at hl 0 rfl) ?_
      refine g_X5_37 Cx hW (k := 157) (by decide) rfl (v := .ref (G.2.2.1 + 167)) (rf_157_5 iu_60) dX5_reduce_114 ?_
      refine lv_aload_n hx hb dX5_reduce_117 rfl (lv_at hl 0 rfl) ?_
      refine g_X5_46 Cx hW (k := 157) (by decide) rfl (v := .ref (G.2.2.1 + 173)) (rf_157_8 iu_60) dX5_reduce_118 ?_
      refine lv_aload_n hx hb dX5_reduce_121 rfl (lv_at hl 0 rfl) ?_
      refine g_X5_49 Cx hW (k := 157) (by decide) rfl (v := .ref (G.2.2.1 + 175)) (rf_157_9 iu_60) dX5_reduce_122 ?_
      have hsg_64 : 0 < u_60.1 167 2 := bv_sg (iu_60.fi 167 2 0 (by decide) rfl) (VR_0 iu_60 rfl) (by rw [(show bv u_60 167 = gc (absI (bv S 163)) (bv S 165) from (bv_fr fu_60 rfl rfl).trans ((bv_fr fu_53 rfl rfl).trans (bv_47)))]; exact (by rw [gc_cm]; exact gc_p hp5))
      have lk_65 : u_60.1 165 1 = u_11.1 165 1 := ((fu_60 165 rfl).1 1).trans (((fu_53 165 rfl).1 1).trans (((fu_44 165 rfl).1 1).trans (((fu_38 165 rfl).1 1).trans (((fu_31 165 rfl).1 1).trans ((uF_ne (fun h => absurd h.2 (by decide))).trans ((fu_19 165 rfl).1 1))))))
      have lk_66 : u_60.1 167 1 = u_44.1 167 1 := ((fu_60 167 rfl).1 1).trans ((fu_53 167 rfl).1 1)
      have lk_67 : u_60.1 165 2 = u_11.1 165 2 := ((fu_60 165 rfl).1 2).trans (((fu_53 165 rfl).1 2).trans (((fu_44 165 rfl).1 2).trans (((fu_38 165 rfl).1 2).trans (((fu_31 165 rfl).1 2).trans ((uF_ne (fun h => absurd h.1 (by decide))).trans ((fu_19 165 rfl).1 2))))))
      have lk_68 : u_60.1 167 2 = u_44.1 167 2 := ((fu_60 167 rfl).1 2).trans ((fu_53 167 rfl).1 2)
      refine sBv (sV (As := [.ref (G.2.2.1 + 167), .ref (G.2.2.1 + 173), .ref (G.2.2.1 + 175)]) (rest := []) (k := 165) Cx (b_X0_divide l G u_60 (o := 165) (b := 167) (q := 173) (h := 175) (n := 12) iu_60 rfl rfl rfl rfl (show (165 : Nat) ≠ 167 by decide) (show (165 : Nat) ≠ 173 by decide) (show (165 : Nat) ≠ 175 by decide) (show (167 : Nat) ≠ 173 by decide) (show (167 : Nat) ≠ 175 by decide) (show (173 : Nat) ≠ 175 by decide) (show Hd (bs u_60 165) from (bs_fr fu_60 rfl (bs_fr fu_53 rfl (bs_fr fu_44 rfl (bs_fr fu_38 rfl (bs_fr fu_31 rfl (bs_F (fun h => absurd h (by decide)) (bs_fr fu_19 rfl (cp_bs xu_11.1 xu_11.2.1 (show Hd (bs S19 165) from (bs_fr hL19_ rfl (bs_fr fu_3 rfl hs5)))))))))))) (show Hd (bs u_60 167) from (bs_fr fu_60 rfl (bs_fr fu_53 rfl (cp_bs xu_44.1 xu_44.2.1 (show Hd (bs u_38 169) from xu_38.2.2.2.2))))) (by omega)) (c_X5_137 Cx rfl rfl (rmk_ok (by omega) (by decide))) hW (by decide) rfl rfl rfl hl.1 rfl (Nat.le_of_ble_eq_true rfl) dX5_reduce_125 ⟨Nat.le_of_ble_eq_true rfl, Nat.le_of_ble_eq_true rfl⟩) hL (fun u_69 H locs k_70 hW hL => ?_)
      obtain ⟨iu_69, fu_69, xu_69⟩ := k_70
      have F_71 := F_62.trans (fu_69.to (pD_sub (pB_sub rfl rfl) (pB_sub rfl rfl) (pB_sub rfl rfl)))
      have bv_72 : bv u_69 173 = (bv S 165) / (gc (absI (bv S 163)) (bv S 165)) := (by have e : bv u_69 173 = _ := (xu_69.2.2.2.2.2.2.1 (by omega)).1; rw [(show bv u_60 165 = bv S 165 from (bv_fr fu_60 rfl rfl).trans ((bv_fr fu_53 rfl rfl).trans ((bv_fr fu_44 rfl rfl).trans ((bv_fr fu_38 rfl rfl).trans ((bv_fr fu_31 rfl rfl).trans ((bv_F (fun h => absurd h (by decide))).trans ((bv_fr fu_19 rfl rfl).trans (bv_14)))))))), (show bv u_60 167 = gc (absI (bv S 163)) (bv S 165) from (bv_fr fu_60 rfl rfl).trans ((bv_fr fu_53 rfl rfl).trans (bv_47)))] at e; exact e)
      have bv_73 : bv u_69 165 = (bv S 165) % (gc (absI (bv S 163)) (bv S 165)) := (by have e : bv u_69 165 = _ := (xu_69.2.2.2.2.2.2.1 (by omega)).2; rw [(show bv u_60 165 = bv S 165 from (bv_fr fu_60 rfl rfl).trans ((bv_fr fu_53 rfl rfl).trans ((bv_fr fu_44 rfl rfl).trans ((bv_fr fu_38 rfl rfl).trans ((bv_fr fu_31 rfl rfl).trans ((bv_F (fun h => absurd h (by decide))).trans ((bv_fr fu_19 rfl rfl).trans (bv_14)))))))), (show bv u_60 167 = gc (absI (bv S 163)) (bv S 165) from (bv_fr fu_60 rfl rfl).trans ((bv_fr fu_53 rfl rfl).trans (bv_47)))] at e; exact e)
      refine lv_aload_n hx hb dX5_reduce_128 rfl (lv_at hl 0 rfl) ?_
      refine g_X5_34 Cx hW (k := 157) (by decide) rfl (v := .ref (G.2.2.1 + 165)) (rf_157_4 iu_69) dX5_reduce_129 ?_
      refine lv_aload_n hx hb dX5_reduce_132 rfl (lv_at hl 0 rfl) ?_
      refine g_X5_46 Cx hW (k := 157) (by decide) rfl (v := .ref (G.2.2.1 + 173)) (rf_157_8 iu_69) dX5_reduce_133 ?_
      have q_74 : 0 ≤ u_69.1 173 1 ∧ u_69.1 173 1 ≤ 32 := iu_69.fi 173 1 0 (by decide) rfl
      have q_75 : (-1) ≤ u_69.1 173 2 ∧ u_69.1 173 2 ≤ 1 := iu_69.fi 173 2 0 (by decide) rfl
      refine sBv (sV (As := [.ref (G.2.2.1 + 173)]) (rest := []) (k := 165) Cx (s_X0_copy l G u_69 (o := 165) (a := 173) iu_69 rfl rfl) (c_X5_141 Cx rfl rfl (rmk_ok (by omega) (by decide))) hW (by decide) rfl rfl rfl hl.1 rfl (Nat.le_of_ble_eq_true rfl) dX5_reduce_136 ⟨Nat.le_of_ble_eq_true rfl, Nat.le_of_ble_eq_true rfl⟩) hL (fun u_76 H locs k_77 hW hL => ?_)
      obtain ⟨iu_76, fu_76, xu_76⟩ := k_77
      have F_78 := F_71.trans (fu_76.to (pB_sub rfl rfl))
      have bv_79 : bv u_76 165 = (bv S 165) / (gc (absI (bv S 163)) (bv S 165)) := (cp_bv xu_76.1 xu_76.2.1 xu_76.2.2).trans ((show bv u_69 173 = (bv S 165) / (gc (absI (bv S 163)) (bv S 165)) from bv_72))
      exact sVret Cx hr hlk hW hL ⟨iu_76, F_78, ⟨(show bv u_76 163 = ((if tn = 1 then -(bv S 163) else bv S 163)) / (gc (absI (bv S 163)) (bv S 165)) from (bv_fr fu_76 rfl rfl).trans ((bv_fr fu_69 rfl rfl).trans (bv_63))), (show bv u_76 165 = (bv S 165) / (gc (absI (bv S 163)) (bv S 165)) from bv_79), (show Hd (bs u_76 163) from (bs_fr fu_76 rfl (bs_fr fu_69 rfl (cp_bs xu_60.1 xu_60.2.1 (show Hd (bs u_53 173) from xu_53.2.2.2.2.2.2.2.1))))), (show Hd (bs u_76 165) from (cp_bs xu_76.1 xu_76.2.1 (show Hd (bs u_69 173) from xu_69.2.2.2.2.2.2.2.1)))⟩⟩ dX5_reduce_139
    · have q_80 : 0 ≤ u_38.1 171 1 ∧ u_38.1 171 1 ≤ 32 := iu_38.fi 171 1 0 (by decide) rfl
      have q_81 : (-1) ≤ u_38.1 171 2 ∧ u_38.1 171 2 ≤ 1 := iu_38.fi 171 2 0 (by decide) rfl
      refine sBv (sV (As := [.ref (G.2.2.1 + 171)]) (rest := []) (k := 167) Cx (s_X0_copy l G u_38 (o := 167) (a := 171) iu_38 rfl rfl) (c_X5_141 Cx rfl rfl (rmk_ok (by omega) (by decide))) hW (by decide) rfl rfl rfl hl.1 rfl (Nat.le_of_ble_eq_true rfl) dX5_reduce_76 ⟨Nat.le_of_ble_eq_true rfl, Nat.le_of_ble_eq_true rfl⟩) hL (fun u_82 H locs k_83 hW hL => ?_)
      obtain ⟨iu_82, fu_82, xu_82⟩ := k_83
      have F_84 := F_41.trans (fu_82.to (pB_sub rfl rfl))
      have bv_85 : bv u_82 167 = gc (absI (bv S 163)) (bv S 165) := (cp_bv xu_82.1 xu_82.2.1 xu_82.2.2).trans ((show bv u_38 171 = gc (absI (bv S 163)) (bv S 165) from (xu_38.2.2.2.1.trans hcmu_38)))
      refine lv_aload_n hx hb dX5_reduce_79 rfl (lv_at hl 0 rfl) ?_
      refine g_X5_30 Cx hW (k := 157) (by decide) rfl (v := .ref (G.2.2.1 + 163)) (rf_157_3 iu_82) dX5_reduce_80 ?_
      refine lv_aload_n hx hb dX5_reduce_83 rfl (lv_at hl 0 rfl) ?_
      refine g_X5_37 Cx hW (k := 157) (by decide) rfl (v := .ref (G.2.2.1 + 167)) (rf_157_5 iu_82) dX5_reduce_84 ?_
      refine lv_aload_n hx hb dX5_reduce_87 rfl (lv_at hl 0 rfl) ?_
      refine g_X5_46 Cx hW (k := 157) (by decide) rfl (v := .ref (G.2.2.1 + 173)) (rf_157_8 iu_82) dX5_reduce_88 ?_
      refine lv_aload_n hx hb dX5_reduce_91 rfl (lv_at hl 0 rfl) ?_
      refine g_X5_49 Cx hW (k := 157) (by decide) rfl (v := .ref (G.2.2.1 + 175)) (rf_157_9 iu_82) dX5_reduce_92 ?_
      have hsg_86 : 0 < u_82.1 167 2 := bv_sg (iu_82.fi 167 2 0 (by decide) rfl) (VR_0 iu_82 rfl) (by rw [(show bv u_82 167 = gc (absI (bv S 163)) (bv S 165) from bv_85)]; exact (by rw [gc_cm]; exact gc_p hp5))
      have lk_87 : u_82.1 163 1 = S19.1 163 1 := ((fu_82 163 rfl).1 1).trans (((fu_38 163 rfl).1 1).trans (((fu_31 163 rfl).1 1).trans ((uF_ne (fun h => absurd h.2 (by decide))).trans (((fu_19 163 rfl).1 1).trans ((fu_11 163 rfl).1 1)))))
      have q_88 : 0 ≤ u_82.1 167 1 ∧ u_82.1 167 1 ≤ 32 := iu_82.fi 167 1 0 (by decide) rfl
      have lk_89 : u_82.1 163 2 = S19.1 163 2 := ((fu_82 163 rfl).1 2).trans (((fu_38 163 rfl).1 2).trans (((fu_31 163 rfl).1 2).trans ((uF_ne (fun h => absurd h.1 (by decide))).trans (((fu_19 163 rfl).1 2).trans ((fu_11 163 rfl).1 2)))))
      have q_90 : (-1) ≤ u_82.1 167 2 ∧ u_82.1 167 2 ≤ 1 := iu_82.fi 167 2 0 (by decide) rfl
      refine sBv (sV (As := [.ref (G.2.2.1 + 167), .ref (G.2.2.1 + 173), .ref (G.2.2.1 + 175)]) (rest := []) (k := 163) Cx (b_X0_divide l G u_82 (o := 163) (b := 167) (q := 173) (h := 175) (n := 12) iu_82 rfl rfl rfl rfl (show (163 : Nat) ≠ 167 by decide) (show (163 : Nat) ≠ 173 by decide) (show (163 : Nat) ≠ 175 by decide) (show (167 : Nat) ≠ 173 by decide) (show (167 : Nat) ≠ 175 by decide) (show (173 : Nat) ≠ 175 by decide) (show Hd (bs u_82 163) from (bs_fr fu_82 rfl (bs_fr fu_38 rfl (bs_fr fu_31 rfl (bs_F (fun h => absurd h (by decide)) (bs_fr fu_19 rfl (bs_fr fu_11 rfl hb19))))))) (show Hd (bs u_82 167) from (cp_bs xu_82.1 xu_82.2.1 (show Hd (bs u_38 171) from xu_38.2.2.2.2))) (by omega)) (c_X5_137 Cx rfl rfl (rmk_ok (by omega) (by decide))) hW (by decide) rfl rfl rfl hl.1 rfl (Nat.le_of_ble_eq_true rfl) dX5_reduce_95 ⟨Nat.le_of_ble_eq_true rfl, Nat.le_of_ble_eq_true rfl⟩) hL (fun u_91 H locs k_92 hW hL => ?_)
      obtain ⟨iu_91, fu_91, xu_91⟩ := k_92
      have F_93 := F_84.trans (fu_91.to (pD_sub (pB_sub rfl rfl) (pB_sub rfl rfl) (pB_sub rfl rfl)))
      have bv_94 : bv u_91 173 = ((if tn = 1 then -(bv S 163) else bv S 163)) / (gc (absI (bv S 163)) (bv S 165)) := (by have e : bv u_91 173 = _ := (xu_91.2.2.2.2.2.2.1 (by omega)).1; rw [(show bv u_82 163 = (if tn = 1 then -(bv S 163) else bv S 163) from (bv_fr fu_82 rfl rfl).trans ((bv_fr fu_38 rfl rfl).trans ((bv_fr fu_31 rfl rfl).trans ((bv_F (fun h => absurd h (by decide))).trans ((bv_fr fu_19 rfl rfl).trans ((bv_fr fu_11 rfl rfl).trans (hv19))))))), (show bv u_82 167 = gc (absI (bv S 163)) (bv S 165) from bv_85)] at e; exact e)
      have bv_95 : bv u_91 163 = ((if tn = 1 then -(bv S 163) else bv S 163)) % (gc (absI (bv S 163)) (bv S 165)) := (by have e : bv u_91 163 = _ := (xu_91.2.2.2.2.2.2.1 (by omega)).2; rw [(show bv u_82 163 = (if tn = 1 then -(bv S 163) else bv S 163) from (bv_fr fu_82 rfl rfl).trans ((bv_fr fu_38 rfl rfl).trans ((bv_fr fu_31 rfl rfl).trans ((bv_F (fun h => absurd h (by decide))).trans ((bv_fr fu_19 rfl rfl).trans ((bv_fr fu_11 rfl rfl).trans (hv19))))))), (show bv u_82 167 = gc (absI (bv S 163)) (bv S 165) from bv_85)] at e; exact e)
      refine lv_aload_n hx hb dX5_reduce_98 rfl (lv_at hl 0 rfl) ?_
      refine g_X5_30 Cx hW (k := 157) (by decide) rfl (v := .ref (G.2.2.1 + 163)) (rf_157_3 iu_91) dX5_reduce_99 ?_
      refine lv_aload_n hx hb dX5_reduce_102 rfl (lv_at hl 0 rfl) ?_
      refine g_X5_46 Cx hW (k := 157) (by decide) rfl (v := .ref (G.2.2.1 + 173)) (rf_157_8 iu_91) dX5_reduce_103 ?_
      have q_96 : 0 ≤ u_91.1 173 1 ∧ u_91.1 173 1 ≤ 32 := iu_91.fi 173 1 0 (by decide) rfl
      have q_97 : (-1) ≤ u_91.1 173 2 ∧ u_91.1 173 2 ≤ 1 := iu_91.fi 173 2 0 (by decide) rfl
      refine sBv (sV (As := [.ref (G.2.2.1 + 173)]) (rest := []) (k := 163) Cx (s_X0_copy l G u_91 (o := 163) (a := 173) iu_91 rfl rfl) (c_X5_141 Cx rfl rfl (rmk_ok (by omega) (by decide))) hW (by decide) rfl rfl rfl hl.1 rfl (Nat.le_of_ble_eq_true rfl) dX5_reduce_106 ⟨Nat.le_of_ble_eq_true rfl, Nat.le_of_ble_eq_true rfl⟩) hL (fun u_98 H locs k_99 hW hL => ?_)
      obtain ⟨iu_98, fu_98, xu_98⟩ := k_99
      have F_100 := F_93.trans (fu_98.to (pB_sub rfl rfl))
      have bv_101 : bv u_98 163 = ((if tn = 1 then -(bv S 163) else bv S 163)) / (gc (absI (bv S 163)) (bv S 165)) := (cp_bv xu_98.1 xu_98.2.1 xu_98.2.2).trans ((show bv u_91 173 = ((if tn = 1 then -(bv S 163) else bv S 163)) / (gc (absI (bv S 163)) (bv S 165)) from bv_94))
      refine lv_aload_n hx hb dX5_reduce_109 rfl (lv_at hl 0 rfl) ?_
      refine g_X5_34 Cx hW (k := 157) (by decide) rfl (v := .ref (G.2.2.1 + 165)) (rf_157_4 iu_98) dX5_reduce_110 ?_
      refine lv_aload_n hx hb dX5_reduce_113 rfl (lv_at hl 0 rfl) ?_
      refine g_X5_37 Cx hW (k := 157) (by decide) rfl (v := .ref (G.2.2.1 + 167)) (rf_157_5 iu_98) dX5_reduce_114 ?_
      refine lv_aload_n hx hb dX5_reduce_117 rfl (lv_at hl 0 rfl) ?_
      refine g_X5_46 Cx hW (k := 157) (by decide) rfl (v := .ref (G.2.2.1 + 173)) (rf_157_8 iu_98) dX5_reduce_118 ?_
      refine lv_aload_n hx hb dX5_reduce_121 rfl (lv_at hl 0 rfl) ?_
      refine g_X5_49 Cx hW (k := 157) (by decide) rfl (v := .ref (G.2.2.1 + 175)) (rf_157_9 iu_98) dX5_reduce_122 ?_
      have hsg_102 : 0 < u_98.1 167 2 := bv_sg (iu_98.fi 167 2 0 (by decide) rfl) (VR_0 iu_98 rfl) (by rw [(show bv u_98 167 = gc (absI (bv S 163)) (bv S 165) from (bv_fr fu_98 rfl rfl).trans ((bv_fr fu_91 rfl rfl).trans (bv_85)))]; exact (by rw [gc_cm]; exact gc_p hp5))
      have lk_103 : u_98.1 165 1 = u_11.1 165 1 := ((fu_98 165 rfl).1 1).trans (((fu_91 165 rfl).1 1).trans (((fu_82 165 rfl).1 1).trans (((fu_38 165 rfl).1 1).trans (((fu_31 165 rfl).1 1).trans ((uF_ne (fun h => absurd h.2 (by decide))).trans ((fu_19 165 rfl).1 1))))))
      have lk_104 : u_98.1 167 1 = u_82.1 167 1 := ((fu_98 167 rfl).1 1).trans ((fu_91 167 rfl).1 1)
      have lk_105 : u_98.1 165 2 = u_11.1 165 2 := ((fu_98 165 rfl).1 2).trans (((fu_91 165 rfl).1 2).trans (((fu_82 165 rfl).1 2).trans (((fu_38 165 rfl).1 2).trans (((fu_31 165 rfl).1 2).trans ((uF_ne (fun h => absurd h.1 (by decide))).trans ((fu_19 165 rfl).1 2))))))
      have lk_106 : u_98.1 167 2 = u_82.1 167 2 := ((fu_98 167 rfl).1 2).trans ((fu_91 167 rfl).1 2)
      refine sBv (sV (As := [.ref (G.2.2.1 + 167), .ref (G.2.2.1 + 173), .ref (G.2.2.1 + 175)]) (rest := []) (k := 165) Cx (b_X0_divide l G u_98 (o := 165) (b := 167) (q := 173) (h := 175) (n := 12) iu_98 rfl rfl rfl rfl (show (165 : Nat) ≠ 167 by decide) (show (165 : Nat) ≠ 173 by decide) (show (165 : Nat) ≠ 175 by decide) (show (167 : Nat) ≠ 173 by decide) (show (167 : Nat) ≠ 175 by decide) (show (173 : Nat) ≠ 175 by decide) (show Hd (bs u_98 165) from (bs_fr fu_98 rfl (bs_fr fu_91 rfl (bs_fr fu_82 rfl (bs_fr fu_38 rfl (bs_fr fu_31 rfl (bs_F (fun h => absurd h (by decide)) (bs_fr fu_19 rfl (cp_bs xu_11.1 xu_11.2.1 (show Hd (bs S19 165) from (bs_fr hL19_ rfl (bs_fr fu_3 rfl hs5)))))))))))) (show Hd (bs u_98 167) from (bs_fr fu_98 rfl (bs_fr fu_91 rfl (cp_bs xu_82.1 xu_82.2.1 (show Hd (bs u_38 171) from xu_38.2.2.2.2))))) (by omega)) (c_X5_137 Cx rfl rfl (rmk_ok (by omega) (by decide))) hW (by decide) rfl rfl rfl hl.1 rfl (Nat.le_of_ble_eq_true rfl) dX5_reduce_125 ⟨Nat.le_of_ble_eq_true rfl, Nat.le_of_ble_eq_true rfl⟩) hL (fun u_107 H locs k_108 hW hL => ?_)
      obtain ⟨iu_107, fu_107, xu_107⟩ := k_108
      have F_109 := F_100.trans (fu_107.to (pD_sub (pB_sub rfl rfl) (pB_sub rfl rfl) (pB_sub rfl rfl)))
      have bv_110 : bv u_107 173 = (bv S 165) / (gc (absI (bv S 163)) (bv S 165)) := (by have e : bv u_107 173 = _ := (xu_107.2.2.2.2.2.2.1 (by omega)).1; rw [(show bv u_98 165 = bv S 165 from (bv_fr fu_98 rfl rfl).trans ((bv_fr fu_91 rfl rfl).trans ((bv_fr fu_82 rfl rfl).trans ((bv_fr fu_38 rfl rfl).trans ((bv_fr fu_31 rfl rfl).trans ((bv_F (fun h => absurd h (by decide))).trans ((bv_fr fu_19 rfl rfl).trans (bv_14)))))))), (show bv u_98 167 = gc (absI (bv S 163)) (bv S 165) from (bv_fr fu_98 rfl rfl).trans ((bv_fr fu_91 rfl rfl).trans (bv_85)))] at e; exact e)
      have bv_111 : bv u_107 165 = (bv S 165) % (gc (absI (bv S 163)) (bv S 165)) := (by have e : bv u_107 165 = _ := (xu_107.2.2.2.2.2.2.1 (by omega)).2; rw [(show bv u_98 165 = bv S 165 from (bv_fr fu_98 rfl rfl).trans ((bv_fr fu_91 rfl rfl).trans ((bv_fr fu_82 rfl rfl).trans ((bv_fr fu_38 rfl rfl).trans ((bv_fr fu_31 rfl rfl).trans ((bv_F (fun h => absurd h (by decide))).trans ((bv_fr fu_19 rfl rfl).trans (bv_14)))))))), (show bv u_98 167 = gc (absI (bv S 163)) (bv S 165) from (bv_fr fu_98 rfl rfl).trans ((bv_fr fu_91 rfl rfl).trans (bv_85)))] at e; exact e)
      refine lv_aload_n hx hb dX5_reduce_128 rfl (lv_at hl 0 rfl) ?_
      refine g_X5_34 Cx hW (k := 157) (by decide) rfl (v := .ref (G.2.2.1 + 165)) (rf_157_4 iu_107) dX5_reduce_129 ?_
      refine lv_aload_n hx hb dX5_reduce_132 rfl (lv_at hl 0 rfl) ?_
      refine g_X5_46 Cx hW (k := 157) (by decide) rfl (v := .ref (G.2.2.1 + 173)) (rf_157_8 iu_107) dX5_reduce_133 ?_
      have q_112 : 0 ≤ u_107.1 173 1 ∧ u_107.1 173 1 ≤ 32 := iu_107.fi 173 1 0 (by decide) rfl
      have q_113 : (-1) ≤ u_107.1 173 2 ∧ u_107.1 173 2 ≤ 1 := iu_107.fi 173 2 0 (by decide) rfl
      refine sBv (sV (As := [.ref (G.2.2.1 + 173)]) (rest := []) (k := 165) Cx (s_X0_copy l G u_107 (o := 165) (a := 173) iu_107 rfl rfl) (c_X5_141 Cx rfl rfl (rmk_ok (by omega) (by decide))) hW (by decide) rfl rfl rfl hl.1 rfl (Nat.le_of_ble_eq_true rfl) dX5_reduce_136 ⟨Nat.le_of_ble_eq_true rfl, Nat.le_of_ble_eq_true rfl⟩) hL (fun u_114 H locs k_115 hW hL => ?_)
      obtain ⟨iu_114, fu_114, xu_114⟩ := k_115
      have F_116 := F_109.trans (fu_114.to (pB_sub rfl rfl))
      have bv_117 : bv u_114 165 = (bv S 165) / (gc (absI (bv S 163)) (bv S 165)) := (cp_bv xu_114.1 xu_114.2.1 xu_114.2.2).trans ((show bv u_107 173 = (bv S 165) / (gc (absI (bv S 163)) (bv S 165)) from bv_110))
      exact sVret Cx hr hlk hW hL ⟨iu_114, F_116, ⟨(show bv u_114 163 = ((if tn = 1 then -(bv S 163) else bv S 163)) / (gc (absI (bv S 163)) (bv S 165)) from (bv_fr fu_114 rfl rfl).trans ((bv_fr fu_107 rfl rfl).trans (bv_101))), (show bv u_114 165 = (bv S 165) / (gc (absI (bv S 163)) (bv S 165)) from bv_117), (show Hd (bs u_114 163) from (bs_fr fu_114 rfl (bs_fr fu_107 rfl (cp_bs xu_98.1 xu_98.2.1 (show Hd (bs u_91 173) from xu_91.2.2.2.2.2.2.2.1))))), (show Hd (bs u_114 165) from (cp_bs xu_114.1 xu_114.2.1 (show Hd (bs u_107 173) from xu_107.2.2.2.2.2.2.2.1)))⟩⟩ dX5_reduce_139
  refine lv_iload_n hx hb dX5_reduce_8 rfl (lv_at hl 3 rfl) ?_
  refine r_if_eq (tgt := 19) hx hb ⟨(by omega), (by omega)⟩ dX5_reduce_9 (by decide) (fun c_118 => ?_) (fun c_118 => ?_)
  · have q_119 : 0 ≤ u_3.1 163 1 ∧ u_3.1 163 1 ≤ 32 := iu_3.fi 163 1 0 (by decide) rfl
    exact join_19 u_3  _ _ _ iu_3 F_5 (Fr.rf : Fr u_3 u_3 (pB 163)) (by omega) (((show bv u_3 163 = bv S 163 from bv_6)).trans (by rw [if_neg (by omega)])) (show Hd (bs u_3 163) from (cp_bs xu_3.1 xu_3.2.1 (show Hd (bs S 163) from hs3))) hW hL (lv_sub hl [0, 1, 2, 3] rfl)
  · refine lv_aload_n hx hb dX5_reduce_12 rfl (lv_at hl 0 rfl) ?_
    refine g_X5_30 Cx hW (k := 157) (by decide) rfl (v := .ref (G.2.2.1 + 163)) (rf_157_3 iu_3) dX5_reduce_13 ?_
    have q_120 : 0 ≤ u_3.1 163 1 ∧ u_3.1 163 1 ≤ 32 := iu_3.fi 163 1 0 (by decide) rfl
    have q_121 : (-1) ≤ u_3.1 163 2 ∧ u_3.1 163 2 ≤ 1 := iu_3.fi 163 2 0 (by decide) rfl
    refine sBv (sV (As := []) (rest := []) (k := 163) Cx (s_X0_turn l G u_3 (o := 163) iu_3 rfl) (c_X5_144 Cx rfl rfl (rmk_ok (by omega) (by decide))) hW (by decide) rfl rfl rfl hl.1 rfl (Nat.le_of_ble_eq_true rfl) dX5_reduce_16 ⟨Nat.le_of_ble_eq_true rfl, Nat.le_of_ble_eq_true rfl⟩) hL (fun u_122 H locs k_123 hW hL => ?_)
    obtain ⟨iu_122, fu_122, xu_122⟩ := k_123
    have F_124 := F_5.trans (fu_122.to (pB_sub rfl rfl))
    have F_125 := (Fr.rf : Fr u_3 u_3 (pB 163)).trans fu_122
    have bv_126 : bv u_122 163 = -(bv S 163) := (tn_bv xu_122.1 xu_122.2.1 xu_122.2.2).trans (congrArg _ ((show bv u_3 163 = bv S 163 from bv_6)))
    have q_127 : 0 ≤ u_122.1 163 1 ∧ u_122.1 163 1 ≤ 32 := iu_122.fi 163 1 0 (by decide) rfl
    exact join_19 u_122  _ _ _ iu_122 F_124 F_125 (by omega) (((show bv u_122 163 = -(bv S 163) from bv_126)).trans (by rw [if_pos (by omega)])) (show Hd (bs u_122 163) from (tn_bs xu_122.1 xu_122.2.1 (show Hd (bs u_3 163) from (cp_bs xu_3.1 xu_3.2.1 (show Hd (bs S 163) from hs3))))) hW hL (lv_sub hl [0, 1, 2, 3] rfl)

set_option maxRecDepth 100000 in
set_option maxHeartbeats 4000000 in
theorem v_X5_writePoint (l : Launch) (G : sG) (S : sS) {vs D0 : Int} {pt : Int → Int} {L : List Int} (hI : cX G S 0 0 0) (hvs : 0 ≤ vs ∧ vs ≤ 12) (hpv : Hd (nv (S.2.1 162) 104 = D0 ∧ ∀ b, 1 ≤ b → b ≤ vs → nv (S.2.1 162) (b * 8) = pt b)) (hpp : Hd (0 < D0 ∧ ∀ b, 0 ≤ pt b)) (hT : Hd (TXc S 158 1500 L)) : Met l yX5_writePoint (.code yX5_writePoint cX5_writePoint 3 none :: tb) (rmk 6 0 0) (sPc G 294 S [.ref (G.2.2.1 + 157), .int (iv vs)]) (sQv G 294 (fun u => cX G u 0 0 0 ∧ Fr S u pWp ∧ (Hd (TXc u 158 1500 (atT vs pt D0 L))))) 0 0 (sF G) := by
  refine sEnter (by decide) (Nat.le_of_ble_eq_true rfl) ?_
  intro p e s m args below meth c Cx hr hlk hnm hW ls hl
  have Cx : sC G p m c cX5_writePoint 3 s args RX5 := Cx
  obtain ⟨hx, hb, hml, hown, hts⟩ := id Cx.1
  have hL : sL G [] := sL_nil
  have hl : lv_has ls 3 [(0, .ref (G.2.2.1 + 157)), (1, .int (iv vs))] := hl
  have hW0 := hW
  refine lv_aload_n hx hb dX5_writePoint_0 rfl (lv_at hl 0 rfl) ?_
  refine lv_aload_n hx hb dX5_writePoint_1 rfl (lv_at hl 0 rfl) ?_
  refine g_X5_37 Cx hW (k := 157) (by decide) rfl (v := .ref (G.2.2.1 + 167)) (rf_157_5 hI) dX5_writePoint_2 ?_
  refine sBv (sV (As := [.ref (G.2.2.1 + 167)]) (rest := []) (k := 157) Cx (v_X5_pointDenominator l G S (v := 167) hI rfl) (c_X5_170 Cx rfl rfl (rmk_ok (by omega) (by decide))) hW (by decide) rfl rfl rfl hl.1 rfl (Nat.le_of_ble_eq_true rfl) dX5_writePoint_5 ⟨Nat.le_of_ble_eq_true rfl, Nat.le_of_ble_eq_true rfl⟩) hL (fun u_1 H locs k_2 hW hL => ?_)
  obtain ⟨iu_1, fu_1, xu_1⟩ := k_2
  have F_3 := (Fr.rf : Fr S S pWp).trans (fu_1.to (pB_sub rfl rfl))
  have bv_4 : bv u_1 167 = nv (S.2.1 162) 104 := xu_1.2.1
  refine lv_iconst (v := iv 1) hx hb dX5_writePoint_8 (by decide) ?_
  refine lv_istore_n (lv' := [(2, .int (iv 1)), (0, .ref (G.2.2.1 + 157)), (1, .int (iv vs))]) hx hb dX5_writePoint_9 rfl hl (by decide) rfl (fun ls hl => ?_)
  have loop_10 : ∀ (fuel : Nat) (S10 : sS) (j : Int) (H : Heap) (locs : List Loc) (ls : Array Slot), (13 - j).toNat < fuel → (cX G S10 0 0 0) → (Fr S S10 pWp) → (Fr u_1 S10 pWq) → (1 ≤ j ∧ j ≤ vs + 1) → (S10.1 167 1 ≤ 12) → (Hd (bs S10 167)) → (Hd (bv S10 167 = gcP pt D0 (j - 1).toNat)) → sW G 294 S10 H → sL G locs → lv_has ls 3 [(2, .int (iv j)), (0, .ref (G.2.2.1 + 157)), (1, .int (iv vs))] → W p l e (rmk 6 0 0) s m args below meth c H locs 0 0 (MQ below (sQv G 294 (fun u => cX G u 0 0 0 ∧ Fr S u pWp ∧ (Hd (TXc u 158 1500 (atT vs pt D0 L))))) args s 0 0 (sF G)) (F0 m 10 ls []) := by
    intro fuel
    induction fuel with
    | zero => intro S10 j H locs ls hmeas hI10 hFm10 hL10_ hj hd hbd hgv hW hL hl; exact absurd hmeas (Nat.not_lt_zero _)
    | succ fuel ih_10 =>
      intro S10 j H locs ls hmeas hI10 hFm10 hL10_ hj hd hbd hgv hW hL hl
      refine lv_iload_n hx hb dX5_writePoint_10 rfl (lv_at hl 0 rfl) ?_
      refine lv_iload_n hx hb dX5_writePoint_11 rfl (lv_at hl 2 rfl) ?_
      refine r_icmp_gt (tgt := 60) hx hb ⟨(by omega), (by omega)⟩ ⟨(by omega), (by omega)⟩ dX5_writePoint_12 (by decide) (fun c_5 => ?_) (fun c_5 => ?_)
      · have hG9 : bv S10 167 = gcP pt D0 vs.toNat := (show bv S10 167 = _ from hgv).trans (by rw [show j - 1 = vs by omega])
        refine lv_aload_n hx hb dX5_writePoint_60 rfl (lv_at hl 1 rfl) ?_
        refine g_X5_16 Cx hW (k := 157) (by decide) rfl (v := .ref (G.2.2.1 + 158)) (rf_157_0 hI10) dX5_writePoint_61 ?_
        refine zLdc Cx 9 (by decide) ⟨rfl, rfl⟩ dX5_writePoint_64 ?_
        refine sBv (sV (As := [.ref (G.1.2 100 9)]) (rest := []) (k := 158) Cx (v_X10_word l G S10 (o := 158) (si := 9) (N := 1500) (L := L) hI10 ⟨by decide, rfl, rfl, rfl, rfl, by decide⟩ (by decide) (by omega) (TXc.of hT (show S10.1 158 1 = S.1 158 1 from ((hL10_ 158 rfl).1 1).trans ((fu_1 158 rfl).1 1)) (show S10.1 158 2 = S.1 158 2 from ((hL10_ 158 rfl).1 2).trans ((fu_1 158 rfl).1 2)) (show S10.2.1 159 = S.2.1 159 from funext fun x => ((hL10_ 159 rfl).2.1 x).trans ((fu_1 159 rfl).2.1 x)))) (c_X5_95 Cx rfl rfl (rmk_ok (by omega) (by decide))) hW (by decide) rfl rfl rfl hl.1 rfl (Nat.le_of_ble_eq_true rfl) dX5_writePoint_66 ⟨Nat.le_of_ble_eq_true rfl, Nat.le_of_ble_eq_true rfl⟩) hL (fun u_6 H locs k_7 hW hL => ?_)
        obtain ⟨iu_6, fu_6, xu_6⟩ := k_7
        have F_8 := hFm10.trans (fu_6.to (pB_sub rfl rfl))
        refine lv_iconst (v := iv 1) hx hb dX5_writePoint_69 (by decide) ?_
        refine lv_istore_n (lv' := [(2, .int (iv 1)), (0, .ref (G.2.2.1 + 157)), (1, .int (iv vs))]) hx hb dX5_writePoint_70 rfl hl (by decide) rfl (fun ls hl => ?_)
        have loop_71 : ∀ (fuel : Nat) (S71 : sS) (j2 : Int) (H : Heap) (locs : List Loc) (ls : Array Slot), (13 - j2).toNat < fuel → (cX G S71 0 0 0) → (Fr S S71 pWp) → (Fr u_6 S71 pWr) → (1 ≤ j2 ∧ j2 ≤ vs + 1) → (Hd (TXc S71 158 1500 (ptsT (fun b => pt b / gcP pt D0 vs.toNat) (tkn L wAt) (j2 - 1).toNat))) → sW G 294 S71 H → sL G locs → lv_has ls 3 [(2, .int (iv j2)), (0, .ref (G.2.2.1 + 157)), (1, .int (iv vs))] → W p l e (rmk 6 0 0) s m args below meth c H locs 0 0 (MQ below (sQv G 294 (fun u => cX G u 0 0 0 ∧ Fr S u pWp ∧ (Hd (TXc u 158 1500 (atT vs pt D0 L))))) args s 0 0 (sF G)) (F0 m 71 ls []) := by
          intro fuel
          induction fuel with
          | zero => intro S71 j2 H locs ls hmeas hI71 hFm71 hL71_ hj2 hT2 hW hL hl; exact absurd hmeas (Nat.not_lt_zero _)
          | succ fuel ih_71 =>
            intro S71 j2 H locs ls hmeas hI71 hFm71 hL71_ hj2 hT2 hW hL hl
            refine lv_iload_n hx hb dX5_writePoint_71 rfl (lv_at hl 0 rfl) ?_
            refine lv_iload_n hx hb dX5_writePoint_72 rfl (lv_at hl 2 rfl) ?_
            refine r_icmp_gt (tgt := 122) hx hb ⟨(by omega), (by omega)⟩ ⟨(by omega), (by omega)⟩ dX5_writePoint_73 (by decide) (fun c_9 => ?_) (fun c_9 => ?_)
            · refine lv_aload_n hx hb dX5_writePoint_122 rfl (lv_at hl 1 rfl) ?_
              refine g_X5_16 Cx hW (k := 157) (by decide) rfl (v := .ref (G.2.2.1 + 158)) (rf_157_0 hI71) dX5_writePoint_123 ?_
              refine zLdc Cx 8 (by decide) ⟨rfl, rfl⟩ dX5_writePoint_126 ?_
              refine sBv (sV (As := [.ref (G.1.2 100 8)]) (rest := []) (k := 158) Cx (v_X10_word l G S71 (o := 158) (si := 8) (N := 1500) (L := (ptsT (fun b => pt b / gcP pt D0 vs.toNat) (tkn L wAt) (j2 - 1).toNat)) hI71 ⟨by decide, rfl, rfl, rfl, rfl, by decide⟩ (by decide) (by omega) hT2) (c_X5_95 Cx rfl rfl (rmk_ok (by omega) (by decide))) hW (by decide) rfl rfl rfl hl.1 rfl (Nat.le_of_ble_eq_true rfl) dX5_writePoint_128 ⟨Nat.le_of_ble_eq_true rfl, Nat.le_of_ble_eq_true rfl⟩) hL (fun u_10 H locs k_11 hW hL => ?_)
              obtain ⟨iu_10, fu_10, xu_10⟩ := k_11
              have F_12 := hFm71.trans (fu_10.to (pB_sub rfl rfl))
              have F_13 := hL71_.trans (fu_10.to (pB_sub rfl rfl))
              refine lv_aload_n hx hb dX5_writePoint_131 rfl (lv_at hl 1 rfl) ?_
              refine lv_aload_n hx hb dX5_writePoint_132 rfl (lv_at hl 1 rfl) ?_
              refine g_X5_40 Cx hW (k := 157) (by decide) rfl (v := .ref (G.2.2.1 + 169)) (rf_157_6 iu_10) dX5_writePoint_133 ?_
              refine sBv (sV (As := [.ref (G.2.2.1 + 169)]) (rest := []) (k := 157) Cx (v_X5_pointDenominator l G u_10 (v := 169) iu_10 rfl) (c_X5_170 Cx rfl rfl (rmk_ok (by omega) (by decide))) hW (by decide) rfl rfl rfl hl.1 rfl (Nat.le_of_ble_eq_true rfl) dX5_writePoint_136 ⟨Nat.le_of_ble_eq_true rfl, Nat.le_of_ble_eq_true rfl⟩) hL (fun u_14 H locs k_15 hW hL => ?_)
              obtain ⟨iu_14, fu_14, xu_14⟩ := k_15
              have F_16 := F_12.trans (fu_14.to (pB_sub rfl rfl))
              have F_17 := F_13.trans (fu_14.to (pB_sub rfl rfl))
              have bv_18 : bv u_14 169 = nv (u_10.2.1 162) 104 := xu_14.2.1
              refine lv_aload_n hx hb dX5_writePoint_139 rfl (lv_at hl 1 rfl) ?_
              refine g_X5_40 Cx hW (k := 157) (by decide) rfl (v := .ref (G.2.2.1 + 169)) (rf_157_6 iu_14) dX5_writePoint_140 ?_
              refine lv_aload_n hx hb dX5_writePoint_143 rfl (lv_at hl 1 rfl) ?_
              refine g_X5_37 Cx hW (k := 157) (by decide) rfl (v := .ref (G.2.2.1 + 167)) (rf_157_5 iu_14) dX5_writePoint_144 ?_
              refine lv_aload_n hx hb dX5_writePoint_147 rfl (lv_at hl 1 rfl) ?_
              refine g_X5_46 Cx hW (k := 157) (by decide) rfl (v := .ref (G.2.2.1 + 173)) (rf_157_8 iu_14) dX5_writePoint_148 ?_
              refine lv_aload_n hx hb dX5_writePoint_151 rfl (lv_at hl 1 rfl) ?_
              refine g_X5_49 Cx hW (k := 157) (by decide) rfl (v := .ref (G.2.2.1 + 175)) (rf_157_9 iu_14) dX5_writePoint_152 ?_
              have hsg_19 : 0 < u_14.1 167 2 := bv_sg (iu_14.fi 167 2 0 (by decide) rfl) (VR_0 iu_14 rfl) (by rw [(show bv u_14 167 = gcP pt D0 vs.toNat from (bv_fr fu_14 rfl rfl).trans ((bv_fr fu_10 rfl rfl).trans ((bv_fr hL71_ rfl rfl).trans ((bv_fr fu_6 rfl rfl).trans (hG9)))))]; exact (gcP_p hpp.1 _))
              have q_20 : 0 ≤ u_14.1 169 1 ∧ u_14.1 169 1 ≤ 32 := iu_14.fi 169 1 0 (by decide) rfl
              have q_21 : 0 ≤ S10.1 167 1 ∧ S10.1 167 1 ≤ 32 := hI10.fi 167 1 0 (by decide) rfl
              have lk_22 : u_14.1 167 1 = S10.1 167 1 := ((fu_14 167 rfl).1 1).trans (((fu_10 167 rfl).1 1).trans (((hL71_ 167 rfl).1 1).trans ((fu_6 167 rfl).1 1)))
              have q_23 : (-1) ≤ u_14.1 169 2 ∧ u_14.1 169 2 ≤ 1 := iu_14.fi 169 2 0 (by decide) rfl
              have q_24 : (-1) ≤ S10.1 167 2 ∧ S10.1 167 2 ≤ 1 := hI10.fi 167 2 0 (by decide) rfl
              have lk_25 : u_14.1 167 2 = S10.1 167 2 := ((fu_14 167 rfl).1 2).trans (((fu_10 167 rfl).1 2).trans (((hL71_ 167 rfl).1 2).trans ((fu_6 167 rfl).1 2)))
              refine sBv (sV (As := [.ref (G.2.2.1 + 167), .ref (G.2.2.1 + 173), .ref (G.2.2.1 + 175)]) (rest := []) (k := 169) Cx (b_X0_divide l G u_14 (o := 169) (b := 167) (q := 173) (h := 175) (n := 12) iu_14 rfl rfl rfl rfl (show (169 : Nat) ≠ 167 by decide) (show (169 : Nat) ≠ 173 by decide) (show (169 : Nat) ≠ 175 by decide) (show (167 : Nat) ≠ 173 by decide) (show (167 : Nat) ≠ 175 by decide) (show (173 : Nat) ≠ 175 by decide) (show Hd (bs u_14 169) from xu_14.2.2) (show Hd (bs u_14 167) from (bs_fr fu_14 rfl (bs_fr fu_10 rfl (bs_fr hL71_ rfl (bs_fr fu_6 rfl hbd))))) (by omega)) (c_X5_137 Cx rfl rfl (rmk_ok (by omega) (by decide))) hW (by decide) rfl rfl rfl hl.1 rfl (Nat.le_of_ble_eq_true rfl) dX5_writePoint_155 ⟨Nat.le_of_ble_eq_true rfl, Nat.le_of_ble_eq_true rfl⟩) hL (fun u_26 H locs k_27 hW hL => ?_)
              obtain ⟨iu_26, fu_26, xu_26⟩ := k_27
              have F_28 := F_16.trans (fu_26.to (pD_sub (pB_sub rfl rfl) (pB_sub rfl rfl) (pB_sub rfl rfl)))
              have F_29 := F_17.trans (fu_26.to (pD_sub (pB_sub rfl rfl) (pB_sub rfl rfl) (pB_sub rfl rfl)))
              have bv_30 : bv u_26 173 = (nv (u_10.2.1 162) 104) / (gcP pt D0 vs.toNat) := (by have e : bv u_26 173 = _ := (xu_26.2.2.2.2.2.2.1 (by omega)).1; rw [(show bv u_14 169 = nv (u_10.2.1 162) 104 from bv_18), (show bv u_14 167 = gcP pt D0 vs.toNat from (bv_fr fu_14 rfl rfl).trans ((bv_fr fu_10 rfl rfl).trans ((bv_fr hL71_ rfl rfl).trans ((bv_fr fu_6 rfl rfl).trans (hG9)))))] at e; exact e)
              have bv_31 : bv u_26 169 = (nv (u_10.2.1 162) 104) % (gcP pt D0 vs.toNat) := (by have e : bv u_26 169 = _ := (xu_26.2.2.2.2.2.2.1 (by omega)).2; rw [(show bv u_14 169 = nv (u_10.2.1 162) 104 from bv_18), (show bv u_14 167 = gcP pt D0 vs.toNat from (bv_fr fu_14 rfl rfl).trans ((bv_fr fu_10 rfl rfl).trans ((bv_fr hL71_ rfl rfl).trans ((bv_fr fu_6 rfl rfl).trans (hG9)))))] at e; exact e)
              refine lv_aload_n hx hb dX5_writePoint_158 rfl (lv_at hl 1 rfl) ?_
              refine g_X5_16 Cx hW (k := 157) (by decide) rfl (v := .ref (G.2.2.1 + 158)) (rf_157_0 iu_26) dX5_writePoint_159 ?_
              refine lv_aload_n hx hb dX5_writePoint_162 rfl (lv_at hl 1 rfl) ?_
              refine g_X5_46 Cx hW (k := 157) (by decide) rfl (v := .ref (G.2.2.1 + 173)) (rf_157_8 iu_26) dX5_writePoint_163 ?_
              refine lv_iconst (v := iv 1) hx hb dX5_writePoint_166 (by decide) ?_
              refine sBv (sV (As := [.ref (G.2.2.1 + 173), .int (iv 1)]) (rest := []) (k := 158) Cx (v_X10_number l G u_26 (o := 158) (v := 173) (N := 1500) (L := (tkn ((ptsT (fun b => pt b / gcP pt D0 vs.toNat) (tkn L wAt) (j2 - 1).toNat)) (strB.getD 8 []))) iu_26 ⟨by decide, rfl, rfl, rfl, rfl, by decide⟩ rfl (by omega) (show Hd (bs u_26 173) from xu_26.2.2.2.2.2.2.2.1) (TXc.of xu_10 (show u_26.1 158 1 = u_10.1 158 1 from ((fu_26 158 rfl).1 1).trans ((fu_14 158 rfl).1 1)) (show u_26.1 158 2 = u_10.1 158 2 from ((fu_26 158 rfl).1 2).trans ((fu_14 158 rfl).1 2)) (show u_26.2.1 159 = u_10.2.1 159 from funext fun x => ((fu_26 159 rfl).2.1 x).trans ((fu_14 159 rfl).2.1 x)))) (c_X5_99 Cx rfl rfl (rmk_ok (by omega) (by decide))) hW (by decide) rfl rfl rfl hl.1 rfl (Nat.le_of_ble_eq_true rfl) dX5_writePoint_167 ⟨Nat.le_of_ble_eq_true rfl, Nat.le_of_ble_eq_true rfl⟩) hL (fun u_32 H locs k_33 hW hL => ?_)
              obtain ⟨iu_32, fu_32, xu_32⟩ := k_33
              have F_34 := F_28.trans (fu_32.to (pB_sub rfl rfl))
              have F_35 := F_29.trans (fu_32.to (pB_sub rfl rfl))
              exact sVret Cx hr hlk hW hL ⟨iu_32, F_34, (TXc.eq (TXc.eq xu_32 (by rw [(show bv u_26 173 = (nv (u_10.2.1 162) 104) / (gcP pt D0 vs.toNat) from bv_30)])) (show tkn (tkn ((ptsT (fun b => pt b / gcP pt D0 vs.toNat) (tkn L wAt) (j2 - 1).toNat)) (strB.getD 8 [])) (nmT ((nv (u_10.2.1 162) 104) / (gcP pt D0 vs.toNat))) = _ by rw [show u_10.2.1 162 = S.2.1 162 from funext fun x => ((fu_10 162 rfl).2.1 x).trans (((hL71_ 162 rfl).2.1 x).trans (((fu_6 162 rfl).2.1 x).trans (((hL10_ 162 rfl).2.1 x).trans ((fu_1 162 rfl).2.1 x)))), hpv.1, show j2 - 1 = vs by omega]; rfl))⟩ dX5_writePoint_170
            · refine lv_aload_n hx hb dX5_writePoint_76 rfl (lv_at hl 1 rfl) ?_
              refine lv_iload_n hx hb dX5_writePoint_77 rfl (lv_at hl 0 rfl) ?_
              refine lv_aload_n hx hb dX5_writePoint_78 rfl (lv_at hl 1 rfl) ?_
              refine g_X5_40 Cx hW (k := 157) (by decide) rfl (v := .ref (G.2.2.1 + 169)) (rf_157_6 hI71) dX5_writePoint_79 ?_
              refine sBv (sV (As := [.int (iv j2), .ref (G.2.2.1 + 169)]) (rest := []) (k := 157) Cx (v_X5_pointNumber l G S71 (j := j2) (v := 169) hI71 rfl (by omega)) (c_X5_173 Cx rfl rfl (rmk_ok (by omega) (by decide))) hW (by decide) rfl rfl rfl hl.1 rfl (Nat.le_of_ble_eq_true rfl) dX5_writePoint_82 ⟨Nat.le_of_ble_eq_true rfl, Nat.le_of_ble_eq_true rfl⟩) hL (fun u_36 H locs k_37 hW hL => ?_)
              obtain ⟨iu_36, fu_36, xu_36⟩ := k_37
              have F_38 := hFm71.trans (fu_36.to (pB_sub rfl rfl))
              have F_39 := hL71_.trans (fu_36.to (pB_sub rfl rfl))
              have bv_40 : bv u_36 169 = nv (S71.2.1 162) (j2 * 8) := xu_36.2.1
              refine lv_aload_n hx hb dX5_writePoint_85 rfl (lv_at hl 1 rfl) ?_
              refine g_X5_40 Cx hW (k := 157) (by decide) rfl (v := .ref (G.2.2.1 + 169)) (rf_157_6 iu_36) dX5_writePoint_86 ?_
              refine lv_aload_n hx hb dX5_writePoint_89 rfl (lv_at hl 1 rfl) ?_
              refine g_X5_37 Cx hW (k := 157) (by decide) rfl (v := .ref (G.2.2.1 + 167)) (rf_157_5 iu_36) dX5_writePoint_90 ?_
              refine lv_aload_n hx hb dX5_writePoint_93 rfl (lv_at hl 1 rfl) ?_
              refine g_X5_46 Cx hW (k := 157) (by decide) rfl (v := .ref (G.2.2.1 + 173)) (rf_157_8 iu_36) dX5_writePoint_94 ?_
              refine lv_aload_n hx hb dX5_writePoint_97 rfl (lv_at hl 1 rfl) ?_
              refine g_X5_49 Cx hW (k := 157) (by decide) rfl (v := .ref (G.2.2.1 + 175)) (rf_157_9 iu_36) dX5_writePoint_98 ?_
              have hsg_41 : 0 < u_36.1 167 2 := bv_sg (iu_36.fi 167 2 0 (by decide) rfl) (VR_0 iu_36 rfl) (by rw [(show bv u_36 167 = gcP pt D0 vs.toNat from (bv_fr fu_36 rfl rfl).trans ((bv_fr hL71_ rfl rfl).trans ((bv_fr fu_6 rfl rfl).trans (hG9))))]; exact (gcP_p hpp.1 _))
              have q_42 : 0 ≤ u_36.1 169 1 ∧ u_36.1 169 1 ≤ 32 := iu_36.fi 169 1 0 (by decide) rfl
              have q_43 : 0 ≤ S10.1 167 1 ∧ S10.1 167 1 ≤ 32 := hI10.fi 167 1 0 (by decide) rfl
              have lk_44 : u_36.1 167 1 = S10.1 167 1 := ((fu_36 167 rfl).1 1).trans (((hL71_ 167 rfl).1 1).trans ((fu_6 167 rfl).1 1))
              have q_45 : (-1) ≤ u_36.1 169 2 ∧ u_36.1 169 2 ≤ 1 := iu_36.fi 169 2 0 (by decide) rfl
              have q_46 : (-1) ≤ S10.1 167 2 ∧ S10.1 167 2 ≤ 1 := hI10.fi 167 2 0 (by decide) rfl
              have lk_47 : u_36.1 167 2 = S10.1 167 2 := ((fu_36 167 rfl).1 2).trans (((hL71_ 167 rfl).1 2).trans ((fu_6 167 rfl).1 2))
              refine sBv (sV (As := [.ref (G.2.2.1 + 167), .ref (G.2.2.1 + 173), .ref (G.2.2.1 + 175)]) (rest := []) (k := 169) Cx (b_X0_divide l G u_36 (o := 169) (b := 167) (q := 173) (h := 175) (n := 12) iu_36 rfl rfl rfl rfl (show (169 : Nat) ≠ 167 by decide) (show (169 : Nat) ≠ 173 by decide) (show (169 : Nat) ≠ 175 by decide) (show (167 : Nat) ≠ 173 by decide) (show (167 : Nat) ≠ 175 by decide) (show (173 : Nat) ≠ 175 by decide) (show Hd (bs u_36 169) from xu_36.2.2) (show Hd (bs u_36 167) from (bs_fr fu_36 rfl (bs_fr hL71_ rfl (bs_fr fu_6 rfl hbd)))) (by omega)) (c_X5_137 Cx rfl rfl (rmk_ok (by omega) (by decide))) hW (by decide) rfl rfl rfl hl.1 rfl (Nat.le_of_ble_eq_true rfl) dX5_writePoint_101 ⟨Nat.le_of_ble_eq_true rfl, Nat.le_of_ble_eq_true rfl⟩) hL (fun u_48 H locs k_49 hW hL => ?_)
              obtain ⟨iu_48, fu_48, xu_48⟩ := k_49
              have F_50 := F_38.trans (fu_48.to (pD_sub (pB_sub rfl rfl) (pB_sub rfl rfl) (pB_sub rfl rfl)))
              have F_51 := F_39.trans (fu_48.to (pD_sub (pB_sub rfl rfl) (pB_sub rfl rfl) (pB_sub rfl rfl)))
              have bv_52 : bv u_48 173 = (nv (S71.2.1 162) (j2 * 8)) / (gcP pt D0 vs.toNat) := (by have e : bv u_48 173 = _ := (xu_48.2.2.2.2.2.2.1 (by omega)).1; rw [(show bv u_36 169 = nv (S71.2.1 162) (j2 * 8) from bv_40), (show bv u_36 167 = gcP pt D0 vs.toNat from (bv_fr fu_36 rfl rfl).trans ((bv_fr hL71_ rfl rfl).trans ((bv_fr fu_6 rfl rfl).trans (hG9))))] at e; exact e)
              have bv_53 : bv u_48 169 = (nv (S71.2.1 162) (j2 * 8)) % (gcP pt D0 vs.toNat) := (by have e : bv u_48 169 = _ := (xu_48.2.2.2.2.2.2.1 (by omega)).2; rw [(show bv u_36 169 = nv (S71.2.1 162) (j2 * 8) from bv_40), (show bv u_36 167 = gcP pt D0 vs.toNat from (bv_fr fu_36 rfl rfl).trans ((bv_fr hL71_ rfl rfl).trans ((bv_fr fu_6 rfl rfl).trans (hG9))))] at e; exact e)
              refine lv_aload_n hx hb dX5_writePoint_104 rfl (lv_at hl 1 rfl) ?_
              refine g_X5_16 Cx hW (k := 157) (by decide) rfl (v := .ref (G.2.2.1 + 158)) (rf_157_0 iu_48) dX5_writePoint_105 ?_
              refine lv_aload_n hx hb dX5_writePoint_108 rfl (lv_at hl 1 rfl) ?_
              refine g_X5_46 Cx hW (k := 157) (by decide) rfl (v := .ref (G.2.2.1 + 173)) (rf_157_8 iu_48) dX5_writePoint_109 ?_
              refine lv_iconst (v := iv 1) hx hb dX5_writePoint_112 (by decide) ?_
              refine sBv (sV (As := [.ref (G.2.2.1 + 173), .int (iv 1)]) (rest := []) (k := 158) Cx (v_X10_number l G u_48 (o := 158) (v := 173) (N := 1500) (L := (ptsT (fun b => pt b / gcP pt D0 vs.toNat) (tkn L wAt) (j2 - 1).toNat)) iu_48 ⟨by decide, rfl, rfl, rfl, rfl, by decide⟩ rfl (by omega) (show Hd (bs u_48 173) from xu_48.2.2.2.2.2.2.2.1) (TXc.of hT2 (show u_48.1 158 1 = S71.1 158 1 from ((fu_48 158 rfl).1 1).trans ((fu_36 158 rfl).1 1)) (show u_48.1 158 2 = S71.1 158 2 from ((fu_48 158 rfl).1 2).trans ((fu_36 158 rfl).1 2)) (show u_48.2.1 159 = S71.2.1 159 from funext fun x => ((fu_48 159 rfl).2.1 x).trans ((fu_36 159 rfl).2.1 x)))) (c_X5_99 Cx rfl rfl (rmk_ok (by omega) (by decide))) hW (by decide) rfl rfl rfl hl.1 rfl (Nat.le_of_ble_eq_true rfl) dX5_writePoint_113 ⟨Nat.le_of_ble_eq_true rfl, Nat.le_of_ble_eq_true rfl⟩) hL (fun u_54 H locs k_55 hW hL => ?_)
              obtain ⟨iu_54, fu_54, xu_54⟩ := k_55
              have F_56 := F_50.trans (fu_54.to (pB_sub rfl rfl))
              have F_57 := F_51.trans (fu_54.to (pB_sub rfl rfl))
              refine lv_iinc (v := iv (j2 + 1)) (lv' := [(2, .int (iv (j2 + 1))), (0, .ref (G.2.2.1 + 157)), (1, .int (iv vs))]) hx hb dX5_writePoint_116 hl (k := 0) rfl ((Int32.ofInt_add _ _).symm) (by decide) rfl (fun ls hl => ?_)
              refine lv_goto (tgt := 71) hx hb dX5_writePoint_119 (by decide) ?_
              exact ih_71 u_54 (j2 + 1) _ _ _ (by omega) iu_54 F_56 F_57 (by omega) (TXc.eq (TXc.eq xu_54 (by rw [(show bv u_48 173 = (nv (S71.2.1 162) (j2 * 8)) / (gcP pt D0 vs.toNat) from bv_52)])) (show tkn (ptsT (fun b => pt b / gcP pt D0 vs.toNat) (tkn L wAt) (j2 - 1).toNat) (nmT ((nv (S71.2.1 162) (j2 * 8)) / (gcP pt D0 vs.toNat))) = _ by rw [show S71.2.1 162 = S.2.1 162 from funext fun x => ((hL71_ 162 rfl).2.1 x).trans (((fu_6 162 rfl).2.1 x).trans (((hL10_ 162 rfl).2.1 x).trans ((fu_1 162 rfl).2.1 x))), hpv.2 j2 (by omega) (by omega)]; exact (ptsT_s (by omega)).symm)) hW hL (lv_sub hl [0, 1, 2] rfl)
        exact loop_71 (_ + 1) u_6 1 _ _ _ (Nat.lt_succ_self _) iu_6 F_8 Fr.rf (by omega) (TXc.eq xu_6 (show tkn L (strB.getD 9 []) = _ from rfl)) hW hL (lv_sub hl [0, 1, 2] rfl)
      · refine lv_aload_n hx hb dX5_writePoint_15 rfl (lv_at hl 1 rfl) ?_
        refine g_X5_40 Cx hW (k := 157) (by decide) rfl (v := .ref (G.2.2.1 + 169)) (rf_157_6 hI10) dX5_writePoint_16 ?_
        refine lv_aload_n hx hb dX5_writePoint_19 rfl (lv_at hl 1 rfl) ?_
        refine g_X5_37 Cx hW (k := 157) (by decide) rfl (v := .ref (G.2.2.1 + 167)) (rf_157_5 hI10) dX5_writePoint_20 ?_
        have q_58 : 0 ≤ S10.1 167 1 ∧ S10.1 167 1 ≤ 32 := hI10.fi 167 1 0 (by decide) rfl
        have q_59 : (-1) ≤ S10.1 167 2 ∧ S10.1 167 2 ≤ 1 := hI10.fi 167 2 0 (by decide) rfl
        refine sBv (sV (As := [.ref (G.2.2.1 + 167)]) (rest := []) (k := 169) Cx (s_X0_copy l G S10 (o := 169) (a := 167) hI10 rfl rfl) (c_X5_141 Cx rfl rfl (rmk_ok (by omega) (by decide))) hW (by decide) rfl rfl rfl hl.1 rfl (Nat.le_of_ble_eq_true rfl) dX5_writePoint_23 ⟨Nat.le_of_ble_eq_true rfl, Nat.le_of_ble_eq_true rfl⟩) hL (fun u_60 H locs k_61 hW hL => ?_)
        obtain ⟨iu_60, fu_60, xu_60⟩ := k_61
        have F_62 := hFm10.trans (fu_60.to (pB_sub rfl rfl))
        have F_63 := hL10_.trans (fu_60.to (pB_sub rfl rfl))
        have bv_64 : bv u_60 169 = gcP pt D0 (j - 1).toNat := (cp_bv xu_60.1 xu_60.2.1 xu_60.2.2).trans ((show bv S10 167 = gcP pt D0 (j - 1).toNat from hgv))
        refine lv_aload_n hx hb dX5_writePoint_26 rfl (lv_at hl 1 rfl) ?_
        refine lv_iload_n hx hb dX5_writePoint_27 rfl (lv_at hl 0 rfl) ?_
        refine lv_aload_n hx hb dX5_writePoint_28 rfl (lv_at hl 1 rfl) ?_
        refine g_X5_43 Cx hW (k := 157) (by decide) rfl (v := .ref (G.2.2.1 + 171)) (rf_157_7 iu_60) dX5_writePoint_29 ?_
        refine sBv (sV (As := [.int (iv j), .ref (G.2.2.1 + 171)]) (rest := []) (k := 157) Cx (v_X5_pointNumber l G u_60 (j := j) (v := 171) iu_60 rfl (by omega)) (c_X5_173 Cx rfl rfl (rmk_ok (by omega) (by decide))) hW (by decide) rfl rfl rfl hl.1 rfl (Nat.le_of_ble_eq_true rfl) dX5_writePoint_32 ⟨Nat.le_of_ble_eq_true rfl, Nat.le_of_ble_eq_true rfl⟩) hL (fun u_65 H locs k_66 hW hL => ?_)
        obtain ⟨iu_65, fu_65, xu_65⟩ := k_66
        have F_67 := F_62.trans (fu_65.to (pB_sub rfl rfl))
        have F_68 := F_63.trans (fu_65.to (pB_sub rfl rfl))
        have bv_69 : bv u_65 171 = nv (u_60.2.1 162) (j * 8) := xu_65.2.1
        refine lv_aload_n hx hb dX5_writePoint_35 rfl (lv_at hl 1 rfl) ?_
        refine g_X5_37 Cx hW (k := 157) (by decide) rfl (v := .ref (G.2.2.1 + 167)) (rf_157_5 iu_65) dX5_writePoint_36 ?_
        refine lv_aload_n hx hb dX5_writePoint_39 rfl (lv_at hl 1 rfl) ?_
        refine lv_aload_n hx hb dX5_writePoint_40 rfl (lv_at hl 1 rfl) ?_
        refine g_X5_40 Cx hW (k := 157) (by decide) rfl (v := .ref (G.2.2.1 + 169)) (rf_157_6 iu_65) dX5_writePoint_41 ?_
        refine lv_aload_n hx hb dX5_writePoint_44 rfl (lv_at hl 1 rfl) ?_
        refine g_X5_43 Cx hW (k := 157) (by decide) rfl (v := .ref (G.2.2.1 + 171)) (rf_157_7 iu_65) dX5_writePoint_45 ?_
        have q_70 : 0 ≤ u_60.1 169 1 ∧ u_60.1 169 1 ≤ 32 := iu_60.fi 169 1 0 (by decide) rfl
        have lk_71 : u_65.1 169 1 = u_60.1 169 1 := (fu_65 169 rfl).1 1
        have q_72 : 0 ≤ u_65.1 171 1 ∧ u_65.1 171 1 ≤ 32 := iu_65.fi 171 1 0 (by decide) rfl
        refine sBr (sV (As := [.ref (G.2.2.1 + 169), .ref (G.2.2.1 + 171)]) (rest := [.ref (G.2.2.1 + 167)]) (k := 157) Cx (v_X5_common l G u_65  iu_65 (by omega) (show Hd (bs u_65 169) from (bs_fr fu_65 rfl (cp_bs xu_60.1 xu_60.2.1 (show Hd (bs S10 167) from hbd)))) (show Hd (bs u_65 171) from xu_65.2.2) ⟨by rw [(show bv u_65 169 = gcP pt D0 (j - 1).toNat from (bv_fr fu_65 rfl rfl).trans (bv_64))]; exact Int.le_of_lt (gcP_p hpp.1 _), by rw [(show bv u_65 171 = nv (u_60.2.1 162) (j * 8) from bv_69), show u_60.2.1 162 = S.2.1 162 from funext fun x => ((fu_60 162 rfl).2.1 x).trans (((hL10_ 162 rfl).2.1 x).trans ((fu_1 162 rfl).2.1 x)), hpv.2 j (by omega) (by omega)]; exact hpp.2 j⟩) (c_X5_152 Cx rfl rfl (rmk_ok (by omega) (by decide))) hW (by decide) rfl rfl rfl hl.1 rfl (Nat.le_of_ble_eq_true rfl) dX5_writePoint_48 ⟨Nat.le_of_ble_eq_true rfl, Nat.le_of_ble_eq_true rfl⟩) hL (fun r_75 u_73 H locs k_74 hW hL => ?_)
        obtain ⟨iu_73, fu_73, xu_73⟩ := k_74
        have F_76 := F_67.trans (fu_73.to (fun k h => pWq_Wp k (pP_Wq k h)))
        have F_77 := F_68.trans (fu_73.to pP_Wq)
        have hcmu_73 : gc (bv u_65 169) (bv u_65 171) = gc (gcP pt D0 (j - 1).toNat) (nv (u_60.2.1 162) (j * 8)) := (by rw [(show bv u_65 169 = gcP pt D0 (j - 1).toNat from (bv_fr fu_65 rfl rfl).trans (bv_64)), (show bv u_65 171 = nv (u_60.2.1 162) (j * 8) from bv_69)])
        rcases xu_73.1 with rfl | rfl
        · have q_78 : 0 ≤ u_73.1 169 1 ∧ u_73.1 169 1 ≤ 32 := iu_73.fi 169 1 0 (by decide) rfl
          have q_79 : (-1) ≤ u_73.1 169 2 ∧ u_73.1 169 2 ≤ 1 := iu_73.fi 169 2 0 (by decide) rfl
          refine sBv (sV (As := [.ref (G.2.2.1 + 169)]) (rest := []) (k := 167) Cx (s_X0_copy l G u_73 (o := 167) (a := 169) iu_73 rfl rfl) (c_X5_141 Cx rfl rfl (rmk_ok (by omega) (by decide))) hW (by decide) rfl rfl rfl hl.1 rfl (Nat.le_of_ble_eq_true rfl) dX5_writePoint_51 ⟨Nat.le_of_ble_eq_true rfl, Nat.le_of_ble_eq_true rfl⟩) hL (fun u_80 H locs k_81 hW hL => ?_)
          obtain ⟨iu_80, fu_80, xu_80⟩ := k_81
          have F_82 := F_76.trans (fu_80.to (pB_sub rfl rfl))
          have F_83 := F_77.trans (fu_80.to (pB_sub rfl rfl))
          have bv_84 : bv u_80 167 = gc (gcP pt D0 (j - 1).toNat) (nv (u_60.2.1 162) (j * 8)) := (cp_bv xu_80.1 xu_80.2.1 xu_80.2.2).trans ((show bv u_73 169 = gc (gcP pt D0 (j - 1).toNat) (nv (u_60.2.1 162) (j * 8)) from (xu_73.2.2.2.1.trans hcmu_73)))
          refine lv_iinc (v := iv (j + 1)) (lv' := [(2, .int (iv (j + 1))), (0, .ref (G.2.2.1 + 157)), (1, .int (iv vs))]) hx hb dX5_writePoint_54 hl (k := 0) rfl ((Int32.ofInt_add _ _).symm) (by decide) rfl (fun ls hl => ?_)
          refine lv_goto (tgt := 10) hx hb dX5_writePoint_57 (by decide) ?_
          have q_85 : 0 ≤ u_80.1 167 1 ∧ u_80.1 167 1 ≤ 32 := iu_80.fi 167 1 0 (by decide) rfl
          exact ih_10 u_80 (j + 1) _ _ _ (by omega) iu_80 F_82 F_83 (by omega) (by omega) (show Hd (bs u_80 167) from (cp_bs xu_80.1 xu_80.2.1 (show Hd (bs u_73 169) from xu_73.2.2.2.2))) (((show bv u_80 167 = gc (gcP pt D0 (j - 1).toNat) (nv (u_60.2.1 162) (j * 8)) from bv_84)).trans (by rw [show u_60.2.1 162 = S.2.1 162 from funext fun x => ((fu_60 162 rfl).2.1 x).trans (((hL10_ 162 rfl).2.1 x).trans ((fu_1 162 rfl).2.1 x)), hpv.2 j (by omega) (by omega), gcP_s (by omega), absI_p (hpp.2 j)])) hW hL (lv_sub hl [0, 1, 2] rfl)
        · have q_86 : 0 ≤ u_73.1 171 1 ∧ u_73.1 171 1 ≤ 32 := iu_73.fi 171 1 0 (by decide) rfl
          have q_87 : (-1) ≤ u_73.1 171 2 ∧ u_73.1 171 2 ≤ 1 := iu_73.fi 171 2 0 (by decide) rfl
          refine sBv (sV (As := [.ref (G.2.2.1 + 171)]) (rest := []) (k := 167) Cx (s_X0_copy l G u_73 (o := 167) (a := 171) iu_73 rfl rfl) (c_X5_141 Cx rfl rfl (rmk_ok (by omega) (by decide))) hW (by decide) rfl rfl rfl hl.1 rfl (Nat.le_of_ble_eq_true rfl) dX5_writePoint_51 ⟨Nat.le_of_ble_eq_true rfl, Nat.le_of_ble_eq_true rfl⟩) hL (fun u_88 H locs k_89 hW hL => ?_)
          obtain ⟨iu_88, fu_88, xu_88⟩ := k_89
          have F_90 := F_76.trans (fu_88.to (pB_sub rfl rfl))
          have F_91 := F_77.trans (fu_88.to (pB_sub rfl rfl))
          have bv_92 : bv u_88 167 = gc (gcP pt D0 (j - 1).toNat) (nv (u_60.2.1 162) (j * 8)) := (cp_bv xu_88.1 xu_88.2.1 xu_88.2.2).trans ((show bv u_73 171 = gc (gcP pt D0 (j - 1).toNat) (nv (u_60.2.1 162) (j * 8)) from (xu_73.2.2.2.1.trans hcmu_73)))
          refine lv_iinc (v := iv (j + 1)) (lv' := [(2, .int (iv (j + 1))), (0, .ref (G.2.2.1 + 157)), (1, .int (iv vs))]) hx hb dX5_writePoint_54 hl (k := 0) rfl ((Int32.ofInt_add _ _).symm) (by decide) rfl (fun ls hl => ?_)
          refine lv_goto (tgt := 10) hx hb dX5_writePoint_57 (by decide) ?_
          have q_93 : 0 ≤ u_88.1 167 1 ∧ u_88.1 167 1 ≤ 32 := iu_88.fi 167 1 0 (by decide) rfl
          exact ih_10 u_88 (j + 1) _ _ _ (by omega) iu_88 F_90 F_91 (by omega) (by omega) (show Hd (bs u_88 167) from (cp_bs xu_88.1 xu_88.2.1 (show Hd (bs u_73 171) from xu_73.2.2.2.2))) (((show bv u_88 167 = gc (gcP pt D0 (j - 1).toNat) (nv (u_60.2.1 162) (j * 8)) from bv_92)).trans (by rw [show u_60.2.1 162 = S.2.1 162 from funext fun x => ((fu_60 162 rfl).2.1 x).trans (((hL10_ 162 rfl).2.1 x).trans ((fu_1 162 rfl).2.1 x)), hpv.2 j (by omega) (by omega), gcP_s (by omega), absI_p (hpp.2 j)])) hW hL (lv_sub hl [0, 1, 2] rfl)
  have q_94 : 0 ≤ u_1.1 167 1 ∧ u_1.1 167 1 ≤ 32 := iu_1.fi 167 1 0 (by decide) rfl
  exact loop_10 (_ + 1) u_1 1 _ _ _ (Nat.lt_succ_self _) iu_1 F_3 Fr.rf (by omega) (by omega) (show Hd (bs u_1 167) from xu_1.2.2) (((show bv u_1 167 = nv (S.2.1 162) 104 from bv_4)).trans (hpv.1.trans (show D0 = gcP pt D0 ((1 : Int) - 1).toNat from rfl))) hW hL (lv_sub hl [0, 1, 2] rfl)

set_option maxRecDepth 100000 in
set_option maxHeartbeats 4000000 in
theorem v_X5_proveOptimal (l : Launch) (G : sG) (S : sS) {md : Nat} {n mx bv0 D0 : Int} {pt : Int → Int} (hI : cX G S 0 0 0) (hm2 : mdl md) (hnx : S.1 md 2 = n ∧ S.1 md 4 = mx) (hn12 : 0 ≤ n ∧ n ≤ 12) (hpz : nv (S.2.1 162) (0 * 8) = bv0) (hpv : Hd (nv (S.2.1 162) 104 = D0 ∧ ∀ b, 1 ≤ b → b ≤ n → nv (S.2.1 162) (b * 8) = pt b)) (hpp : Hd (0 < D0 ∧ ∀ b, 0 ≤ pt b)) : Met l yX5_proveOptimal (.code yX5_proveOptimal cX5_proveOptimal 2 none :: tb) (rmk 7 0 0) (sPc G 294 S [.ref (G.2.2.1 + 157), .ref (G.2.2.1 + md)]) (sQv G 294 (fun u => cX G u 0 0 0 ∧ Fr S u pWp ∧ (Hd (TXc u 158 1500 (hdO n mx bv0 D0 pt))))) 0 0 (sF G) := by
  refine sEnter (by decide) (Nat.le_of_ble_eq_true rfl) ?_
  intro p e s m args below meth c Cx hr hlk hnm hW ls hl
  have Cx : sC G p m c cX5_proveOptimal 2 s args RX5 := Cx
  obtain ⟨hx, hb, hml, hown, hts⟩ := id Cx.1
  have hL : sL G [] := sL_nil
  have hl : lv_has ls 2 [(0, .ref (G.2.2.1 + 157)), (1, .ref (G.2.2.1 + md))] := hl
  have hW0 := hW
  refine lv_aload_n hx hb dX5_proveOptimal_0 rfl (lv_at hl 0 rfl) ?_
  refine g_X5_16 Cx hW (k := 157) (by decide) rfl (v := .ref (G.2.2.1 + 158)) (rf_157_0 hI) dX5_proveOptimal_1 ?_
  refine sBv (sV (As := []) (rest := []) (k := 158) Cx (s_X10_clear l G S (o := 158) (N := 1500) hI ⟨by decide, rfl, rfl, rfl, rfl, by decide⟩) (c_X5_52 Cx rfl rfl (rmk_ok (by omega) (by decide))) hW (by decide) rfl rfl rfl hl.1 rfl (Nat.le_of_ble_eq_true rfl) dX5_proveOptimal_4 ⟨Nat.le_of_ble_eq_true rfl, Nat.le_of_ble_eq_true rfl⟩) hL (fun u_1 H locs k_2 hW hL => ?_)
  obtain ⟨iu_1, fu_1, xu_1⟩ := k_2
  have F_3 := (Fr.rf : Fr S S pWp).trans (fu_1.to (pB_sub rfl rfl))
  refine lv_aload_n hx hb dX5_proveOptimal_7 rfl (lv_at hl 0 rfl) ?_
  refine g_X5_16 Cx hW (k := 157) (by decide) rfl (v := .ref (G.2.2.1 + 158)) (rf_157_0 iu_1) dX5_proveOptimal_8 ?_
  refine zLdc Cx 7 (by decide) ⟨rfl, rfl⟩ dX5_proveOptimal_11 ?_
  refine sBv (sV (As := [.ref (G.1.2 100 7)]) (rest := []) (k := 158) Cx (v_X10_word l G u_1 (o := 158) (si := 7) (N := 1500) (L := ([])) iu_1 ⟨by decide, rfl, rfl, rfl, rfl, by decide⟩ (by decide) (by omega) (TXc.z xu_1.1 xu_1.2.1)) (c_X5_95 Cx rfl rfl (rmk_ok (by omega) (by decide))) hW (by decide) rfl rfl rfl hl.1 rfl (Nat.le_of_ble_eq_true rfl) dX5_proveOptimal_13 ⟨Nat.le_of_ble_eq_true rfl, Nat.le_of_ble_eq_true rfl⟩) hL (fun u_4 H locs k_5 hW hL => ?_)
  obtain ⟨iu_4, fu_4, xu_4⟩ := k_5
  have F_6 := F_3.trans (fu_4.to (pB_sub rfl rfl))
  refine lv_aload_n hx hb dX5_proveOptimal_16 rfl (lv_at hl 0 rfl) ?_
  refine lv_iconst (v := iv 0) hx hb dX5_proveOptimal_17 (by decide) ?_
  refine lv_aload_n hx hb dX5_proveOptimal_18 rfl (lv_at hl 0 rfl) ?_
  refine g_X5_30 Cx hW (k := 157) (by decide) rfl (v := .ref (G.2.2.1 + 163)) (rf_157_3 iu_4) dX5_proveOptimal_19 ?_
  refine sBv (sV (As := [.int (iv 0), .ref (G.2.2.1 + 163)]) (rest := []) (k := 157) Cx (v_X5_pointNumber l G u_4 (j := 0) (v := 163) iu_4 rfl (by omega)) (c_X5_173 Cx rfl rfl (rmk_ok (by omega) (by decide))) hW (by decide) rfl rfl rfl hl.1 rfl (Nat.le_of_ble_eq_true rfl) dX5_proveOptimal_22 ⟨Nat.le_of_ble_eq_true rfl, Nat.le_of_ble_eq_true rfl⟩) hL (fun u_7 H locs k_8 hW hL => ?_)
  obtain ⟨iu_7, fu_7, xu_7⟩ := k_8
  have F_9 := F_6.trans (fu_7.to (pB_sub rfl rfl))
  have bv_10 : bv u_7 163 = nv (u_4.2.1 162) (0 * 8) := xu_7.2.1
  refine lv_aload_n hx hb dX5_proveOptimal_25 rfl (lv_at hl 0 rfl) ?_
  refine lv_aload_n hx hb dX5_proveOptimal_26 rfl (lv_at hl 0 rfl) ?_
  refine g_X5_34 Cx hW (k := 157) (by decide) rfl (v := .ref (G.2.2.1 + 165)) (rf_157_4 iu_7) dX5_proveOptimal_27 ?_
  refine sBv (sV (As := [.ref (G.2.2.1 + 165)]) (rest := []) (k := 157) Cx (v_X5_pointDenominator l G u_7 (v := 165) iu_7 rfl) (c_X5_170 Cx rfl rfl (rmk_ok (by omega) (by decide))) hW (by decide) rfl rfl rfl hl.1 rfl (Nat.le_of_ble_eq_true rfl) dX5_proveOptimal_30 ⟨Nat.le_of_ble_eq_true rfl, Nat.le_of_ble_eq_true rfl⟩) hL (fun u_11 H locs k_12 hW hL => ?_)
  obtain ⟨iu_11, fu_11, xu_11⟩ := k_12
  have F_13 := F_9.trans (fu_11.to (pB_sub rfl rfl))
  have bv_14 : bv u_11 165 = nv (u_7.2.1 162) 104 := xu_11.2.1
  refine lv_aload_n hx hb dX5_proveOptimal_33 rfl (lv_at hl 0 rfl) ?_
  refine lv_aload_n hx hb dX5_proveOptimal_34 rfl (lv_at hl 0 rfl) ?_
  refine g_X5_30 Cx hW (k := 157) (by decide) rfl (v := .ref (G.2.2.1 + 163)) (rf_157_3 iu_11) dX5_proveOptimal_35 ?_
  refine lv_aload_n hx hb dX5_proveOptimal_38 rfl (lv_at hl 0 rfl) ?_
  refine g_X5_34 Cx hW (k := 157) (by decide) rfl (v := .ref (G.2.2.1 + 165)) (rf_157_4 iu_11) dX5_proveOptimal_39 ?_
  have join_54 : ∀ (tn : Int) (H : Heap) (locs : List Loc) (ls : Array Slot), ((0 ≤ tn ∧ tn ≤ 1) ∧ (tn = 1 ↔ mx ≠ 1)) → sW G 294 u_11 H → sL G locs → lv_has ls 2 [(0, .ref (G.2.2.1 + 157)), (1, .ref (G.2.2.1 + md))] → W p l e (rmk 7 0 0) s m args below meth c H locs 0 0 (MQ below (sQv G 294 (fun u => cX G u 0 0 0 ∧ Fr S u pWp ∧ (Hd (TXc u 158 1500 (hdO n mx bv0 D0 pt))))) args s 0 0 (sF G)) (F0 m 54 ls [.int (iv tn), .ref (G.2.2.1 + 165), .ref (G.2.2.1 + 163), .ref (G.2.2.1 + 157)]) := by
    intro tn H locs ls htn hW hL hl
    have htx : (if tn = 1 then -bv0 else bv0) = (if mx = 1 then bv0 else -bv0) := (by by_cases q : mx = 1; (rw [if_neg (by omega), if_pos q]); (rw [if_pos (by omega), if_neg q]))
    have q_15 : 0 ≤ u_7.1 163 1 ∧ u_7.1 163 1 ≤ 32 := iu_7.fi 163 1 0 (by decide) rfl
    have lk_16 : u_11.1 163 1 = u_7.1 163 1 := (fu_11 163 rfl).1 1
    have q_17 : 0 ≤ u_11.1 165 1 ∧ u_11.1 165 1 ≤ 32 := iu_11.fi 165 1 0 (by decide) rfl
    refine sBv (sV (As := [.ref (G.2.2.1 + 163), .ref (G.2.2.1 + 165), .int (iv tn)]) (rest := []) (k := 157) Cx (v_X5_reduce l G u_11 (tn := tn) iu_11 (by omega) (by omega) (show Hd (bs u_11 163) from (bs_fr fu_11 rfl xu_7.2.2)) (show Hd (bs u_11 165) from xu_11.2.2) (by rw [(show bv u_11 165 = nv (u_7.2.1 162) 104 from bv_14), show u_7.2.1 162 = S.2.1 162 from funext fun x => ((fu_7 162 rfl).2.1 x).trans (((fu_4 162 rfl).2.1 x).trans ((fu_1 162 rfl).2.1 x)), hpv.1]; exact hpp.1)) (c_X5_156 Cx rfl rfl (rmk_ok (by omega) (by decide))) hW (by decide) rfl rfl rfl hl.1 rfl (Nat.le_of_ble_eq_true rfl) dX5_proveOptimal_54 ⟨Nat.le_of_ble_eq_true rfl, Nat.le_of_ble_eq_true rfl⟩) hL (fun u_18 H locs k_19 hW hL => ?_)
    obtain ⟨iu_18, fu_18, xu_18⟩ := k_19
    have F_20 := F_13.trans (fu_18.to pRe_Wp)
    have bv_21 : bv u_18 163 = (if tn = 1 then -(nv (u_4.2.1 162) (0 * 8)) else nv (u_4.2.1 162) (0 * 8)) / (gc (absI (nv (u_4.2.1 162) (0 * 8))) (nv (u_7.2.1 162) 104)) := (xu_18.1.trans (by rw [(show bv u_11 163 = nv (u_4.2.1 162) (0 * 8) from (bv_fr fu_11 rfl rfl).trans (bv_10)), (show bv u_11 165 = nv (u_7.2.1 162) 104 from bv_14)]))
    have bv_22 : bv u_18 165 = (nv (u_7.2.1 162) 104) / (gc (absI (nv (u_4.2.1 162) (0 * 8))) (nv (u_7.2.1 162) 104)) := (xu_18.2.1.trans (by rw [(show bv u_11 163 = nv (u_4.2.1 162) (0 * 8) from (bv_fr fu_11 rfl rfl).trans (bv_10)), (show bv u_11 165 = nv (u_7.2.1 162) 104 from bv_14)]))
    refine lv_aload_n hx hb dX5_proveOptimal_57 rfl (lv_at hl 0 rfl) ?_
    refine g_X5_16 Cx hW (k := 157) (by decide) rfl (v := .ref (G.2.2.1 + 158)) (rf_157_0 iu_18) dX5_proveOptimal_58 ?_
    refine lv_aload_n hx hb dX5_proveOptimal_61 rfl (lv_at hl 0 rfl) ?_
    refine g_X5_30 Cx hW (k := 157) (by decide) rfl (v := .ref (G.2.2.1 + 163)) (rf_157_3 iu_18) dX5_proveOptimal_62 ?_
    refine lv_iconst (v := iv 1) hx hb dX5_proveOptimal_65 (by decide) ?_
    refine sBv (sV (As := [.ref (G.2.2.1 + 163), .int (iv 1)]) (rest := []) (k := 158) Cx (v_X10_number l G u_18 (o := 158) (v := 163) (N := 1500) (L := (tkn (([])) (strB.getD 7 []))) iu_18 ⟨by decide, rfl, rfl, rfl, rfl, by decide⟩ rfl (by omega) (show Hd (bs u_18 163) from xu_18.2.2.1) (TXc.of xu_4 (show u_18.1 158 1 = u_4.1 158 1 from ((fu_18 158 rfl).1 1).trans (((fu_11 158 rfl).1 1).trans ((fu_7 158 rfl).1 1))) (show u_18.1 158 2 = u_4.1 158 2 from ((fu_18 158 rfl).1 2).trans (((fu_11 158 rfl).1 2).trans ((fu_7 158 rfl).1 2))) (show u_18.2.1 159 = u_4.2.1 159 from funext fun x => ((fu_18 159 rfl).2.1 x).trans (((fu_11 159 rfl).2.1 x).trans ((fu_7 159 rfl).2.1 x))))) (c_X5_99 Cx rfl rfl (rmk_ok (by omega) (by decide))) hW (by decide) rfl rfl rfl hl.1 rfl (Nat.le_of_ble_eq_true rfl) dX5_proveOptimal_66 ⟨Nat.le_of_ble_eq_true rfl, Nat.le_of_ble_eq_true rfl⟩) hL (fun u_23 H locs k_24 hW hL => ?_)
    obtain ⟨iu_23, fu_23, xu_23⟩ := k_24
    have F_25 := F_20.trans (fu_23.to (pB_sub rfl rfl))
    refine lv_aload_n hx hb dX5_proveOptimal_69 rfl (lv_at hl 0 rfl) ?_
    refine g_X5_16 Cx hW (k := 157) (by decide) rfl (v := .ref (G.2.2.1 + 158)) (rf_157_0 iu_23) dX5_proveOptimal_70 ?_
    refine zLdc Cx 8 (by decide) ⟨rfl, rfl⟩ dX5_proveOptimal_73 ?_
    refine sBv (sV (As := [.ref (G.1.2 100 8)]) (rest := []) (k := 158) Cx (v_X10_word l G u_23 (o := 158) (si := 8) (N := 1500) (L := (tkn (tkn (([])) (strB.getD 7 [])) (nmT ((if tn = 1 then -(nv (u_4.2.1 162) (0 * 8)) else nv (u_4.2.1 162) (0 * 8)) / (gc (absI (nv (u_4.2.1 162) (0 * 8))) (nv (u_7.2.1 162) 104)))))) iu_23 ⟨by decide, rfl, rfl, rfl, rfl, by decide⟩ (by decide) (by omega) (TXc.eq xu_23 (by rw [(show bv u_18 163 = (if tn = 1 then -(nv (u_4.2.1 162) (0 * 8)) else nv (u_4.2.1 162) (0 * 8)) / (gc (absI (nv (u_4.2.1 162) (0 * 8))) (nv (u_7.2.1 162) 104)) from bv_21)]))) (c_X5_95 Cx rfl rfl (rmk_ok (by omega) (by decide))) hW (by decide) rfl rfl rfl hl.1 rfl (Nat.le_of_ble_eq_true rfl) dX5_proveOptimal_75 ⟨Nat.le_of_ble_eq_true rfl, Nat.le_of_ble_eq_true rfl⟩) hL (fun u_26 H locs k_27 hW hL => ?_)
    obtain ⟨iu_26, fu_26, xu_26⟩ := k_27
    have F_28 := F_25.trans (fu_26.to (pB_sub rfl rfl))
    refine lv_aload_n hx hb dX5_proveOptimal_78 rfl (lv_at hl 0 rfl) ?_
    refine g_X5_16 Cx hW (k := 157) (by decide) rfl (v := .ref (G.2.2.1 + 158)) (rf_157_0 iu_26) dX5_proveOptimal_79 ?_
    refine lv_aload_n hx hb dX5_proveOptimal_82 rfl (lv_at hl 0 rfl) ?_
    refine g_X5_34 Cx hW (k := 157) (by decide) rfl (v := .ref (G.2.2.1 + 165)) (rf_157_4 iu_26) dX5_proveOptimal_83 ?_
    refine lv_iconst (v := iv 1) hx hb dX5_proveOptimal_86 (by decide) ?_
    refine sBv (sV (As := [.ref (G.2.2.1 + 165), .int (iv 1)]) (rest := []) (k := 158) Cx (v_X10_number l G u_26 (o := 158) (v := 165) (N := 1500) (L := (tkn ((tkn (tkn (([])) (strB.getD 7 [])) (nmT ((if tn = 1 then -(nv (u_4.2.1 162) (0 * 8)) else nv (u_4.2.1 162) (0 * 8)) / (gc (absI (nv (u_4.2.1 162) (0 * 8))) (nv (u_7.2.1 162) 104)))))) (strB.getD 8 []))) iu_26 ⟨by decide, rfl, rfl, rfl, rfl, by decide⟩ rfl (by omega) (show Hd (bs u_26 165) from (bs_fr fu_26 rfl (bs_fr fu_23 rfl xu_18.2.2.2))) xu_26) (c_X5_99 Cx rfl rfl (rmk_ok (by omega) (by decide))) hW (by decide) rfl rfl rfl hl.1 rfl (Nat.le_of_ble_eq_true rfl) dX5_proveOptimal_87 ⟨Nat.le_of_ble_eq_true rfl, Nat.le_of_ble_eq_true rfl⟩) hL (fun u_29 H locs k_30 hW hL => ?_)
    obtain ⟨iu_29, fu_29, xu_29⟩ := k_30
    have F_31 := F_28.trans (fu_29.to (pB_sub rfl rfl))
    refine lv_aload_n hx hb dX5_proveOptimal_90 rfl (lv_at hl 0 rfl) ?_
    refine lv_aload_n hx hb dX5_proveOptimal_91 rfl (lv_at hl 1 rfl) ?_
    have q_32 : 0 ≤ S.1 md 2 ∧ S.1 md 2 ≤ 12 := hI.fi md 2 3 (mdl_k hm2) hm2.1
    refine g_X5_186 Cx hW (k := md) (mdl_l hm2) hm2.1 (v := S.1 md 2) (((fu_29 md (pB_no (tau_ne hm2.1 (rfl : tau 158 = .inl 10) (fun h => by cases h)) (tau_ne hm2.1 (rfl : tau 159 = .inr (.byte, 1500)) (fun h => by cases h)))).1 2).trans (((fu_26 md (pB_no (tau_ne hm2.1 (rfl : tau 158 = .inl 10) (fun h => by cases h)) (tau_ne hm2.1 (rfl : tau 159 = .inr (.byte, 1500)) (fun h => by cases h)))).1 2).trans (((fu_23 md (pB_no (tau_ne hm2.1 (rfl : tau 158 = .inl 10) (fun h => by cases h)) (tau_ne hm2.1 (rfl : tau 159 = .inr (.byte, 1500)) (fun h => by cases h)))).1 2).trans (((fu_18 md (mo_pRe hm2).1).1 2).trans (((fu_11 md (pB_no (tau_ne hm2.1 (rfl : tau 165 = .inl 0) (fun h => by cases h)) (tau_ne hm2.1 (rfl : tau 166 = .inr (.int, 32)) (fun h => by cases h)))).1 2).trans (((fu_7 md (pB_no (tau_ne hm2.1 (rfl : tau 163 = .inl 0) (fun h => by cases h)) (tau_ne hm2.1 (rfl : tau 164 = .inr (.int, 32)) (fun h => by cases h)))).1 2).trans (((fu_4 md (pB_no (tau_ne hm2.1 (rfl : tau 158 = .inl 10) (fun h => by cases h)) (tau_ne hm2.1 (rfl : tau 159 = .inr (.byte, 1500)) (fun h => by cases h)))).1 2).trans ((fu_1 md (pB_no (tau_ne hm2.1 (rfl : tau 158 = .inl 10) (fun h => by cases h)) (tau_ne hm2.1 (rfl : tau 159 = .inr (.byte, 1500)) (fun h => by cases h)))).1 2)))))))) dX5_proveOptimal_92 ?_
    refine sBv (sV (As := [.int (iv (S.1 md 2))]) (rest := []) (k := 157) Cx (v_X5_writePoint l G u_29 (vs := S.1 md 2) (L := (tkn (tkn ((tkn (tkn (([])) (strB.getD 7 [])) (nmT ((if tn = 1 then -(nv (u_4.2.1 162) (0 * 8)) else nv (u_4.2.1 162) (0 * 8)) / (gc (absI (nv (u_4.2.1 162) (0 * 8))) (nv (u_7.2.1 162) 104)))))) (strB.getD 8 [])) (nmT ((nv (u_7.2.1 162) 104) / (gc (absI (nv (u_4.2.1 162) (0 * 8))) (nv (u_7.2.1 162) 104)))))) (pt := pt) (D0 := D0) iu_29 (by omega) (by rw [show u_29.2.1 162 = S.2.1 162 from funext fun x => ((fu_29 162 rfl).2.1 x).trans (((fu_26 162 rfl).2.1 x).trans (((fu_23 162 rfl).2.1 x).trans (((fu_18 162 rfl).2.1 x).trans (((fu_11 162 rfl).2.1 x).trans (((fu_7 162 rfl).2.1 x).trans (((fu_4 162 rfl).2.1 x).trans ((fu_1 162 rfl).2.1 x))))))), show S.1 md 2 = n by omega]; exact hpv) hpp (TXc.eq xu_29 (by rw [(show bv u_26 165 = (nv (u_7.2.1 162) 104) / (gc (absI (nv (u_4.2.1 162) (0 * 8))) (nv (u_7.2.1 162) 104)) from (bv_fr fu_26 rfl rfl).trans ((bv_fr fu_23 rfl rfl).trans (bv_22)))]))) (c_X5_189 Cx rfl rfl (rmk_ok (by omega) (by decide))) hW (by decide) rfl rfl rfl hl.1 rfl (Nat.le_of_ble_eq_true rfl) dX5_proveOptimal_95 ⟨Nat.le_of_ble_eq_true rfl, Nat.le_of_ble_eq_true rfl⟩) hL (fun u_33 H locs k_34 hW hL => ?_)
    obtain ⟨iu_33, fu_33, xu_33⟩ := k_34
    have F_35 := F_31.trans fu_33
    exact sVret Cx hr hlk hW hL ⟨iu_33, F_35, (TXc.eq xu_33 (show atT (S.1 md 2) pt D0 ((tkn (tkn ((tkn (tkn (([])) (strB.getD 7 [])) (nmT ((if tn = 1 then -(nv (u_4.2.1 162) (0 * 8)) else nv (u_4.2.1 162) (0 * 8)) / (gc (absI (nv (u_4.2.1 162) (0 * 8))) (nv (u_7.2.1 162) 104)))))) (strB.getD 8 [])) (nmT ((nv (u_7.2.1 162) 104) / (gc (absI (nv (u_4.2.1 162) (0 * 8))) (nv (u_7.2.1 162) 104)))))) = _ by rw [show u_4.2.1 162 = S.2.1 162 from funext fun x => ((fu_4 162 rfl).2.1 x).trans ((fu_1 162 rfl).2.1 x), show u_7.2.1 162 = S.2.1 162 from funext fun x => ((fu_7 162 rfl).2.1 x).trans (((fu_4 162 rfl).2.1 x).trans ((fu_1 162 rfl).2.1 x)), show nv (S.2.1 162) (0 * 8) = bv0 from hpz, hpv.1, show S.1 md 2 = n by omega, htx]; rfl))⟩ dX5_proveOptimal_98
  refine lv_aload_n hx hb dX5_proveOptimal_42 rfl (lv_at hl 1 rfl) ?_
  have q_36 : 0 ≤ S.1 md 4 ∧ S.1 md 4 ≤ 1 := hI.fi md 4 3 (mdl_k hm2) hm2.1
  refine g_X5_180 Cx hW (k := md) (mdl_l hm2) hm2.1 (v := S.1 md 4) (((fu_11 md (pB_no (tau_ne hm2.1 (rfl : tau 165 = .inl 0) (fun h => by cases h)) (tau_ne hm2.1 (rfl : tau 166 = .inr (.int, 32)) (fun h => by cases h)))).1 4).trans (((fu_7 md (pB_no (tau_ne hm2.1 (rfl : tau 163 = .inl 0) (fun h => by cases h)) (tau_ne hm2.1 (rfl : tau 164 = .inr (.int, 32)) (fun h => by cases h)))).1 4).trans (((fu_4 md (pB_no (tau_ne hm2.1 (rfl : tau 158 = .inl 10) (fun h => by cases h)) (tau_ne hm2.1 (rfl : tau 159 = .inr (.byte, 1500)) (fun h => by cases h)))).1 4).trans ((fu_1 md (pB_no (tau_ne hm2.1 (rfl : tau 158 = .inl 10) (fun h => by cases h)) (tau_ne hm2.1 (rfl : tau 159 = .inr (.byte, 1500)) (fun h => by cases h)))).1 4)))) dX5_proveOptimal_43 ?_
  refine r_if_ne (tgt := 53) hx hb ⟨(by omega), (by omega)⟩ dX5_proveOptimal_46 (by decide) (fun c_37 => ?_) (fun c_37 => ?_)
  · refine lv_iconst (v := iv 0) hx hb dX5_proveOptimal_53 (by decide) ?_
    exact join_54 0 _ _ _ (by omega) hW hL (lv_sub hl [0, 1] rfl)
  · refine lv_iconst (v := iv 1) hx hb dX5_proveOptimal_49 (by decide) ?_
    refine lv_goto (tgt := 54) hx hb dX5_proveOptimal_50 (by decide) ?_
    exact join_54 1 _ _ _ (by omega) hW hL (lv_sub hl [0, 1] rfl)

set_option maxRecDepth 100000 in
set_option maxHeartbeats 4000000 in
theorem v_X5_proveInfeasible (l : Launch) (G : sG) (S : sS)  (hI : cX G S 0 0 0) : Met l yX5_proveInfeasible (.code yX5_proveInfeasible cX5_proveInfeasible 1 none :: tb) (rmk 6 0 0) (sPc G 294 S [.ref (G.2.2.1 + 157)]) (sQv G 294 (fun u => cX G u 0 0 0 ∧ Fr S u pWp ∧ (Hd (TXc u 158 1500 (tkn [] wIf))))) 0 0 (sF G) := by
  refine sEnter (by decide) (Nat.le_of_ble_eq_true rfl) ?_
  intro p e s m args below meth c Cx hr hlk hnm hW ls hl
  have Cx : sC G p m c cX5_proveInfeasible 1 s args RX5 := Cx
  obtain ⟨hx, hb, hml, hown, hts⟩ := id Cx.1
  have hL : sL G [] := sL_nil
  have hl : lv_has ls 1 [(0, .ref (G.2.2.1 + 157))] := hl
  have hW0 := hW
  refine lv_aload_n hx hb dX5_proveInfeasible_0 rfl (lv_at hl 0 rfl) ?_
  refine g_X5_16 Cx hW (k := 157) (by decide) rfl (v := .ref (G.2.2.1 + 158)) (rf_157_0 hI) dX5_proveInfeasible_1 ?_
  refine sBv (sV (As := []) (rest := []) (k := 158) Cx (s_X10_clear l G S (o := 158) (N := 1500) hI ⟨by decide, rfl, rfl, rfl, rfl, by decide⟩) (c_X5_52 Cx rfl rfl (rmk_ok (by omega) (by decide))) hW (by decide) rfl rfl rfl hl.1 rfl (Nat.le_of_ble_eq_true rfl) dX5_proveInfeasible_4 ⟨Nat.le_of_ble_eq_true rfl, Nat.le_of_ble_eq_true rfl⟩) hL (fun u_1 H locs k_2 hW hL => ?_)
  obtain ⟨iu_1, fu_1, xu_1⟩ := k_2
  have F_3 := (Fr.rf : Fr S S pWp).trans (fu_1.to (pB_sub rfl rfl))
  refine lv_aload_n hx hb dX5_proveInfeasible_7 rfl (lv_at hl 0 rfl) ?_
  refine g_X5_16 Cx hW (k := 157) (by decide) rfl (v := .ref (G.2.2.1 + 158)) (rf_157_0 iu_1) dX5_proveInfeasible_8 ?_
  refine zLdc Cx 10 (by decide) ⟨rfl, rfl⟩ dX5_proveInfeasible_11 ?_
  refine sBv (sV (As := [.ref (G.1.2 100 10)]) (rest := []) (k := 158) Cx (v_X10_word l G u_1 (o := 158) (si := 10) (N := 1500) (L := ([])) iu_1 ⟨by decide, rfl, rfl, rfl, rfl, by decide⟩ (by decide) (by omega) (TXc.z xu_1.1 xu_1.2.1)) (c_X5_95 Cx rfl rfl (rmk_ok (by omega) (by decide))) hW (by decide) rfl rfl rfl hl.1 rfl (Nat.le_of_ble_eq_true rfl) dX5_proveInfeasible_13 ⟨Nat.le_of_ble_eq_true rfl, Nat.le_of_ble_eq_true rfl⟩) hL (fun u_4 H locs k_5 hW hL => ?_)
  obtain ⟨iu_4, fu_4, xu_4⟩ := k_5
  have F_6 := F_3.trans (fu_4.to (pB_sub rfl rfl))
  exact sVret Cx hr hlk hW hL ⟨iu_4, F_6, (TXc.eq xu_4 (show tkn (([])) (strB.getD 10 []) = _ from rfl))⟩ dX5_proveInfeasible_16

set_option maxRecDepth 100000 in
set_option maxHeartbeats 4000000 in
theorem v_X5_proveUnbounded (l : Launch) (G : sG) (S : sS) {oc od : Nat} {n hw : Int} {d : dT} {md : Nat} {sc : Int} {L : List Int} (hI : cX G S 0 0 0) (hdq : dcs G S oc od) (hDR : Hd (DRc S oc n hw d)) (hm2 : mdl md) (hT : Hd (TXc S 160 30000 L)) (hn2 : S.1 md 2 = n) (hn12 : 0 ≤ n ∧ n ≤ 12) (hcol : 1 ≤ sc ∧ sc ≤ d.2.2.2.2.2) (hsc : S.1 135 18 = sc) (hpp : Hd (0 < d.1 ∧ ∀ b, 0 ≤ ptB d b)) : Met l yX5_proveUnbounded (.code yX5_proveUnbounded cX5_proveUnbounded 4 none :: tb) (rmk 7 0 0) (sPc G 294 S [.ref (G.2.2.1 + 157), .ref (G.2.2.1 + md), .ref (G.2.2.1 + 135)]) (sQv G 294 (fun u => cX G u 0 0 0 ∧ Fr S u pWu ∧ (Hd (TXc u 158 1500 (hdU n d sc))))) 0 0 (sF G) := by
  refine sEnter (by decide) (Nat.le_of_ble_eq_true rfl) ?_
  intro p e s m args below meth c Cx hr hlk hnm hW ls hl
  have Cx : sC G p m c cX5_proveUnbounded 4 s args RX5 := Cx
  obtain ⟨hx, hb, hml, hown, hts⟩ := id Cx.1
  have hL : sL G [] := sL_nil
  have hl : lv_has ls 4 [(0, .ref (G.2.2.1 + 157)), (1, .ref (G.2.2.1 + md)), (2, .ref (G.2.2.1 + 135))] := hl
  have hW0 := hW
  obtain ⟨hoc, hod, hcd, hec, hed⟩ := id hdq
  have hd13 := hDR.2.2.2.2.1; have hd14 := hDR.2.2.2.2.2.1; have hd15 := hDR.2.2.2.2.2.2.1; have hd16 := hDR.2.2.2.2.2.2.2; have hm40 : 0 ≤ S.1 135 14 ∧ S.1 135 14 ≤ 40 := hI.fi 135 14 2 (by decide) rfl; have hp13 : 0 ≤ S.1 135 15 ∧ S.1 135 15 ≤ 13 := hI.fi 135 15 2 (by decide) rfl
  refine lv_aload_n hx hb dX5_proveUnbounded_0 rfl (lv_at hl 0 rfl) ?_
  refine lv_aload_n hx hb dX5_proveUnbounded_1 rfl (lv_at hl 2 rfl) ?_
  refine lv_aload_n hx hb dX5_proveUnbounded_2 rfl (lv_at hl 1 rfl) ?_
  have q_1 : 0 ≤ S.1 md 2 ∧ S.1 md 2 ≤ 12 := hI.fi md 2 3 (mdl_k hm2) hm2.1
  refine g_X5_186 Cx hW (k := md) (mdl_l hm2) hm2.1 (v := S.1 md 2) rfl dX5_proveUnbounded_3 ?_
  refine sBv (sV (As := [.ref (G.2.2.1 + 135), .int (iv (S.1 md 2))]) (rest := []) (k := 157) Cx (v_X5_takePoint l G S (vs := S.1 md 2) (oc := oc) (od := od) (n := n) (hw := hw) (d := d) (L := L) hI ⟨hoc, hod, (neD hcd), hec, hed⟩ hDR hT (by omega)) (c_X5_194 Cx rfl rfl (rmk_ok (by omega) (by decide))) hW (by decide) rfl rfl rfl hl.1 rfl (Nat.le_of_ble_eq_true rfl) dX5_proveUnbounded_6 ⟨Nat.le_of_ble_eq_true rfl, Nat.le_of_ble_eq_true rfl⟩) hL (fun u_2 H locs k_3 hW hL => ?_)
  obtain ⟨iu_2, fu_2, xu_2⟩ := k_3
  have F_4 := (Fr.rf : Fr S S pWu).trans (fu_2.to pGt_Wu)
  refine lv_aload_n hx hb dX5_proveUnbounded_9 rfl (lv_at hl 0 rfl) ?_
  refine g_X5_16 Cx hW (k := 157) (by decide) rfl (v := .ref (G.2.2.1 + 158)) (rf_157_0 iu_2) dX5_proveUnbounded_10 ?_
  refine sBv (sV (As := []) (rest := []) (k := 158) Cx (s_X10_clear l G u_2 (o := 158) (N := 1500) iu_2 ⟨by decide, rfl, rfl, rfl, rfl, by decide⟩) (c_X5_52 Cx rfl rfl (rmk_ok (by omega) (by decide))) hW (by decide) rfl rfl rfl hl.1 rfl (Nat.le_of_ble_eq_true rfl) dX5_proveUnbounded_13 ⟨Nat.le_of_ble_eq_true rfl, Nat.le_of_ble_eq_true rfl⟩) hL (fun u_5 H locs k_6 hW hL => ?_)
  obtain ⟨iu_5, fu_5, xu_5⟩ := k_6
  have F_7 := F_4.trans (fu_5.to (pB_sub rfl rfl))
  refine lv_aload_n hx hb dX5_proveUnbounded_16 rfl (lv_at hl 0 rfl) ?_
  refine g_X5_16 Cx hW (k := 157) (by decide) rfl (v := .ref (G.2.2.1 + 158)) (rf_157_0 iu_5) dX5_proveUnbounded_17 ?_
  refine zLdc Cx 11 (by decide) ⟨rfl, rfl⟩ dX5_proveUnbounded_20 ?_
  refine sBv (sV (As := [.ref (G.1.2 100 11)]) (rest := []) (k := 158) Cx (v_X10_word l G u_5 (o := 158) (si := 11) (N := 1500) (L := ([])) iu_5 ⟨by decide, rfl, rfl, rfl, rfl, by decide⟩ (by decide) (by omega) (TXc.z xu_5.1 xu_5.2.1)) (c_X5_95 Cx rfl rfl (rmk_ok (by omega) (by decide))) hW (by decide) rfl rfl rfl hl.1 rfl (Nat.le_of_ble_eq_true rfl) dX5_proveUnbounded_22 ⟨Nat.le_of_ble_eq_true rfl, Nat.le_of_ble_eq_true rfl⟩) hL (fun u_8 H locs k_9 hW hL => ?_)
  obtain ⟨iu_8, fu_8, xu_8⟩ := k_9
  have F_10 := F_7.trans (fu_8.to (pB_sub rfl rfl))
  refine lv_aload_n hx hb dX5_proveUnbounded_25 rfl (lv_at hl 0 rfl) ?_
  refine lv_aload_n hx hb dX5_proveUnbounded_26 rfl (lv_at hl 1 rfl) ?_
  refine g_X5_186 Cx hW (k := md) (mdl_l hm2) hm2.1 (v := S.1 md 2) (((fu_8 md (pB_no (tau_ne hm2.1 (rfl : tau 158 = .inl 10) (fun h => by cases h)) (tau_ne hm2.1 (rfl : tau 159 = .inr (.byte, 1500)) (fun h => by cases h)))).1 2).trans (((fu_5 md (pB_no (tau_ne hm2.1 (rfl : tau 158 = .inl 10) (fun h => by cases h)) (tau_ne hm2.1 (rfl : tau 159 = .inr (.byte, 1500)) (fun h => by cases h)))).1 2).trans ((fu_2 md (mo_pGt hm2).1).1 2))) dX5_proveUnbounded_27 ?_
  refine sBv (sV (As := [.int (iv (S.1 md 2))]) (rest := []) (k := 157) Cx (v_X5_writePoint l G u_8 (vs := S.1 md 2) (L := (tkn (([])) (strB.getD 11 []))) (pt := (ptB d)) (D0 := d.1) iu_8 (by omega) (by rw [show u_8.2.1 162 = u_2.2.1 162 from funext fun x => ((fu_8 162 rfl).2.1 x).trans ((fu_5 162 rfl).2.1 x), show S.1 md 2 = n by omega]; exact ⟨xu_2.2.1, xu_2.2.2⟩) hpp xu_8) (c_X5_189 Cx rfl rfl (rmk_ok (by omega) (by decide))) hW (by decide) rfl rfl rfl hl.1 rfl (Nat.le_of_ble_eq_true rfl) dX5_proveUnbounded_30 ⟨Nat.le_of_ble_eq_true rfl, Nat.le_of_ble_eq_true rfl⟩) hL (fun u_11 H locs k_12 hW hL => ?_)
  obtain ⟨iu_11, fu_11, xu_11⟩ := k_12
  have F_13 := F_10.trans (fu_11.to pWp_Wu)
  refine lv_aload_n hx hb dX5_proveUnbounded_33 rfl (lv_at hl 0 rfl) ?_
  refine g_X5_16 Cx hW (k := 157) (by decide) rfl (v := .ref (G.2.2.1 + 158)) (rf_157_0 iu_11) dX5_proveUnbounded_34 ?_
  refine zLdc Cx 12 (by decide) ⟨rfl, rfl⟩ dX5_proveUnbounded_37 ?_
  refine sBv (sV (As := [.ref (G.1.2 100 12)]) (rest := []) (k := 158) Cx (v_X10_word l G u_11 (o := 158) (si := 12) (N := 1500) (L := (atT (S.1 md 2) ((ptB d)) d.1 ((tkn (([])) (strB.getD 11 []))))) iu_11 ⟨by decide, rfl, rfl, rfl, rfl, by decide⟩ (by decide) (by omega) xu_11) (c_X5_95 Cx rfl rfl (rmk_ok (by omega) (by decide))) hW (by decide) rfl rfl rfl hl.1 rfl (Nat.le_of_ble_eq_true rfl) dX5_proveUnbounded_39 ⟨Nat.le_of_ble_eq_true rfl, Nat.le_of_ble_eq_true rfl⟩) hL (fun u_14 H locs k_15 hW hL => ?_)
  obtain ⟨iu_14, fu_14, xu_14⟩ := k_15
  have F_16 := F_13.trans (fu_14.to (pB_sub rfl rfl))
  refine lv_iconst (v := iv 1) hx hb dX5_proveUnbounded_42 (by decide) ?_
  refine lv_istore_n (lv' := [(3, .int (iv 1)), (0, .ref (G.2.2.1 + 157)), (1, .ref (G.2.2.1 + md)), (2, .ref (G.2.2.1 + 135))]) hx hb dX5_proveUnbounded_43 rfl hl (by decide) rfl (fun ls hl => ?_)
  have loop_44 : ∀ (fuel : Nat) (S44 : sS) (j : Int) (H : Heap) (locs : List Loc) (ls : Array Slot), (13 - j).toNat < fuel → (cX G S44 0 0 0) → (Fr S S44 pWu) → (Fr u_14 S44 pWv) → (1 ≤ j ∧ j ≤ n + 1) → (Hd (TXc S44 158 1500 (ptsT (rayV d sc) (tkn (atT n (ptB d) d.1 (tkn [] wUn)) wAl) (j - 1).toNat))) → (Hd (DRc S44 oc n hw d)) → sW G 294 S44 H → sL G locs → lv_has ls 4 [(3, .int (iv j)), (0, .ref (G.2.2.1 + 157)), (1, .ref (G.2.2.1 + md)), (2, .ref (G.2.2.1 + 135))] → W p l e (rmk 7 0 0) s m args below meth c H locs 0 0 (MQ below (sQv G 294 (fun u => cX G u 0 0 0 ∧ Fr S u pWu ∧ (Hd (TXc u 158 1500 (hdU n d sc))))) args s 0 0 (sF G)) (F0 m 44 ls []) := by
    intro fuel
    induction fuel with
    | zero => intro S44 j H locs ls hmeas hI44 hFm44 hL44_ hj hT4 hD44 hW hL hl; exact absurd hmeas (Nat.not_lt_zero _)
    | succ fuel ih_44 =>
      intro S44 j H locs ls hmeas hI44 hFm44 hL44_ hj hT4 hD44 hW hL hl
      have hD4414 := hD44.2.2.2.2.2.1; have hD4415 := hD44.2.2.2.2.2.2.1
      refine lv_iload_n hx hb dX5_proveUnbounded_44 rfl (lv_at hl 0 rfl) ?_
      refine lv_aload_n hx hb dX5_proveUnbounded_45 rfl (lv_at hl 2 rfl) ?_
      refine g_X5_186 Cx hW (k := md) (mdl_l hm2) hm2.1 (v := S.1 md 2) (((hL44_ md (mo_pWv hm2).1).1 2).trans (((fu_14 md (pB_no (tau_ne hm2.1 (rfl : tau 158 = .inl 10) (fun h => by cases h)) (tau_ne hm2.1 (rfl : tau 159 = .inr (.byte, 1500)) (fun h => by cases h)))).1 2).trans (((fu_11 md (mo_pWp hm2).1).1 2).trans (((fu_8 md (pB_no (tau_ne hm2.1 (rfl : tau 158 = .inl 10) (fun h => by cases h)) (tau_ne hm2.1 (rfl : tau 159 = .inr (.byte, 1500)) (fun h => by cases h)))).1 2).trans (((fu_5 md (pB_no (tau_ne hm2.1 (rfl : tau 158 = .inl 10) (fun h => by cases h)) (tau_ne hm2.1 (rfl : tau 159 = .inr (.byte, 1500)) (fun h => by cases h)))).1 2).trans ((fu_2 md (mo_pGt hm2).1).1 2)))))) dX5_proveUnbounded_46 ?_
      refine r_icmp_gt (tgt := 79) hx hb ⟨(by omega), (by omega)⟩ ⟨(by omega), (by omega)⟩ dX5_proveUnbounded_49 (by decide) (fun c_17 => ?_) (fun c_17 => ?_)
      · refine lv_aload_n hx hb dX5_proveUnbounded_79 rfl (lv_at hl 1 rfl) ?_
        refine g_X5_16 Cx hW (k := 157) (by decide) rfl (v := .ref (G.2.2.1 + 158)) (rf_157_0 hI44) dX5_proveUnbounded_80 ?_
        refine zLdc Cx 8 (by decide) ⟨rfl, rfl⟩ dX5_proveUnbounded_83 ?_
        refine sBv (sV (As := [.ref (G.1.2 100 8)]) (rest := []) (k := 158) Cx (v_X10_word l G S44 (o := 158) (si := 8) (N := 1500) (L := (ptsT (rayV d sc) (tkn (atT n (ptB d) d.1 (tkn [] wUn)) wAl) (j - 1).toNat)) hI44 ⟨by decide, rfl, rfl, rfl, rfl, by decide⟩ (by decide) (by omega) hT4) (c_X5_95 Cx rfl rfl (rmk_ok (by omega) (by decide))) hW (by decide) rfl rfl rfl hl.1 rfl (Nat.le_of_ble_eq_true rfl) dX5_proveUnbounded_85 ⟨Nat.le_of_ble_eq_true rfl, Nat.le_of_ble_eq_true rfl⟩) hL (fun u_18 H locs k_19 hW hL => ?_)
        obtain ⟨iu_18, fu_18, xu_18⟩ := k_19
        have F_20 := hFm44.trans (fu_18.to (pB_sub rfl rfl))
        have F_21 := hL44_.trans (fu_18.to (pB_sub rfl rfl))
        refine lv_aload_n hx hb dX5_proveUnbounded_88 rfl (lv_at hl 1 rfl) ?_
        refine g_X5_16 Cx hW (k := 157) (by decide) rfl (v := .ref (G.2.2.1 + 158)) (rf_157_0 iu_18) dX5_proveUnbounded_89 ?_
        refine zLdc Cx 13 (by decide) ⟨rfl, rfl⟩ dX5_proveUnbounded_92 ?_
        refine sBv (sV (As := [.ref (G.1.2 100 13)]) (rest := []) (k := 158) Cx (v_X10_word l G u_18 (o := 158) (si := 13) (N := 1500) (L := (tkn ((ptsT (rayV d sc) (tkn (atT n (ptB d) d.1 (tkn [] wUn)) wAl) (j - 1).toNat)) (strB.getD 8 []))) iu_18 ⟨by decide, rfl, rfl, rfl, rfl, by decide⟩ (by decide) (by omega) xu_18) (c_X5_95 Cx rfl rfl (rmk_ok (by omega) (by decide))) hW (by decide) rfl rfl rfl hl.1 rfl (Nat.le_of_ble_eq_true rfl) dX5_proveUnbounded_94 ⟨Nat.le_of_ble_eq_true rfl, Nat.le_of_ble_eq_true rfl⟩) hL (fun u_22 H locs k_23 hW hL => ?_)
        obtain ⟨iu_22, fu_22, xu_22⟩ := k_23
        have F_24 := F_20.trans (fu_22.to (pB_sub rfl rfl))
        have F_25 := F_21.trans (fu_22.to (pB_sub rfl rfl))
        exact sVret Cx hr hlk hW hL ⟨iu_22, F_24, (TXc.eq xu_22 (show tkn ((tkn ((ptsT (rayV d sc) (tkn (atT n (ptB d) d.1 (tkn [] wUn)) wAl) (j - 1).toNat)) (strB.getD 8 []))) (strB.getD 13 []) = _ by rw [show j - 1 = n by omega]; rfl))⟩ dX5_proveUnbounded_97
      · refine lv_aload_n hx hb dX5_proveUnbounded_52 rfl (lv_at hl 3 rfl) ?_
        refine lv_iload_n hx hb dX5_proveUnbounded_53 rfl (lv_at hl 0 rfl) ?_
        refine lv_aload_n hx hb dX5_proveUnbounded_54 rfl (lv_at hl 1 rfl) ?_
        refine g_X5_40 Cx hW (k := 157) (by decide) rfl (v := .ref (G.2.2.1 + 169)) (rf_157_6 hI44) dX5_proveUnbounded_55 ?_
        have q_26 : (-1) ≤ S.1 135 18 ∧ S.1 135 18 ≤ 13 := hI.fi 135 18 2 (by decide) rfl
        have lk_27 : S44.1 135 18 = S.1 135 18 := ((hL44_ 135 rfl).1 18).trans (((fu_14 135 rfl).1 18).trans (((fu_11 135 rfl).1 18).trans (((fu_8 135 rfl).1 18).trans (((fu_5 135 rfl).1 18).trans ((fu_2 135 rfl).1 18)))))
        refine sBv (sV (As := [.int (iv j), .ref (G.2.2.1 + 169)]) (rest := []) (k := 135) Cx (v_X2_rayNumber l G S44 (k := j) (v := 169) (oc := oc) (od := od) (n := n) (hw := hw) (d := d) (sc := sc) hI44 ⟨hoc, hod, (neD hcd), ((((hL44_ 135 rfl).2.2.2 0).trans (((fu_14 135 rfl).2.2.2 0).trans (((fu_11 135 rfl).2.2.2 0).trans (((fu_8 135 rfl).2.2.2 0).trans (((fu_5 135 rfl).2.2.2 0).trans ((fu_2 135 rfl).2.2.2 0)))))).trans hec), ((((hL44_ 135 rfl).2.2.2 1).trans (((fu_14 135 rfl).2.2.2 1).trans (((fu_11 135 rfl).2.2.2 1).trans (((fu_8 135 rfl).2.2.2 1).trans (((fu_5 135 rfl).2.2.2 1).trans ((fu_2 135 rfl).2.2.2 1)))))).trans hed)⟩ hD44 rfl (by omega) (by omega) (by omega)) (c_X5_202 Cx rfl rfl (rmk_ok (by omega) (by decide))) hW (by decide) rfl rfl rfl hl.1 rfl (Nat.le_of_ble_eq_true rfl) dX5_proveUnbounded_58 ⟨Nat.le_of_ble_eq_true rfl, Nat.le_of_ble_eq_true rfl⟩) hL (fun u_28 H locs k_29 hW hL => ?_)
        obtain ⟨iu_28, fu_28, xu_28⟩ := k_29
        have F_30 := hFm44.trans (fu_28.to (pB_sub rfl rfl))
        have F_31 := hL44_.trans (fu_28.to (pB_sub rfl rfl))
        have bv_32 : bv u_28 169 = rayV d sc j := xu_28.2.1
        refine lv_aload_n hx hb dX5_proveUnbounded_61 rfl (lv_at hl 1 rfl) ?_
        refine g_X5_16 Cx hW (k := 157) (by decide) rfl (v := .ref (G.2.2.1 + 158)) (rf_157_0 iu_28) dX5_proveUnbounded_62 ?_
        refine lv_aload_n hx hb dX5_proveUnbounded_65 rfl (lv_at hl 1 rfl) ?_
        refine g_X5_40 Cx hW (k := 157) (by decide) rfl (v := .ref (G.2.2.1 + 169)) (rf_157_6 iu_28) dX5_proveUnbounded_66 ?_
        refine lv_iconst (v := iv 1) hx hb dX5_proveUnbounded_69 (by decide) ?_
        refine sBv (sV (As := [.ref (G.2.2.1 + 169), .int (iv 1)]) (rest := []) (k := 158) Cx (v_X10_number l G u_28 (o := 158) (v := 169) (N := 1500) (L := (ptsT (rayV d sc) (tkn (atT n (ptB d) d.1 (tkn [] wUn)) wAl) (j - 1).toNat)) iu_28 ⟨by decide, rfl, rfl, rfl, rfl, by decide⟩ rfl (by omega) (show Hd (bs u_28 169) from xu_28.2.2) (TXc.of hT4 (show u_28.1 158 1 = S44.1 158 1 from (fu_28 158 rfl).1 1) (show u_28.1 158 2 = S44.1 158 2 from (fu_28 158 rfl).1 2) (show u_28.2.1 159 = S44.2.1 159 from funext fun x => (fu_28 159 rfl).2.1 x))) (c_X5_99 Cx rfl rfl (rmk_ok (by omega) (by decide))) hW (by decide) rfl rfl rfl hl.1 rfl (Nat.le_of_ble_eq_true rfl) dX5_proveUnbounded_70 ⟨Nat.le_of_ble_eq_true rfl, Nat.le_of_ble_eq_true rfl⟩) hL (fun u_33 H locs k_34 hW hL => ?_)
        obtain ⟨iu_33, fu_33, xu_33⟩ := k_34
        have F_35 := F_30.trans (fu_33.to (pB_sub rfl rfl))
        have F_36 := F_31.trans (fu_33.to (pB_sub rfl rfl))
        refine lv_iinc (v := iv (j + 1)) (lv' := [(3, .int (iv (j + 1))), (0, .ref (G.2.2.1 + 157)), (1, .ref (G.2.2.1 + md)), (2, .ref (G.2.2.1 + 135))]) hx hb dX5_proveUnbounded_73 hl (k := 0) rfl ((Int32.ofInt_add _ _).symm) (by decide) rfl (fun ls hl => ?_)
        refine lv_goto (tgt := 44) hx hb dX5_proveUnbounded_76 (by decide) ?_
        exact ih_44 u_33 (j + 1) _ _ _ (by omega) iu_33 F_35 F_36 (by omega) (TXc.eq (TXc.eq xu_33 (by rw [(show bv u_28 169 = rayV d sc j from bv_32)])) (show tkn (ptsT (rayV d sc) (tkn (atT n (ptB d) d.1 (tkn [] wUn)) wAl) (j - 1).toNat) (nmT (rayV d sc j)) = _ from (ptsT_s (by omega)).symm)) (DRc.of hD44 (show u_33.1 135 13 = S44.1 135 13 from ((fu_33 135 rfl).1 13).trans ((fu_28 135 rfl).1 13)) (show u_33.1 135 14 = S44.1 135 14 from ((fu_33 135 rfl).1 14).trans ((fu_28 135 rfl).1 14)) (show u_33.1 135 15 = S44.1 135 15 from ((fu_33 135 rfl).1 15).trans ((fu_28 135 rfl).1 15)) (show u_33.1 135 16 = S44.1 135 16 from ((fu_33 135 rfl).1 16).trans ((fu_28 135 rfl).1 16)) (show u_33.2.1 oc = S44.2.1 oc from funext fun x => ((fu_33 oc (pB_no (tau_ne (dic_t hoc) (rfl : tau 158 = .inl 10) (fun h => by cases h)) (ac_ne (dic_c hoc) (rfl : acode 159 = 2) (by decide)))).2.1 x).trans ((fu_28 oc (pB_no (tau_ne (dic_t hoc) (rfl : tau 169 = .inl 0) (fun h => by cases h)) (ac_ne (dic_c hoc) (rfl : acode 170 = 1) (by decide)))).2.1 x)) (show u_33.2.1 138 = S44.2.1 138 from funext fun x => ((fu_33 138 rfl).2.1 x).trans ((fu_28 138 rfl).2.1 x)) (show u_33.2.1 139 = S44.2.1 139 from funext fun x => ((fu_33 139 rfl).2.1 x).trans ((fu_28 139 rfl).2.1 x))) hW hL (lv_sub hl [0, 1, 2, 3] rfl)
  exact loop_44 (_ + 1) u_14 1 _ _ _ (Nat.lt_succ_self _) iu_14 F_16 Fr.rf (by omega) (TXc.eq xu_14 (show tkn ((atT (S.1 md 2) ((ptB d)) d.1 ((tkn (([])) (strB.getD 11 []))))) (strB.getD 12 []) = _ by rw [show S.1 md 2 = n by omega]; rfl)) (DRc.of hDR (show u_14.1 135 13 = S.1 135 13 from ((fu_14 135 rfl).1 13).trans (((fu_11 135 rfl).1 13).trans (((fu_8 135 rfl).1 13).trans (((fu_5 135 rfl).1 13).trans ((fu_2 135 rfl).1 13))))) (show u_14.1 135 14 = S.1 135 14 from ((fu_14 135 rfl).1 14).trans (((fu_11 135 rfl).1 14).trans (((fu_8 135 rfl).1 14).trans (((fu_5 135 rfl).1 14).trans ((fu_2 135 rfl).1 14))))) (show u_14.1 135 15 = S.1 135 15 from ((fu_14 135 rfl).1 15).trans (((fu_11 135 rfl).1 15).trans (((fu_8 135 rfl).1 15).trans (((fu_5 135 rfl).1 15).trans ((fu_2 135 rfl).1 15))))) (show u_14.1 135 16 = S.1 135 16 from ((fu_14 135 rfl).1 16).trans (((fu_11 135 rfl).1 16).trans (((fu_8 135 rfl).1 16).trans (((fu_5 135 rfl).1 16).trans ((fu_2 135 rfl).1 16))))) (show u_14.2.1 oc = S.2.1 oc from funext fun x => ((fu_14 oc (pB_no (tau_ne (dic_t hoc) (rfl : tau 158 = .inl 10) (fun h => by cases h)) (ac_ne (dic_c hoc) (rfl : acode 159 = 2) (by decide)))).2.1 x).trans (((fu_11 oc (dic_pWp hoc)).2.1 x).trans (((fu_8 oc (pB_no (tau_ne (dic_t hoc) (rfl : tau 158 = .inl 10) (fun h => by cases h)) (ac_ne (dic_c hoc) (rfl : acode 159 = 2) (by decide)))).2.1 x).trans (((fu_5 oc (pB_no (tau_ne (dic_t hoc) (rfl : tau 158 = .inl 10) (fun h => by cases h)) (ac_ne (dic_c hoc) (rfl : acode 159 = 2) (by decide)))).2.1 x).trans ((fu_2 oc (dic_pGt hoc)).2.1 x))))) (show u_14.2.1 138 = S.2.1 138 from funext fun x => ((fu_14 138 rfl).2.1 x).trans (((fu_11 138 rfl).2.1 x).trans (((fu_8 138 rfl).2.1 x).trans (((fu_5 138 rfl).2.1 x).trans ((fu_2 138 rfl).2.1 x))))) (show u_14.2.1 139 = S.2.1 139 from funext fun x => ((fu_14 139 rfl).2.1 x).trans (((fu_11 139 rfl).2.1 x).trans (((fu_8 139 rfl).2.1 x).trans (((fu_5 139 rfl).2.1 x).trans ((fu_2 139 rfl).2.1 x)))))) hW hL (lv_sub hl [0, 1, 2, 3] rfl)

set_option maxRecDepth 100000 in
set_option maxHeartbeats 4000000 in
theorem v_X5_isMade (l : Launch) (G : sG) (S : sS)  (hI : cX G S 0 0 0) : Met l yX5_isMade (.code yX5_isMade cX5_isMade 1 (some .boolean) :: tb) (rmk 2 0 0) (sPc G 294 S [.ref (G.2.2.1 + 157)]) (sQi G 294 (fun r u => u = S ∧ (0 ≤ r ∧ r ≤ 1 ∧ (r = 1 ↔ 0 < S.1 158 1)))) 0 0 (sF G) := by
  refine sEnter (by decide) (Nat.le_of_ble_eq_true rfl) ?_
  intro p e s m args below meth c Cx hr hlk hnm hW ls hl
  have Cx : sC G p m c cX5_isMade 1 s args RX5 := Cx
  obtain ⟨hx, hb, hml, hown, hts⟩ := id Cx.1
  have hL : sL G [] := sL_nil
  have hl : lv_has ls 1 [(0, .ref (G.2.2.1 + 157))] := hl
  have hW0 := hW
  refine lv_aload_n hx hb dX5_isMade_0 rfl (lv_at hl 0 rfl) ?_
  refine g_X5_16 Cx hW (k := 157) (by decide) rfl (v := .ref (G.2.2.1 + 158)) (rf_157_0 hI) dX5_isMade_1 ?_
  have q_1 : 0 ≤ S.1 158 1 ∧ S.1 158 1 ≤ 1500 := hI.fi 158 1 10 (by decide) rfl
  refine sBi (sV (As := []) (rest := []) (k := 158) Cx (s_X10_length l G S (o := 158) (N := 1500) hI ⟨by decide, rfl, rfl, rfl, rfl, by decide⟩) (c_X5_59 Cx rfl rfl (rmk_ok (by omega) (by decide))) hW (by decide) rfl rfl rfl hl.1 rfl (Nat.le_of_ble_eq_true rfl) dX5_isMade_4 ⟨Nat.le_of_ble_eq_true rfl, Nat.le_of_ble_eq_true rfl⟩) hL (fun r_4 u_2 H locs k_3 hW hL => ?_)
  obtain ⟨eu_2, xu_2⟩ := k_3
  rw [eu_2] at hW
  refine r_if_le (tgt := 14) hx hb ⟨(by omega), (by omega)⟩ dX5_isMade_7 (by decide) (fun c_5 => ?_) (fun c_5 => ?_)
  · refine lv_iconst (v := iv 0) hx hb dX5_isMade_14 (by decide) ?_
    exact sZret Cx hr hlk hW hL (by omega) ⟨rfl, (by omega)⟩ dX5_isMade_15
  · refine lv_iconst (v := iv 1) hx hb dX5_isMade_10 (by decide) ?_
    refine lv_goto (tgt := 15) hx hb dX5_isMade_11 (by decide) ?_
    exact sZret Cx hr hlk hW hL (by omega) ⟨rfl, (by omega)⟩ dX5_isMade_15

set_option maxRecDepth 100000 in
set_option maxHeartbeats 4000000 in
theorem v_X5_proofLength (l : Launch) (G : sG) (S : sS) {Hx L : List Int} (hI : cX G S 0 0 0) (hE : Hd (TXc S 158 1500 Hx ∧ TXc S 160 30000 L)) (hH : Hx.length ≤ 1500) : Met l yX5_proofLength (.code yX5_proofLength cX5_proofLength 1 (some .int) :: tb) (rmk 2 0 0) (sPc G 294 S [.ref (G.2.2.1 + 157)]) (sQi G 294 (fun r u => u = S ∧ (0 ≤ r ∧ r ≤ 31501 ∧ (L.length ≤ 30000 → r = ((Hx.length : Int) + (if 0 < L.length then 1 + (L.length : Int) else 0))) ∧ (30000 < L.length → 30000 < r)))) 0 0 (sF G) := by
  refine sEnter (by decide) (Nat.le_of_ble_eq_true rfl) ?_
  intro p e s m args below meth c Cx hr hlk hnm hW ls hl
  have Cx : sC G p m c cX5_proofLength 1 s args RX5 := Cx
  obtain ⟨hx, hb, hml, hown, hts⟩ := id Cx.1
  have hL : sL G [] := sL_nil
  have hl : lv_has ls 1 [(0, .ref (G.2.2.1 + 157))] := hl
  have hW0 := hW
  have t8 : Hx.length ≤ 1500 → S.1 158 1 = (Hx.length : Int) ∧ S.1 158 2 = 0 := fun q => ⟨(hE.1.1 q).1, (hE.1.1 q).2.1⟩
  have t9 : 1500 < Hx.length → S.1 158 1 = 1500 ∧ S.1 158 2 = 1 := hE.1.2
  have t6 : L.length ≤ 30000 → S.1 160 1 = (L.length : Int) ∧ S.1 160 2 = 0 := fun q => ⟨(hE.2.1 q).1, (hE.2.1 q).2.1⟩
  have t7 : 30000 < L.length → S.1 160 1 = 30000 ∧ S.1 160 2 = 1 := hE.2.2
  refine lv_aload_n hx hb dX5_proofLength_0 rfl (lv_at hl 0 rfl) ?_
  refine g_X5_16 Cx hW (k := 157) (by decide) rfl (v := .ref (G.2.2.1 + 158)) (rf_157_0 hI) dX5_proofLength_1 ?_
  have q_1 : 0 ≤ S.1 158 1 ∧ S.1 158 1 ≤ 1500 := hI.fi 158 1 10 (by decide) rfl
  refine sBi (sV (As := []) (rest := []) (k := 158) Cx (s_X10_length l G S (o := 158) (N := 1500) hI ⟨by decide, rfl, rfl, rfl, rfl, by decide⟩) (c_X5_59 Cx rfl rfl (rmk_ok (by omega) (by decide))) hW (by decide) rfl rfl rfl hl.1 rfl (Nat.le_of_ble_eq_true rfl) dX5_proofLength_4 ⟨Nat.le_of_ble_eq_true rfl, Nat.le_of_ble_eq_true rfl⟩) hL (fun r_4 u_2 H locs k_3 hW hL => ?_)
  obtain ⟨eu_2, xu_2⟩ := k_3
  rw [eu_2] at hW
  refine lv_aload_n hx hb dX5_proofLength_7 rfl (lv_at hl 0 rfl) ?_
  refine g_X5_20 Cx hW (k := 157) (by decide) rfl (v := .ref (G.2.2.1 + 160)) (rf_157_1 hI) dX5_proofLength_8 ?_
  have q_5 : 0 ≤ S.1 160 1 ∧ S.1 160 1 ≤ 30000 := hI.fi 160 1 10 (by decide) rfl
  refine sBi (sV (As := []) (rest := [.int (iv r_4)]) (k := 160) Cx (s_X10_length l G S (o := 160) (N := 30000) hI ⟨by decide, rfl, rfl, rfl, rfl, by decide⟩) (c_X5_59 Cx rfl rfl (rmk_ok (by omega) (by decide))) hW (by decide) rfl rfl rfl hl.1 rfl (Nat.le_of_ble_eq_true rfl) dX5_proofLength_11 ⟨Nat.le_of_ble_eq_true rfl, Nat.le_of_ble_eq_true rfl⟩) hL (fun r_8 u_6 H locs k_7 hW hL => ?_)
  obtain ⟨eu_6, xu_6⟩ := k_7
  rw [eu_6] at hW
  refine r_if_le (tgt := 29) hx hb ⟨(by omega), (by omega)⟩ dX5_proofLength_14 (by decide) (fun c_9 => ?_) (fun c_9 => ?_)
  · refine lv_iconst (v := iv 0) hx hb dX5_proofLength_29 (by decide) ?_
    refine r_iadd hx hb dX5_proofLength_30 ?_
    exact sIret Cx hr hlk hW hL ⟨rfl, (by refine ⟨by omega, by omega, fun q => ?_, fun q => by omega⟩; by_cases z : 0 < L.length; (rw [if_pos z]; omega); (rw [if_neg z]; omega))⟩ dX5_proofLength_31
  · refine lv_iconst (v := iv 1) hx hb dX5_proofLength_17 (by decide) ?_
    refine lv_aload_n hx hb dX5_proofLength_18 rfl (lv_at hl 0 rfl) ?_
    refine g_X5_20 Cx hW (k := 157) (by decide) rfl (v := .ref (G.2.2.1 + 160)) (rf_157_1 hI) dX5_proofLength_19 ?_
    refine sBi (sV (As := []) (rest := [.int (iv 1), .int (iv r_4)]) (k := 160) Cx (s_X10_length l G S (o := 160) (N := 30000) hI ⟨by decide, rfl, rfl, rfl, rfl, by decide⟩) (c_X5_59 Cx rfl rfl (rmk_ok (by omega) (by decide))) hW (by decide) rfl rfl rfl hl.1 rfl (Nat.le_of_ble_eq_true rfl) dX5_proofLength_22 ⟨Nat.le_of_ble_eq_true rfl, Nat.le_of_ble_eq_true rfl⟩) hL (fun r_12 u_10 H locs k_11 hW hL => ?_)
    obtain ⟨eu_10, xu_10⟩ := k_11
    rw [eu_10] at hW
    refine r_iadd hx hb dX5_proofLength_25 ?_
    refine lv_goto (tgt := 30) hx hb dX5_proofLength_26 (by decide) ?_
    refine r_iadd hx hb dX5_proofLength_30 ?_
    exact sIret Cx hr hlk hW hL ⟨rfl, (by refine ⟨by omega, by omega, fun q => ?_, fun q => by omega⟩; by_cases z : 0 < L.length; (rw [if_pos z]; omega); (rw [if_neg z]; omega))⟩ dX5_proofLength_31

set_option maxRecDepth 100000 in
set_option maxHeartbeats 4000000 in
theorem v_X5_isOver (l : Launch) (G : sG) (S : sS) {Hx L : List Int} (hI : cX G S 0 0 0) (hE : Hd (TXc S 158 1500 Hx ∧ TXc S 160 30000 L)) (hH : Hx.length ≤ 1500) : Met l yX5_isOver (.code yX5_isOver cX5_isOver 1 (some .boolean) :: tb) (rmk 3 0 0) (sPc G 294 S [.ref (G.2.2.1 + 157)]) (sQi G 294 (fun r u => u = S ∧ (0 ≤ r ∧ r ≤ 1 ∧ (r = 1 ↔ 30000 < ((Hx.length : Int) + (if 0 < L.length then 1 + (L.length : Int) else 0)))))) 0 0 (sF G) := by
  refine sEnter (by decide) (Nat.le_of_ble_eq_true rfl) ?_
  intro p e s m args below meth c Cx hr hlk hnm hW ls hl
  have Cx : sC G p m c cX5_isOver 1 s args RX5 := Cx
  obtain ⟨hx, hb, hml, hown, hts⟩ := id Cx.1
  have hL : sL G [] := sL_nil
  have hl : lv_has ls 1 [(0, .ref (G.2.2.1 + 157))] := hl
  have hW0 := hW
  have t8 : Hx.length ≤ 1500 → S.1 158 1 = (Hx.length : Int) ∧ S.1 158 2 = 0 := fun q => ⟨(hE.1.1 q).1, (hE.1.1 q).2.1⟩
  have t9 : 1500 < Hx.length → S.1 158 1 = 1500 ∧ S.1 158 2 = 1 := hE.1.2
  have t6 : L.length ≤ 30000 → S.1 160 1 = (L.length : Int) ∧ S.1 160 2 = 0 := fun q => ⟨(hE.2.1 q).1, (hE.2.1 q).2.1⟩
  have t7 : 30000 < L.length → S.1 160 1 = 30000 ∧ S.1 160 2 = 1 := hE.2.2
  refine lv_aload_n hx hb dX5_isOver_0 rfl (lv_at hl 0 rfl) ?_
  refine g_X5_16 Cx hW (k := 157) (by decide) rfl (v := .ref (G.2.2.1 + 158)) (rf_157_0 hI) dX5_isOver_1 ?_
  have q_1 : 0 ≤ S.1 158 2 ∧ S.1 158 2 ≤ 1 := hI.fi 158 2 10 (by decide) rfl
  refine sBi (sV (As := []) (rest := []) (k := 158) Cx (s_X10_isOver l G S (o := 158) (N := 1500) hI ⟨by decide, rfl, rfl, rfl, rfl, by decide⟩) (c_X5_55 Cx rfl rfl (rmk_ok (by omega) (by decide))) hW (by decide) rfl rfl rfl hl.1 rfl (Nat.le_of_ble_eq_true rfl) dX5_isOver_4 ⟨Nat.le_of_ble_eq_true rfl, Nat.le_of_ble_eq_true rfl⟩) hL (fun r_4 u_2 H locs k_3 hW hL => ?_)
  obtain ⟨eu_2, xu_2⟩ := k_3
  rw [eu_2] at hW
  refine r_if_ne (tgt := 20) hx hb ⟨(by omega), (by omega)⟩ dX5_isOver_7 (by decide) (fun c_5 => ?_) (fun c_5 => ?_)
  · refine lv_iconst (v := iv 1) hx hb dX5_isOver_20 (by decide) ?_
    refine lv_goto (tgt := 25) hx hb dX5_isOver_21 (by decide) ?_
    exact sZret Cx hr hlk hW hL (by omega) ⟨rfl, (by by_cases z : 0 < L.length; (rw [if_pos z]; by_cases y : L.length ≤ 30000; (omega); (omega)); (rw [if_neg z]; omega))⟩ dX5_isOver_25
  · refine lv_aload_n hx hb dX5_isOver_10 rfl (lv_at hl 0 rfl) ?_
    refine sBi (sV (As := []) (rest := []) (k := 157) Cx (v_X5_proofLength l G S (Hx := Hx) (L := L) hI hE (by omega)) (c_X5_63 Cx rfl rfl (rmk_ok (by omega) (by decide))) hW (by decide) rfl rfl rfl hl.1 rfl (Nat.le_of_ble_eq_true rfl) dX5_isOver_11 ⟨Nat.le_of_ble_eq_true rfl, Nat.le_of_ble_eq_true rfl⟩) hL (fun r_8 u_6 H locs k_7 hW hL => ?_)
    obtain ⟨eu_6, xu_6⟩ := k_7
    rw [eu_6] at hW
    refine lv_sipush (v := iv 30000) hx hb dX5_isOver_14 (by decide) ?_
    refine r_icmp_le (tgt := 24) hx hb ⟨(by omega), (by omega)⟩ ⟨(by omega), (by omega)⟩ dX5_isOver_17 (by decide) (fun c_9 => ?_) (fun c_9 => ?_)
    · refine lv_iconst (v := iv 0) hx hb dX5_isOver_24 (by decide) ?_
      exact sZret Cx hr hlk hW hL (by omega) ⟨rfl, (by by_cases z : 0 < L.length; (rw [if_pos z]; by_cases y : L.length ≤ 30000; (have y1 := xu_6.2.2.1; rw [if_pos z] at y1; have y2 := xu_6.2.2.2; omega); (have y1 := xu_6.2.2.1; rw [if_pos z] at y1; have y2 := xu_6.2.2.2; omega)); (rw [if_neg z]; have y1 := xu_6.2.2.1; rw [if_neg z] at y1; have y2 := xu_6.2.2.2; omega))⟩ dX5_isOver_25
    · refine lv_iconst (v := iv 1) hx hb dX5_isOver_20 (by decide) ?_
      refine lv_goto (tgt := 25) hx hb dX5_isOver_21 (by decide) ?_
      exact sZret Cx hr hlk hW hL (by omega) ⟨rfl, (by by_cases z : 0 < L.length; (rw [if_pos z]; by_cases y : L.length ≤ 30000; (have y1 := xu_6.2.2.1; rw [if_pos z] at y1; have y2 := xu_6.2.2.2; omega); (have y1 := xu_6.2.2.1; rw [if_pos z] at y1; have y2 := xu_6.2.2.2; omega)); (rw [if_neg z]; have y1 := xu_6.2.2.1; rw [if_neg z] at y1; have y2 := xu_6.2.2.2; omega))⟩ dX5_isOver_25

set_option maxRecDepth 100000 in
set_option maxHeartbeats 4000000 in
theorem v_X5_proofByte (l : Launch) (G : sG) (S : sS) {k : Int} {Hx L : List Int} (hI : cX G S 0 0 0) (hk : -2147483648 ≤ k ∧ k ≤ 2147483647) (hE : Hd (TXc S 158 1500 Hx ∧ TXc S 160 30000 L)) (hH : Hx.length ≤ 1500) (hL3 : L.length ≤ 30000) (hasc : Hd (asc Hx ∧ asc L)) : Met l yX5_proofByte (.code yX5_proofByte cX5_proofByte 3 (some .int) :: tb) (rmk 2 0 0) (sPc G 294 S [.ref (G.2.2.1 + 157), .int (iv k)]) (sQi G 294 (fun r u => u = S ∧ (Hd ((0 ≤ k ∧ k < (((if 0 < L.length then Hx ++ (32 :: L) else Hx)).length : Int) → r = ((if 0 < L.length then Hx ++ (32 :: L) else Hx)).getD k.toNat 0) ∧ (k < 0 ∨ (((if 0 < L.length then Hx ++ (32 :: L) else Hx)).length : Int) ≤ k → r = -1))))) 0 0 (sF G) := by
  refine sEnter (by decide) (Nat.le_of_ble_eq_true rfl) ?_
  intro p e s m args below meth c Cx hr hlk hnm hW ls hl
  have Cx : sC G p m c cX5_proofByte 3 s args RX5 := Cx
  obtain ⟨hx, hb, hml, hown, hts⟩ := id Cx.1
  have hL : sL G [] := sL_nil
  have hl : lv_has ls 3 [(0, .ref (G.2.2.1 + 157)), (1, .int (iv k))] := hl
  have hW0 := hW
  have t8 : Hx.length ≤ 1500 → S.1 158 1 = (Hx.length : Int) ∧ S.1 158 2 = 0 := fun q => ⟨(hE.1.1 q).1, (hE.1.1 q).2.1⟩
  have t9 : 1500 < Hx.length → S.1 158 1 = 1500 ∧ S.1 158 2 = 1 := hE.1.2
  have t6 : L.length ≤ 30000 → S.1 160 1 = (L.length : Int) ∧ S.1 160 2 = 0 := fun q => ⟨(hE.2.1 q).1, (hE.2.1 q).2.1⟩
  have t7 : 30000 < L.length → S.1 160 1 = 30000 ∧ S.1 160 2 = 1 := hE.2.2
  refine lv_iload_n hx hb dX5_proofByte_0 rfl (lv_at hl 1 rfl) ?_
  refine lv_aload_n hx hb dX5_proofByte_1 rfl (lv_at hl 0 rfl) ?_
  refine g_X5_16 Cx hW (k := 157) (by decide) rfl (v := .ref (G.2.2.1 + 158)) (rf_157_0 hI) dX5_proofByte_2 ?_
  have q_1 : 0 ≤ S.1 158 1 ∧ S.1 158 1 ≤ 1500 := hI.fi 158 1 10 (by decide) rfl
  refine sBi (sV (As := []) (rest := [.int (iv k)]) (k := 158) Cx (s_X10_length l G S (o := 158) (N := 1500) hI ⟨by decide, rfl, rfl, rfl, rfl, by decide⟩) (c_X5_59 Cx rfl rfl (rmk_ok (by omega) (by decide))) hW (by decide) rfl rfl rfl hl.1 rfl (Nat.le_of_ble_eq_true rfl) dX5_proofByte_5 ⟨Nat.le_of_ble_eq_true rfl, Nat.le_of_ble_eq_true rfl⟩) hL (fun r_4 u_2 H locs k_3 hW hL => ?_)
  obtain ⟨eu_2, xu_2⟩ := k_3
  rw [eu_2] at hW
  refine r_icmp_ge (tgt := 20) hx hb ⟨(by omega), (by omega)⟩ ⟨(by omega), (by omega)⟩ dX5_proofByte_8 (by decide) (fun c_5 => ?_) (fun c_5 => ?_)
  · refine lv_iload_n hx hb dX5_proofByte_20 rfl (lv_at hl 1 rfl) ?_
    refine lv_aload_n hx hb dX5_proofByte_21 rfl (lv_at hl 0 rfl) ?_
    refine g_X5_16 Cx hW (k := 157) (by decide) rfl (v := .ref (G.2.2.1 + 158)) (rf_157_0 hI) dX5_proofByte_22 ?_
    refine sBi (sV (As := []) (rest := [.int (iv k)]) (k := 158) Cx (s_X10_length l G S (o := 158) (N := 1500) hI ⟨by decide, rfl, rfl, rfl, rfl, by decide⟩) (c_X5_59 Cx rfl rfl (rmk_ok (by omega) (by decide))) hW (by decide) rfl rfl rfl hl.1 rfl (Nat.le_of_ble_eq_true rfl) dX5_proofByte_25 ⟨Nat.le_of_ble_eq_true rfl, Nat.le_of_ble_eq_true rfl⟩) hL (fun r_8 u_6 H locs k_7 hW hL => ?_)
    obtain ⟨eu_6, xu_6⟩ := k_7
    rw [eu_6] at hW
    refine r_isub hx hb dX5_proofByte_28 ?_
    refine lv_iconst (v := iv 1) hx hb dX5_proofByte_29 (by decide) ?_
    refine r_isub hx hb dX5_proofByte_30 ?_
    refine lv_istore_n (lv' := [(2, .int (iv ((k - r_8) - 1))), (0, .ref (G.2.2.1 + 157)), (1, .int (iv k))]) hx hb dX5_proofByte_31 rfl hl (by decide) rfl (fun ls hl => ?_)
    refine lv_iload_n hx hb dX5_proofByte_32 rfl (lv_at hl 0 rfl) ?_
    refine r_if_ge (tgt := 51) hx hb ⟨(by omega), (by omega)⟩ dX5_proofByte_33 (by decide) (fun c_9 => ?_) (fun c_9 => ?_)
    · refine lv_aload_n hx hb dX5_proofByte_51 rfl (lv_at hl 1 rfl) ?_
      refine g_X5_20 Cx hW (k := 157) (by decide) rfl (v := .ref (G.2.2.1 + 160)) (rf_157_1 hI) dX5_proofByte_52 ?_
      refine lv_iload_n hx hb dX5_proofByte_55 rfl (lv_at hl 0 rfl) ?_
      have q_10 : 0 ≤ S.1 160 1 ∧ S.1 160 1 ≤ 30000 := hI.fi 160 1 10 (by decide) rfl
      refine sBi (sV (As := [.int (iv ((k - r_8) - 1))]) (rest := []) (k := 160) Cx (s_X10_byteAt l G S (o := 160) (k := (k - r_8) - 1) (N := 30000) hI ⟨by decide, rfl, rfl, rfl, rfl, by decide⟩ (by omega)) (c_X5_66 Cx rfl rfl (rmk_ok (by omega) (by decide))) hW (by decide) rfl rfl rfl hl.1 rfl (Nat.le_of_ble_eq_true rfl) dX5_proofByte_56 ⟨Nat.le_of_ble_eq_true rfl, Nat.le_of_ble_eq_true rfl⟩) hL (fun r_13 u_11 H locs k_12 hW hL => ?_)
      obtain ⟨eu_11, xu_11⟩ := k_12
      rw [eu_11] at hW
      exact sIret Cx hr hlk hW hL ⟨rfl, (by have hlk := t8 hH; have hl6 := t6 (by omega); have hpl0 : Hx.length ≤ ((if 0 < L.length then Hx ++ (32 :: L) else Hx)).length := (by split; (rw [List.length_append]; omega); (exact Nat.le_refl _)); refine ⟨fun q => ?_, fun q => ?_⟩; (rw [xu_11.1]; by_cases z : 0 < L.length; (rw [if_pos z, List.length_append, List.length_cons] at q; rw [bt_in (by omega) (by omega), if_pos z]; exact pb_t (H := Hx) (by omega) hE.2 (by omega) hasc.2 (by omega) (by omega)); (exfalso; rw [if_neg z] at q; omega)); (rw [xu_11.1]; exact bt_out (by by_cases z : 0 < L.length; (rw [if_pos z, List.length_append, List.length_cons] at q; omega); (omega))))⟩ dX5_proofByte_59
    · refine lv_aload_n hx hb dX5_proofByte_36 rfl (lv_at hl 1 rfl) ?_
      refine g_X5_20 Cx hW (k := 157) (by decide) rfl (v := .ref (G.2.2.1 + 160)) (rf_157_1 hI) dX5_proofByte_37 ?_
      have q_14 : 0 ≤ S.1 160 1 ∧ S.1 160 1 ≤ 30000 := hI.fi 160 1 10 (by decide) rfl
      refine sBi (sV (As := []) (rest := []) (k := 160) Cx (s_X10_length l G S (o := 160) (N := 30000) hI ⟨by decide, rfl, rfl, rfl, rfl, by decide⟩) (c_X5_59 Cx rfl rfl (rmk_ok (by omega) (by decide))) hW (by decide) rfl rfl rfl hl.1 rfl (Nat.le_of_ble_eq_true rfl) dX5_proofByte_40 ⟨Nat.le_of_ble_eq_true rfl, Nat.le_of_ble_eq_true rfl⟩) hL (fun r_17 u_15 H locs k_16 hW hL => ?_)
      obtain ⟨eu_15, xu_15⟩ := k_16
      rw [eu_15] at hW
      refine r_if_le (tgt := 51) hx hb ⟨(by omega), (by omega)⟩ dX5_proofByte_43 (by decide) (fun c_18 => ?_) (fun c_18 => ?_)
      · refine lv_aload_n hx hb dX5_proofByte_51 rfl (lv_at hl 1 rfl) ?_
        refine g_X5_20 Cx hW (k := 157) (by decide) rfl (v := .ref (G.2.2.1 + 160)) (rf_157_1 hI) dX5_proofByte_52 ?_
        refine lv_iload_n hx hb dX5_proofByte_55 rfl (lv_at hl 0 rfl) ?_
        refine sBi (sV (As := [.int (iv ((k - r_8) - 1))]) (rest := []) (k := 160) Cx (s_X10_byteAt l G S (o := 160) (k := (k - r_8) - 1) (N := 30000) hI ⟨by decide, rfl, rfl, rfl, rfl, by decide⟩ (by omega)) (c_X5_66 Cx rfl rfl (rmk_ok (by omega) (by decide))) hW (by decide) rfl rfl rfl hl.1 rfl (Nat.le_of_ble_eq_true rfl) dX5_proofByte_56 ⟨Nat.le_of_ble_eq_true rfl, Nat.le_of_ble_eq_true rfl⟩) hL (fun r_21 u_19 H locs k_20 hW hL => ?_)
        obtain ⟨eu_19, xu_19⟩ := k_20
        rw [eu_19] at hW
        exact sIret Cx hr hlk hW hL ⟨rfl, (by have hlk := t8 hH; have hl6 := t6 (by omega); have hpl0 : Hx.length ≤ ((if 0 < L.length then Hx ++ (32 :: L) else Hx)).length := (by split; (rw [List.length_append]; omega); (exact Nat.le_refl _)); refine ⟨fun q => ?_, fun q => ?_⟩; (rw [xu_19.1]; by_cases z : 0 < L.length; (rw [if_pos z, List.length_append, List.length_cons] at q; rw [bt_in (by omega) (by omega), if_pos z]; exact pb_t (H := Hx) (by omega) hE.2 (by omega) hasc.2 (by omega) (by omega)); (exfalso; rw [if_neg z] at q; omega)); (rw [xu_19.1]; exact bt_out (by by_cases z : 0 < L.length; (rw [if_pos z, List.length_append, List.length_cons] at q; omega); (omega))))⟩ dX5_proofByte_59
      · refine lv_bipush (v := iv 32) hx hb dX5_proofByte_46 (by decide) ?_
        refine lv_goto (tgt := 59) hx hb dX5_proofByte_48 (by decide) ?_
        exact sIret Cx hr hlk hW hL ⟨rfl, (by have hlk := t8 hH; have hl6 := t6 (by omega); have hpl0 : Hx.length ≤ ((if 0 < L.length then Hx ++ (32 :: L) else Hx)).length := (by split; (rw [List.length_append]; omega); (exact Nat.le_refl _)); refine ⟨fun q => ?_, fun q => ?_⟩; (rw [if_pos (by omega)]; exact pb_b (by omega)); (exfalso; rw [if_pos (by omega), List.length_append, List.length_cons] at q; omega))⟩ dX5_proofByte_59
  · refine lv_aload_n hx hb dX5_proofByte_11 rfl (lv_at hl 0 rfl) ?_
    refine g_X5_16 Cx hW (k := 157) (by decide) rfl (v := .ref (G.2.2.1 + 158)) (rf_157_0 hI) dX5_proofByte_12 ?_
    refine lv_iload_n hx hb dX5_proofByte_15 rfl (lv_at hl 1 rfl) ?_
    refine sBi (sV (As := [.int (iv k)]) (rest := []) (k := 158) Cx (s_X10_byteAt l G S (o := 158) (k := k) (N := 1500) hI ⟨by decide, rfl, rfl, rfl, rfl, by decide⟩ (by omega)) (c_X5_66 Cx rfl rfl (rmk_ok (by omega) (by decide))) hW (by decide) rfl rfl rfl hl.1 rfl (Nat.le_of_ble_eq_true rfl) dX5_proofByte_16 ⟨Nat.le_of_ble_eq_true rfl, Nat.le_of_ble_eq_true rfl⟩) hL (fun r_24 u_22 H locs k_23 hW hL => ?_)
    obtain ⟨eu_22, xu_22⟩ := k_23
    rw [eu_22] at hW
    exact sIret Cx hr hlk hW hL ⟨rfl, (by have hlk := t8 hH; have hl6 := t6 (by omega); have hpl0 : Hx.length ≤ ((if 0 < L.length then Hx ++ (32 :: L) else Hx)).length := (by split; (rw [List.length_append]; omega); (exact Nat.le_refl _)); refine ⟨fun q => ?_, fun q => ?_⟩; (rw [xu_22.1, bt_in (by omega) (by omega)]; exact pb_h hE.1 hH hasc.1 q.1 (by omega)); (rw [xu_22.1]; exact bt_out (by omega)))⟩ dX5_proofByte_19
