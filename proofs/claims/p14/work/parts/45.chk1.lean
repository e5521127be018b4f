def pS8 (k : Nat) : Bool := rgB 215 222 k
def pS6 (k : Nat) : Bool := rgB 217 222 k
def pS12 (k : Nat) : Bool := rgB 213 224 k
theorem pS6_8 : ∀ k, pS6 k = true → pS8 k = true := fun k h => by have := rgB_t h; exact rgB_i (by omega)
theorem pS8_12 : ∀ k, pS8 k = true → pS12 k = true := fun k h => by have := rgB_t h; exact rgB_i (by omega)
theorem pS12_N : ∀ k, pS12 k = true → pN k = true := fun k h => by
  have := rgB_t h
  simp only [pN, rgB_i (a := 194) (b := 224) (k := k) ⟨by omega, by omega⟩, Bool.or_true, Bool.true_or]
def pTp (k : Nat) : Bool := Nat.beq k 189 || Nat.beq k 208 || rgB 219 220 k
def pTq (k : Nat) : Bool := Nat.beq k 189 || Nat.beq k 195 || rgB 219 220 k
def pE (k : Nat) : Bool := pW k || rgB 188 189 k || Nat.beq k 192 || rgB 225 226 k
theorem pW_E : ∀ k, pW k = true → pE k = true := fun k h => by rw [pE, h]; rfl
theorem pTp_E : ∀ k, pTp k = true → pE k = true := fun k h => by
  simp only [pTp, Bool.or_eq_true] at h
  rcases h with (h | h) | h
  · rw [Nat.eq_of_beq_eq_true h]; rfl
  · rw [Nat.eq_of_beq_eq_true h]; rfl
  · have := rgB_t h
    exact pW_E k (pN_W k (pS12_N k (rgB_i (by omega))))
theorem pTq_E : ∀ k, pTq k = true → pE k = true := fun k h => by
  simp only [pTq, Bool.or_eq_true] at h
  rcases h with (h | h) | h
  · rw [Nat.eq_of_beq_eq_true h]; rfl
  · rw [Nat.eq_of_beq_eq_true h]; rfl
  · have := rgB_t h
    exact pW_E k (pN_W k (pS12_N k (rgB_i (by omega))))
theorem pRd_E : ∀ k, pRd k = true → pE k = true := fun k h => by
  rw [pRd, Bool.or_eq_true] at h
  rcases h with h | h <;> (rw [Nat.eq_of_beq_eq_true h]; rfl)
theorem pE_C : ∀ k, pE k = true → pC k = true := fun k h => by
  simp only [pE, Bool.or_eq_true] at h
  rcases h with ((h | h) | h) | h
  · exact pW_C k h
  all_goals (rw [pC, rgB_i (a := 3) (b := 230) (by first | (have := rgB_t h; omega) | (have := Nat.eq_of_beq_eq_true h; omega)), Bool.or_true])
theorem cX.mod188 {G : sG} {S : sS} {x y : Nat} {b : Int} {o : Nat} (h : cX G S x y b) (m : mdl o) : cX G (uR S 188 15 (.ref (G.2.2.1 + o))) x y b := by
  have eo : ∀ k i, ¬ (k = 188 ∧ i = 15) → (uR S 188 15 (.ref (G.2.2.1 + o))).2.2.2 k i = S.2.2.2 k i := fun k i q => uR_ne q
  obtain ⟨m1, ⟨m2, m3, m4⟩, ⟨m5, m6, m7⟩, ⟨m8, m9, m10⟩, m11, m12⟩ := h.rm
  refine h.putR (show tau 188 = .inl 1 from rfl) (by decide) (by decide) ⟨?_, ⟨m2, m3, by rw [eo _ _ (by decide)]; exact m4⟩, ⟨m5, m6, by rw [eo _ _ (by decide)]; exact m7⟩, ⟨o, m, uR_on⟩, ?_, ?_⟩
  · rw [eo _ _ (by decide), eo _ _ (by decide)]; exact m1
  · rw [eo _ _ (by decide), eo _ _ (by decide)]; exact m11
  · rw [eo _ _ (by decide)]; exact m12
set_option maxRecDepth 100000 in
set_option maxHeartbeats 4000000 in
theorem s_X1_faultPlace (l : Launch) (G : sG) (S : sS)  (hI : cX G S 0 0 0) : Met l yX1_faultPlace (.code yX1_faultPlace cX1_faultPlace 1 (some .int) :: tb) (rmk 1 0 0) (sPc G 294 S [.ref (G.2.2.1 + 188)]) (sQi G 294 (fun r u => u = S ∧ (-2147483648 ≤ r ∧ r ≤ 2147483647))) 0 0 (sF G) := by
  refine sEnter (by decide) (Nat.le_of_ble_eq_true rfl) ?_
  intro p e s m args below meth c Cx hr hlk hnm hW ls hl
  have Cx : sC G p m c cX1_faultPlace 1 s args RX1 := Cx
  obtain ⟨hx, hb, hml, hown, hts⟩ := id Cx.1
  have hL : sL G [] := sL_nil
  have hl : lv_has ls 1 [(0, .ref (G.2.2.1 + 188))] := hl
  have hW0 := hW
  refine lv_aload_n hx hb dX1_faultPlace_0 rfl (lv_at hl 0 rfl) ?_
  have q_1 : (-2147483648) ≤ S.1 188 17 ∧ S.1 188 17 ≤ 2147483647 := hI.fi 188 17 1 (by decide) rfl
  refine g_X1_73 Cx hW (k := 188) (by decide) rfl (v := S.1 188 17) rfl dX1_faultPlace_1 ?_
  exact sIret Cx hr hlk hW hL ⟨rfl, (by omega)⟩ dX1_faultPlace_4

set_option maxRecDepth 100000 in
set_option maxHeartbeats 4000000 in
theorem s_X1_fail (l : Launch) (G : sG) (S : sS) {kn wh : Int} (hI : cX G S 0 0 0) (hkn : -2147483648 ≤ kn ∧ kn ≤ 2147483647) (hwh : -2147483648 ≤ wh ∧ wh ≤ 2147483647) : Met l yX1_fail (.code yX1_fail cX1_fail 3 (some .boolean) :: tb) (rmk 1 0 0) (sPc G 294 S [.ref (G.2.2.1 + 188), .int (iv kn), .int (iv wh)]) (sQi G 294 (fun r u => cX G u 0 0 0 ∧ Fr S u (p1 188) ∧ (r = 0))) 0 0 (sF G) := by
  refine sEnter (by decide) (Nat.le_of_ble_eq_true rfl) ?_
  intro p e s m args below meth c Cx hr hlk hnm hW ls hl
  have Cx : sC G p m c cX1_fail 3 s args RX1 := Cx
  obtain ⟨hx, hb, hml, hown, hts⟩ := id Cx.1
  have hL : sL G [] := sL_nil
  have hl : lv_has ls 3 [(0, .ref (G.2.2.1 + 188)), (1, .int (iv kn)), (2, .int (iv wh))] := hl
  have hW0 := hW
  refine lv_aload_n hx hb dX1_fail_0 rfl (lv_at hl 0 rfl) ?_
  refine lv_iload_n hx hb dX1_fail_1 rfl (lv_at hl 1 rfl) ?_
  refine p_X1_77 Cx hW hL (k := 188) (by decide) rfl dX1_fail_2 (fun H locs hW hL => ?_)
  have F_1 : Fr S (uF S 188 16 kn) (p1 188) := (Fr.rf : Fr S S (p1 188)).F rfl
  have i_2 : cX G (uF S 188 16 kn) 0 0 0 := hI.F rfl rfl (show (-2147483648) ≤ kn ∧ kn ≤ 2147483647 from ⟨by omega, by omega⟩)
  refine lv_aload_n hx hb dX1_fail_5 rfl (lv_at hl 0 rfl) ?_
  refine lv_iload_n hx hb dX1_fail_6 rfl (lv_at hl 2 rfl) ?_
  refine p_X1_73 Cx hW hL (k := 188) (by decide) rfl dX1_fail_7 (fun H locs hW hL => ?_)
  have F_3 : Fr S (uF (uF S 188 16 kn) 188 17 wh) (p1 188) := F_1.F rfl
  have i_4 : cX G (uF (uF S 188 16 kn) 188 17 wh) 0 0 0 := i_2.F rfl rfl (show (-2147483648) ≤ wh ∧ wh ≤ 2147483647 from ⟨by omega, by omega⟩)
  refine lv_iconst (v := iv 0) hx hb dX1_fail_10 (by decide) ?_
  exact sZret Cx hr hlk hW hL (by omega) ⟨i_4, F_3, (by omega)⟩ dX1_fail_11

set_option maxRecDepth 100000 in
set_option maxHeartbeats 4000000 in
theorem s_X1_takePoint (l : Launch) (G : sG) (S : sS)  (hI : cX G S 0 0 0) (hCR : CR G S) (hat : S.1 189 3 ≤ 999999000) : Met l yX1_takePoint (.code yX1_takePoint cX1_takePoint 2 none :: tb) (rmk 4 0 0) (sPc G 294 S [.ref (G.2.2.1 + 188)]) (sQv G 294 (fun u => cX G u 0 0 0 ∧ Fr S u pTp ∧ (CR G u ∧ u.1 189 3 ≤ S.1 189 3 + 15))) 0 0 (sF G) := by
  refine sEnter (by decide) (Nat.le_of_ble_eq_true rfl) ?_
  intro p e s m args below meth c Cx hr hlk hnm hW ls hl
  have Cx : sC G p m c cX1_takePoint 2 s args RX1 := Cx
  obtain ⟨hx, hb, hml, hown, hts⟩ := id Cx.1
  have hL : sL G [] := sL_nil
  have hl : lv_has ls 2 [(0, .ref (G.2.2.1 + 188))] := hl
  have hW0 := hW
  have hat0 : 0 ≤ S.1 189 3 ∧ S.1 189 3 ≤ 1000000000 := hI.fi 189 3 4 (by decide) rfl
  refine lv_aload_n hx hb dX1_takePoint_0 rfl (lv_at hl 0 rfl) ?_
  refine g_X1_12 Cx hW (k := 188) (by decide) rfl (v := .ref (G.2.2.1 + 189)) (rf_188_0 hI) dX1_takePoint_1 ?_
  have q_1 : 0 ≤ S.1 189 3 ∧ S.1 189 3 ≤ 1000000000 := hI.fi 189 3 4 (by decide) rfl
  refine sBv (sV (As := []) (rest := []) (k := 189) Cx (s_X4_advance l G S  hI (by omega)) (c_X1_119 Cx rfl rfl (rmk_ok (by omega) (by decide))) hW (by decide) rfl rfl rfl hl.1 rfl (Nat.le_of_ble_eq_true rfl) dX1_takePoint_4 ⟨Nat.le_of_ble_eq_true rfl, Nat.le_of_ble_eq_true rfl⟩) hL (fun u_2 H locs k_3 hW hL => ?_)
  obtain ⟨iu_2, fu_2, xu_2⟩ := k_3
  have F_4 := (Fr.rf : Fr S S pTp).trans (fu_2.to (p1_sub rfl))
  have at_u_2 : u_2.1 189 3 = S.1 189 3 + 1 := by rw [xu_2]; exact uF_on
  have cr_5 : CR G u_2 := by rw [xu_2]; exact hCR.F (by decide)
  refine lv_iconst (v := iv 1) hx hb dX1_takePoint_7 (by decide) ?_
  refine lv_istore_n (lv' := [(1, .int (iv 1)), (0, .ref (G.2.2.1 + 188))]) hx hb dX1_takePoint_8 rfl hl (by decide) rfl (fun ls hl => ?_)
  have loop_9 : ∀ (fuel : Nat) (S9 : sS) (j : Int) (H : Heap) (locs : List Loc) (ls : Array Slot), (13 - j).toNat < fuel → (cX G S9 0 0 0) → (Fr S S9 pTp) → (Fr u_2 S9 pTp) → (1 ≤ j ∧ j ≤ 13) → (S9.1 189 3 ≤ S.1 189 3 + j) → (CR G S9) → sW G 294 S9 H → sL G locs → lv_has ls 2 [(1, .int (iv j)), (0, .ref (G.2.2.1 + 188))] → W p l e (rmk 4 0 0) s m args below meth c H locs 0 0 (MQ below (sQv G 294 (fun u => cX G u 0 0 0 ∧ Fr S u pTp ∧ (CR G u ∧ u.1 189 3 ≤ S.1 189 3 + 15))) args s 0 0 (sF G)) (F0 m 9 ls []) := by
    intro fuel
    induction fuel with
    | zero => intro S9 j H locs ls hmeas hI9 hFm9 hL9_ hj ha9 hCR9 hW hL hl; exact absurd hmeas (Nat.not_lt_zero _)
    | succ fuel ih_9 =>
      intro S9 j H locs ls hmeas hI9 hFm9 hL9_ hj ha9 hCR9 hW hL hl
      refine lv_iload_n hx hb dX1_takePoint_9 rfl (lv_at hl 0 rfl) ?_
      refine lv_aload_n hx hb dX1_takePoint_10 rfl (lv_at hl 1 rfl) ?_
      obtain ⟨o_6, mo_6, eo_6⟩ := hI.rm.2.2.2.1
      refine g_X1_69 Cx hW (k := 188) (by decide) rfl (v := .ref (G.2.2.1 + o_6)) ((((hL9_ 188 rfl).2.2.2 15).trans ((fu_2 188 rfl).2.2.2 15)).trans eo_6) dX1_takePoint_11 ?_
      have q_7 : 0 ≤ S9.1 o_6 2 ∧ S9.1 o_6 2 ≤ 12 := hI9.fi o_6 2 3 (mdl_k mo_6) mo_6.1
      refine g_X1_84 Cx hW (k := o_6) (mdl_l mo_6) mo_6.1 (v := S9.1 o_6 2) rfl dX1_takePoint_14 ?_
      refine r_icmp_gt (tgt := 52) hx hb ⟨(by omega), (by omega)⟩ ⟨(by omega), (by omega)⟩ dX1_takePoint_17 (by decide) (fun c_8 => ?_) (fun c_8 => ?_)
      · refine lv_aload_n hx hb dX1_takePoint_52 rfl (lv_at hl 1 rfl) ?_
        refine g_X1_12 Cx hW (k := 188) (by decide) rfl (v := .ref (G.2.2.1 + 189)) (rf_188_0 hI9) dX1_takePoint_53 ?_
        have q_9 : 0 ≤ S9.1 189 3 ∧ S9.1 189 3 ≤ 1000000000 := hI9.fi 189 3 4 (by decide) rfl
        refine sBv (sV (As := []) (rest := []) (k := 189) Cx (s_X4_advance l G S9  hI9 (by omega)) (c_X1_119 Cx rfl rfl (rmk_ok (by omega) (by decide))) hW (by decide) rfl rfl rfl hl.1 rfl (Nat.le_of_ble_eq_true rfl) dX1_takePoint_56 ⟨Nat.le_of_ble_eq_true rfl, Nat.le_of_ble_eq_true rfl⟩) hL (fun u_10 H locs k_11 hW hL => ?_)
        obtain ⟨iu_10, fu_10, xu_10⟩ := k_11
        have F_12 := hFm9.trans (fu_10.to (p1_sub rfl))
        have F_13 := hL9_.trans (fu_10.to (p1_sub rfl))
        have at_u_10 : u_10.1 189 3 = S9.1 189 3 + 1 := by rw [xu_10]; exact uF_on
        have cr_14 : CR G u_10 := by rw [xu_10]; exact hCR9.F (by decide)
        refine lv_aload_n hx hb dX1_takePoint_59 rfl (lv_at hl 1 rfl) ?_
        refine g_X1_12 Cx hW (k := 188) (by decide) rfl (v := .ref (G.2.2.1 + 189)) (rf_188_0 iu_10) dX1_takePoint_60 ?_
        refine lv_aload_n hx hb dX1_takePoint_63 rfl (lv_at hl 1 rfl) ?_
        refine g_X1_48 Cx hW (k := 188) (by decide) rfl (v := .ref (G.2.2.1 + 219)) (rf_188_8 iu_10) dX1_takePoint_64 ?_
        have q_15 : 0 ≤ u_10.1 189 3 ∧ u_10.1 189 3 ≤ 1000000000 := iu_10.fi 189 3 4 (by decide) rfl
        refine sBv (sV (As := [.ref (G.2.2.1 + 219)]) (rest := []) (k := 189) Cx (s_X4_takeNumber_219 l G u_10  iu_10 cr_14 (by omega)) (c_X1_126 Cx rfl rfl (rmk_ok (by omega) (by decide))) hW (by decide) rfl rfl rfl hl.1 rfl (Nat.le_of_ble_eq_true rfl) dX1_takePoint_67 ⟨Nat.le_of_ble_eq_true rfl, Nat.le_of_ble_eq_true rfl⟩) hL (fun u_16 H locs k_17 hW hL => ?_)
        obtain ⟨iu_16, fu_16, xu_16⟩ := k_17
        have F_18 := F_12.trans (fu_16.to (pRg_sub rfl rfl rfl))
        have F_19 := F_13.trans (fu_16.to (pRg_sub rfl rfl rfl))
        have cr_20 : CR G u_16 := xu_16.1
        refine lv_aload_n hx hb dX1_takePoint_70 rfl (lv_at hl 1 rfl) ?_
        refine g_X1_48 Cx hW (k := 188) (by decide) rfl (v := .ref (G.2.2.1 + 219)) (rf_188_8 iu_16) dX1_takePoint_71 ?_
        refine lv_aload_n hx hb dX1_takePoint_74 rfl (lv_at hl 1 rfl) ?_
        refine g_X1_27 Cx hW (k := 188) (by decide) rfl (v := .ref (G.2.2.1 + 208)) (rf_188_2 iu_16) dX1_takePoint_75 ?_
        refine lv_iconst (v := iv 0) hx hb dX1_takePoint_78 (by decide) ?_
        have q_21 : 0 ≤ u_16.1 219 1 ∧ u_16.1 219 1 ≤ 32 := iu_16.fi 219 1 0 (by decide) rfl
        have q_22 : (-1) ≤ u_16.1 219 2 ∧ u_16.1 219 2 ≤ 1 := iu_16.fi 219 2 0 (by decide) rfl
        refine sBv (sV (As := [.ref (G.2.2.1 + 208), .int (iv 0)]) (rest := []) (k := 219) Cx (s_X0_save l G u_16 (o := 219) (k := 208) (a := 0) (N := 104) iu_16 rfl ⟨by decide, rfl, by decide, rfl, rfl, rfl⟩ (by omega) (show _ ≤ (7 : Int) ∧ (_ → _ ≤ (999999999 : Int)) from ⟨by omega, fun _ => by have := limbR iu_16 (rfl : tau 219 = .inl 0) 6; omega⟩) (fun q _ => by rcases q with q | q <;> exact absurd q (by decide))) (c_X1_149 Cx rfl rfl (rmk_ok (by omega) (by decide))) hW (by decide) rfl rfl rfl hl.1 rfl (Nat.le_of_ble_eq_true rfl) dX1_takePoint_79 ⟨Nat.le_of_ble_eq_true rfl, Nat.le_of_ble_eq_true rfl⟩) hL (fun u_23 H locs k_24 hW hL => ?_)
        obtain ⟨iu_23, fu_23⟩ := k_24
        have F_25 := F_18.trans (fu_23.to (p1_sub rfl))
        have F_26 := F_19.trans (fu_23.to (p1_sub rfl))
        have cr_27 : CR G u_23 := cr_20.fr fu_23 rfl rfl rfl rfl
        have q_28 : 0 ≤ u_16.1 189 3 ∧ u_16.1 189 3 ≤ 1000000000 := iu_16.fi 189 3 4 (by decide) rfl
        have lk_29 : u_23.1 189 3 = u_16.1 189 3 := (fu_23 189 rfl).1 3
        exact sVret Cx hr hlk hW hL ⟨iu_23, F_25, ⟨cr_27, (by omega)⟩⟩ dX1_takePoint_82
      · refine lv_aload_n hx hb dX1_takePoint_20 rfl (lv_at hl 1 rfl) ?_
        refine g_X1_12 Cx hW (k := 188) (by decide) rfl (v := .ref (G.2.2.1 + 189)) (rf_188_0 hI9) dX1_takePoint_21 ?_
        refine lv_aload_n hx hb dX1_takePoint_24 rfl (lv_at hl 1 rfl) ?_
        refine g_X1_48 Cx hW (k := 188) (by decide) rfl (v := .ref (G.2.2.1 + 219)) (rf_188_8 hI9) dX1_takePoint_25 ?_
        have q_30 : 0 ≤ S9.1 189 3 ∧ S9.1 189 3 ≤ 1000000000 := hI9.fi 189 3 4 (by decide) rfl
        refine sBv (sV (As := [.ref (G.2.2.1 + 219)]) (rest := []) (k := 189) Cx (s_X4_takeNumber_219 l G S9  hI9 hCR9 (by omega)) (c_X1_126 Cx rfl rfl (rmk_ok (by omega) (by decide))) hW (by decide) rfl rfl rfl hl.1 rfl (Nat.le_of_ble_eq_true rfl) dX1_takePoint_28 ⟨Nat.le_of_ble_eq_true rfl, Nat.le_of_ble_eq_true rfl⟩) hL (fun u_31 H locs k_32 hW hL => ?_)
        obtain ⟨iu_31, fu_31, xu_31⟩ := k_32
        have F_33 := hFm9.trans (fu_31.to (pRg_sub rfl rfl rfl))
        have F_34 := hL9_.trans (fu_31.to (pRg_sub rfl rfl rfl))
        have cr_35 : CR G u_31 := xu_31.1
        refine lv_aload_n hx hb dX1_takePoint_31 rfl (lv_at hl 1 rfl) ?_
        refine g_X1_48 Cx hW (k := 188) (by decide) rfl (v := .ref (G.2.2.1 + 219)) (rf_188_8 iu_31) dX1_takePoint_32 ?_
        refine lv_aload_n hx hb dX1_takePoint_35 rfl (lv_at hl 1 rfl) ?_
        refine g_X1_27 Cx hW (k := 188) (by decide) rfl (v := .ref (G.2.2.1 + 208)) (rf_188_2 iu_31) dX1_takePoint_36 ?_
        refine lv_iload_n hx hb dX1_takePoint_39 rfl (lv_at hl 0 rfl) ?_
        refine lv_bipush (v := iv 8) hx hb dX1_takePoint_40 (by decide) ?_
        refine r_imul hx hb dX1_takePoint_42 ?_
        have q_36 : 0 ≤ u_31.1 219 1 ∧ u_31.1 219 1 ≤ 32 := iu_31.fi 219 1 0 (by decide) rfl
        have q_37 : (-1) ≤ u_31.1 219 2 ∧ u_31.1 219 2 ≤ 1 := iu_31.fi 219 2 0 (by decide) rfl
        refine sBv (sV (As := [.ref (G.2.2.1 + 208), .int (iv (j * 8))]) (rest := []) (k := 219) Cx (s_X0_save l G u_31 (o := 219) (k := 208) (a := j * 8) (N := 104) iu_31 rfl ⟨by decide, rfl, by decide, rfl, rfl, rfl⟩ (by omega) (show _ ≤ (7 : Int) ∧ (_ → _ ≤ (999999999 : Int)) from ⟨by omega, fun _ => by have := limbR iu_31 (rfl : tau 219 = .inl 0) 6; omega⟩) (fun q _ => by rcases q with q | q <;> exact absurd q (by decide))) (c_X1_149 Cx rfl rfl (rmk_ok (by omega) (by decide))) hW (by decide) rfl rfl rfl hl.1 rfl (Nat.le_of_ble_eq_true rfl) dX1_takePoint_43 ⟨Nat.le_of_ble_eq_true rfl, Nat.le_of_ble_eq_true rfl⟩) hL (fun u_38 H locs k_39 hW hL => ?_)
        obtain ⟨iu_38, fu_38⟩ := k_39
        have F_40 := F_33.trans (fu_38.to (p1_sub rfl))
        have F_41 := F_34.trans (fu_38.to (p1_sub rfl))
        have cr_42 : CR G u_38 := cr_35.fr fu_38 rfl rfl rfl rfl
        refine lv_iinc (v := iv (j + 1)) (lv' := [(1, .int (iv (j + 1))), (0, .ref (G.2.2.1 + 188))]) hx hb dX1_takePoint_46 hl (k := 0) rfl ((Int32.ofInt_add _ _).symm) (by decide) rfl (fun ls hl => ?_)
        refine lv_goto (tgt := 9) hx hb dX1_takePoint_49 (by decide) ?_
        have q_43 : 0 ≤ u_31.1 189 3 ∧ u_31.1 189 3 ≤ 1000000000 := iu_31.fi 189 3 4 (by decide) rfl
        have lk_44 : u_38.1 189 3 = u_31.1 189 3 := (fu_38 189 rfl).1 3
        exact ih_9 u_38 (j + 1) _ _ _ (by omega) iu_38 F_40 F_41 (by omega) (by omega) cr_42 hW hL (lv_sub hl [0, 1] rfl)
  have q_45 : 0 ≤ u_2.1 189 3 ∧ u_2.1 189 3 ≤ 1000000000 := iu_2.fi 189 3 4 (by decide) rfl
  exact loop_9 (_ + 1) u_2 1 _ _ _ (Nat.lt_succ_self _) iu_2 F_4 Fr.rf (by omega) (by omega) cr_5 hW hL (lv_sub hl [0, 1] rfl)

set_option maxRecDepth 100000 in
set_option maxHeartbeats 4000000 in
theorem s_X1_sumAt (l : Launch) (G : sG) (S : sS) {k : Int} (hI : cX G S 0 0 0) (hk : 0 ≤ k ∧ k ≤ 40) : Met l yX1_sumAt (.code yX1_sumAt cX1_sumAt 3 none :: tb) (rmk 4 0 0) (sPc G 294 S [.ref (G.2.2.1 + 188), .int (iv k)]) (sQv G 294 (fun u => cX G u 0 0 0 ∧ Fr S u pS8 ∧ (u.1 215 1 ≤ 15 ∧ Hd (u.1 215 1 = 15 → u.2.1 216 14 ≤ 12)))) 0 0 (sF G) := by
  refine sEnter (by decide) (Nat.le_of_ble_eq_true rfl) ?_
  intro p e s m args below meth c Cx hr hlk hnm hW ls hl
  have Cx : sC G p m c cX1_sumAt 3 s args RX1 := Cx
  obtain ⟨hx, hb, hml, hown, hts⟩ := id Cx.1
  have hL : sL G [] := sL_nil
  have hl : lv_has ls 3 [(0, .ref (G.2.2.1 + 188)), (1, .int (iv k))] := hl
  have hW0 := hW
  refine lv_aload_n hx hb dX1_sumAt_0 rfl (lv_at hl 0 rfl) ?_
  refine g_X1_42 Cx hW (k := 188) (by decide) rfl (v := .ref (G.2.2.1 + 215)) (rf_188_6 hI) dX1_sumAt_1 ?_
  refine lv_lconst (v := jv 0) hx hb dX1_sumAt_4 (by decide) ?_
  refine sBv (sV (As := [.long (jv 0)]) (rest := []) (k := 215) Cx (s_X0_put l G S (o := 215) (v := 0) hI rfl (by omega)) (c_X1_153 Cx rfl rfl (rmk_ok (by omega) (by decide))) hW (by decide) rfl rfl rfl hl.1 rfl (Nat.le_of_ble_eq_true rfl) dX1_sumAt_5 ⟨Nat.le_of_ble_eq_true rfl, Nat.le_of_ble_eq_true rfl⟩) hL (fun u_1 H locs k_2 hW hL => ?_)
  obtain ⟨iu_1, fu_1, xu_1⟩ := k_2
  have F_3 := (Fr.rf : Fr S S pS8).trans (fu_1.to (pB_sub rfl rfl))
  refine lv_iconst (v := iv 1) hx hb dX1_sumAt_8 (by decide) ?_
  refine lv_istore_n (lv' := [(2, .int (iv 1)), (0, .ref (G.2.2.1 + 188)), (1, .int (iv k))]) hx hb dX1_sumAt_9 rfl hl (by decide) rfl (fun ls hl => ?_)
  have loop_10 : ∀ (fuel : Nat) (S10 : sS) (j : Int) (H : Heap) (locs : List Loc) (ls : Array Slot), (13 - j).toNat < fuel → (cX G S10 0 0 0) → (Fr S S10 pS8) → (Fr u_1 S10 pS8) → (1 ≤ j ∧ j ≤ 13) → (S10.1 215 1 ≤ 15) → (Hd (S10.1 215 1 = 15 → S10.2.1 216 14 ≤ j - 1)) → sW G 294 S10 H → sL G locs → lv_has ls 3 [(2, .int (iv j)), (0, .ref (G.2.2.1 + 188)), (1, .int (iv k))] → W p l e (rmk 4 0 0) s m args below meth c H locs 0 0 (MQ below (sQv G 294 (fun u => cX G u 0 0 0 ∧ Fr S u pS8 ∧ (u.1 215 1 ≤ 15 ∧ Hd (u.1 215 1 = 15 → u.2.1 216 14 ≤ 12)))) args s 0 0 (sF G)) (F0 m 10 ls []) := by
    intro fuel
    induction fuel with
    | zero => intro S10 j H locs ls hmeas hI10 hFm10 hL10_ hj hc ht hW hL hl; exact absurd hmeas (Nat.not_lt_zero _)
    | succ fuel ih_10 =>
      intro S10 j H locs ls hmeas hI10 hFm10 hL10_ hj hc ht hW hL hl
      refine lv_iload_n hx hb dX1_sumAt_10 rfl (lv_at hl 0 rfl) ?_
      refine lv_aload_n hx hb dX1_sumAt_11 rfl (lv_at hl 1 rfl) ?_
      obtain ⟨o_4, mo_4, eo_4⟩ := hI.rm.2.2.2.1
      refine g_X1_69 Cx hW (k := 188) (by decide) rfl (v := .ref (G.2.2.1 + o_4)) ((((hL10_ 188 rfl).2.2.2 15).trans ((fu_1 188 rfl).2.2.2 15)).trans eo_4) dX1_sumAt_12 ?_
      have q_5 : 0 ≤ S10.1 o_4 2 ∧ S10.1 o_4 2 ≤ 12 := hI10.fi o_4 2 3 (mdl_k mo_4) mo_4.1
      refine g_X1_84 Cx hW (k := o_4) (mdl_l mo_4) mo_4.1 (v := S10.1 o_4 2) rfl dX1_sumAt_15 ?_
      refine r_icmp_gt (tgt := 82) hx hb ⟨(by omega), (by omega)⟩ ⟨(by omega), (by omega)⟩ dX1_sumAt_18 (by decide) (fun c_6 => ?_) (fun c_6 => ?_)
      · have q_7 : 0 ≤ S10.1 215 1 ∧ S10.1 215 1 ≤ 32 := hI10.fi 215 1 0 (by decide) rfl
        exact sVret Cx hr hlk hW hL ⟨hI10, hFm10, ⟨(by omega), fun q => by have e := ht q; omega⟩⟩ dX1_sumAt_82
      · refine lv_aload_n hx hb dX1_sumAt_21 rfl (lv_at hl 1 rfl) ?_
        refine g_X1_48 Cx hW (k := 188) (by decide) rfl (v := .ref (G.2.2.1 + 219)) (rf_188_8 hI10) dX1_sumAt_22 ?_
        refine lv_aload_n hx hb dX1_sumAt_25 rfl (lv_at hl 1 rfl) ?_
        refine g_X1_27 Cx hW (k := 188) (by decide) rfl (v := .ref (G.2.2.1 + 208)) (rf_188_2 hI10) dX1_sumAt_26 ?_
        refine lv_iload_n hx hb dX1_sumAt_29 rfl (lv_at hl 0 rfl) ?_
        refine lv_bipush (v := iv 8) hx hb dX1_sumAt_30 (by decide) ?_
        refine r_imul hx hb dX1_sumAt_32 ?_
        refine sBv (sV (As := [.ref (G.2.2.1 + 208), .int (iv (j * 8))]) (rest := []) (k := 219) Cx (s_X0_load l G S10 (o := 219) (k := 208) (a := j * 8) (N := 104) hI10 rfl ⟨by decide, rfl, by decide, rfl, rfl, rfl⟩ (by omega)) (c_X1_157 Cx rfl rfl (rmk_ok (by omega) (by decide))) hW (by decide) rfl rfl rfl hl.1 rfl (Nat.le_of_ble_eq_true rfl) dX1_sumAt_33 ⟨Nat.le_of_ble_eq_true rfl, Nat.le_of_ble_eq_true rfl⟩) hL (fun u_8 H locs k_9 hW hL => ?_)
        obtain ⟨iu_8, fu_8, xu_8⟩ := k_9
        have F_10 := hFm10.trans (fu_8.to (pB_sub rfl rfl))
        have F_11 := hL10_.trans (fu_8.to (pB_sub rfl rfl))
        have yu_8 : u_8.1 219 1 ≤ 7 := xu_8.1
        refine lv_aload_n hx hb dX1_sumAt_36 rfl (lv_at hl 1 rfl) ?_
        refine g_X1_21 Cx hW (k := 188) (by decide) rfl (v := .ref (G.2.2.1 + 193)) (rf_188_1 iu_8) dX1_sumAt_37 ?_
        refine lv_iload_n hx hb dX1_sumAt_40 rfl (lv_at hl 2 rfl) ?_
        refine lv_iload_n hx hb dX1_sumAt_41 rfl (lv_at hl 0 rfl) ?_
        refine lv_aload_n hx hb dX1_sumAt_42 rfl (lv_at hl 1 rfl) ?_
        refine g_X1_45 Cx hW (k := 188) (by decide) rfl (v := .ref (G.2.2.1 + 217)) (rf_188_7 iu_8) dX1_sumAt_43 ?_
        refine sBv (sV (As := [.int (iv k), .int (iv j), .ref (G.2.2.1 + 217)]) (rest := []) (k := 193) Cx (s_X6_number_193 l G u_8 (k := k) (j := j) (v := 217) iu_8 rfl (by omega) (by omega)) (c_X1_160 Cx rfl rfl (rmk_ok (by omega) (by decide))) hW (by decide) rfl rfl rfl hl.1 rfl (Nat.le_of_ble_eq_true rfl) dX1_sumAt_46 ⟨Nat.le_of_ble_eq_true rfl, Nat.le_of_ble_eq_true rfl⟩) hL (fun u_12 H locs k_13 hW hL => ?_)
        obtain ⟨iu_12, fu_12, xu_12⟩ := k_13
        have F_14 := F_10.trans (fu_12.to (pB_sub rfl rfl))
        have F_15 := F_11.trans (fu_12.to (pB_sub rfl rfl))
        refine lv_aload_n hx hb dX1_sumAt_49 rfl (lv_at hl 1 rfl) ?_
        refine g_X1_51 Cx hW (k := 188) (by decide) rfl (v := .ref (G.2.2.1 + 221)) (rf_188_9 iu_12) dX1_sumAt_50 ?_
        refine lv_aload_n hx hb dX1_sumAt_53 rfl (lv_at hl 1 rfl) ?_
        refine g_X1_48 Cx hW (k := 188) (by decide) rfl (v := .ref (G.2.2.1 + 219)) (rf_188_8 iu_12) dX1_sumAt_54 ?_
        refine lv_aload_n hx hb dX1_sumAt_57 rfl (lv_at hl 1 rfl) ?_
        refine g_X1_45 Cx hW (k := 188) (by decide) rfl (v := .ref (G.2.2.1 + 217)) (rf_188_7 iu_12) dX1_sumAt_58 ?_
        have q_16 : 0 ≤ u_8.1 219 1 ∧ u_8.1 219 1 ≤ 32 := iu_8.fi 219 1 0 (by decide) rfl
        have lk_17 : u_12.1 219 1 = u_8.1 219 1 := (fu_12 219 rfl).1 1
        have q_18 : 0 ≤ u_12.1 217 1 ∧ u_12.1 217 1 ≤ 32 := iu_12.fi 217 1 0 (by decide) rfl
        refine sBv (sV (As := [.ref (G.2.2.1 + 219), .ref (G.2.2.1 + 217)]) (rest := []) (k := 221) Cx (s_X0_product l G u_12 (o := 221) (a := 219) (b := 217) iu_12 rfl rfl rfl (show (221 : Nat) ≠ 219 by decide) (show (221 : Nat) ≠ 217 by decide)) (c_X1_163 Cx rfl rfl (rmk_ok (by omega) (by decide))) hW (by decide) rfl rfl rfl hl.1 rfl (Nat.le_of_ble_eq_true rfl) dX1_sumAt_61 ⟨Nat.le_of_ble_eq_true rfl, Nat.le_of_ble_eq_true rfl⟩) hL (fun u_19 H locs k_20 hW hL => ?_)
        obtain ⟨iu_19, fu_19, xu_19⟩ := k_20
        have F_21 := F_14.trans (fu_19.to (pB_sub rfl rfl))
        have F_22 := F_15.trans (fu_19.to (pB_sub rfl rfl))
        refine lv_aload_n hx hb dX1_sumAt_64 rfl (lv_at hl 1 rfl) ?_
        refine g_X1_42 Cx hW (k := 188) (by decide) rfl (v := .ref (G.2.2.1 + 215)) (rf_188_6 iu_19) dX1_sumAt_65 ?_
        refine lv_aload_n hx hb dX1_sumAt_68 rfl (lv_at hl 1 rfl) ?_
        refine g_X1_51 Cx hW (k := 188) (by decide) rfl (v := .ref (G.2.2.1 + 221)) (rf_188_9 iu_19) dX1_sumAt_69 ?_
        refine lv_iconst (v := iv 1) hx hb dX1_sumAt_72 (by decide) ?_
        have q_23 : 0 ≤ u_19.1 221 1 ∧ u_19.1 221 1 ≤ 32 := iu_19.fi 221 1 0 (by decide) rfl
        have q_24 : 0 ≤ S10.1 215 1 ∧ S10.1 215 1 ≤ 32 := hI10.fi 215 1 0 (by decide) rfl
        have lk_25 : u_19.1 215 1 = S10.1 215 1 := ((fu_19 215 rfl).1 1).trans (((fu_12 215 rfl).1 1).trans ((fu_8 215 rfl).1 1))
        have q_26 : (-1) ≤ S10.1 215 2 ∧ S10.1 215 2 ≤ 1 := hI10.fi 215 2 0 (by decide) rfl
        have lk_27 : u_19.1 215 2 = S10.1 215 2 := ((fu_19 215 rfl).1 2).trans (((fu_12 215 rfl).1 2).trans ((fu_8 215 rfl).1 2))
        have q_28 : (-1) ≤ u_19.1 221 2 ∧ u_19.1 221 2 ≤ 1 := iu_19.fi 221 2 0 (by decide) rfl
        refine sBv (sV (As := [.ref (G.2.2.1 + 221), .int (iv 1)]) (rest := []) (k := 215) Cx (t_X0_add_p l G u_19 (o := 215) (a := 221) (n := 14) (t := j - 1) iu_19 rfl rfl (show (215 : Nat) ≠ 221 by decide) (by omega) (fun q => by have e : u_19.2.1 216 14 = S10.2.1 216 14 := ((fu_19 216 rfl).2.1 14).trans (((fu_12 216 rfl).2.1 14).trans ((fu_8 216 rfl).2.1 14)); rw [e]; exact ht (by omega))) (c_X1_166 Cx rfl rfl (rmk_ok (by omega) (by decide))) hW (by decide) rfl rfl rfl hl.1 rfl (Nat.le_of_ble_eq_true rfl) dX1_sumAt_73 ⟨Nat.le_of_ble_eq_true rfl, Nat.le_of_ble_eq_true rfl⟩) hL (fun u_29 H locs k_30 hW hL => ?_)
        obtain ⟨iu_29, fu_29, xu_29⟩ := k_30
        have F_31 := F_21.trans (fu_29.to (pB_sub rfl rfl))
        have F_32 := F_22.trans (fu_29.to (pB_sub rfl rfl))
        refine lv_iinc (v := iv (j + 1)) (lv' := [(2, .int (iv (j + 1))), (0, .ref (G.2.2.1 + 188)), (1, .int (iv k))]) hx hb dX1_sumAt_76 hl (k := 0) rfl ((Int32.ofInt_add _ _).symm) (by decide) rfl (fun ls hl => ?_)
        refine lv_goto (tgt := 10) hx hb dX1_sumAt_79 (by decide) ?_
        have q_33 : 0 ≤ u_29.1 215 1 ∧ u_29.1 215 1 ≤ 32 := iu_29.fi 215 1 0 (by decide) rfl
        exact ih_10 u_29 (j + 1) _ _ _ (by omega) iu_29 F_31 F_32 (by omega) (by omega) (fun q => by have e : u_29.2.1 216 14 ≤ j - 1 + 1 := xu_29.2.1 q; omega) hW hL (lv_sub hl [0, 1, 2] rfl)
  have q_34 : 0 ≤ u_1.1 215 1 ∧ u_1.1 215 1 ≤ 32 := iu_1.fi 215 1 0 (by decide) rfl
  exact loop_10 (_ + 1) u_1 1 _ _ _ (Nat.lt_succ_self _) iu_1 F_3 Fr.rf (by omega) (by omega) (fun q => absurd q (by omega)) hW hL (lv_sub hl [0, 1, 2] rfl)

set_option maxRecDepth 100000 in
set_option maxHeartbeats 4000000 in
theorem s_X1_scaleBound (l : Launch) (G : sG) (S : sS) {k : Int} (hI : cX G S 0 0 0) (hk : 0 ≤ k ∧ k ≤ 40) : Met l yX1_scaleBound (.code yX1_scaleBound cX1_scaleBound 2 none :: tb) (rmk 4 0 0) (sPc G 294 S [.ref (G.2.2.1 + 188), .int (iv k)]) (sQv G 294 (fun u => cX G u 0 0 0 ∧ Fr S u pS6 ∧ (u.1 221 1 ≤ 14))) 0 0 (sF G) := by
  refine sEnter (by decide) (Nat.le_of_ble_eq_true rfl) ?_
  intro p e s m args below meth c Cx hr hlk hnm hW ls hl
  have Cx : sC G p m c cX1_scaleBound 2 s args RX1 := Cx
  obtain ⟨hx, hb, hml, hown, hts⟩ := id Cx.1
  have hL : sL G [] := sL_nil
  have hl : lv_has ls 2 [(0, .ref (G.2.2.1 + 188)), (1, .int (iv k))] := hl
  have hW0 := hW
  refine lv_aload_n hx hb dX1_scaleBound_0 rfl (lv_at hl 0 rfl) ?_
  refine g_X1_48 Cx hW (k := 188) (by decide) rfl (v := .ref (G.2.2.1 + 219)) (rf_188_8 hI) dX1_scaleBound_1 ?_
  refine lv_aload_n hx hb dX1_scaleBound_4 rfl (lv_at hl 0 rfl) ?_
  refine g_X1_27 Cx hW (k := 188) (by decide) rfl (v := .ref (G.2.2.1 + 208)) (rf_188_2 hI) dX1_scaleBound_5 ?_
  refine lv_iconst (v := iv 0) hx hb dX1_scaleBound_8 (by decide) ?_
  refine sBv (sV (As := [.ref (G.2.2.1 + 208), .int (iv 0)]) (rest := []) (k := 219) Cx (s_X0_load l G S (o := 219) (k := 208) (a := 0) (N := 104) hI rfl ⟨by decide, rfl, by decide, rfl, rfl, rfl⟩ (by omega)) (c_X1_157 Cx rfl rfl (rmk_ok (by omega) (by decide))) hW (by decide) rfl rfl rfl hl.1 rfl (Nat.le_of_ble_eq_true rfl) dX1_scaleBound_9 ⟨Nat.le_of_ble_eq_true rfl, Nat.le_of_ble_eq_true rfl⟩) hL (fun u_1 H locs k_2 hW hL => ?_)
  obtain ⟨iu_1, fu_1, xu_1⟩ := k_2
  have F_3 := (Fr.rf : Fr S S pS6).trans (fu_1.to (pB_sub rfl rfl))
  have yu_1 : u_1.1 219 1 ≤ 7 := xu_1.1
  refine lv_aload_n hx hb dX1_scaleBound_12 rfl (lv_at hl 0 rfl) ?_
  refine g_X1_21 Cx hW (k := 188) (by decide) rfl (v := .ref (G.2.2.1 + 193)) (rf_188_1 iu_1) dX1_scaleBound_13 ?_
  refine lv_iload_n hx hb dX1_scaleBound_16 rfl (lv_at hl 1 rfl) ?_
  refine lv_iconst (v := iv 0) hx hb dX1_scaleBound_17 (by decide) ?_
  refine lv_aload_n hx hb dX1_scaleBound_18 rfl (lv_at hl 0 rfl) ?_
  refine g_X1_45 Cx hW (k := 188) (by decide) rfl (v := .ref (G.2.2.1 + 217)) (rf_188_7 iu_1) dX1_scaleBound_19 ?_
  refine sBv (sV (As := [.int (iv k), .int (iv 0), .ref (G.2.2.1 + 217)]) (rest := []) (k := 193) Cx (s_X6_number_193 l G u_1 (k := k) (j := 0) (v := 217) iu_1 rfl (by omega) (by omega)) (c_X1_160 Cx rfl rfl (rmk_ok (by omega) (by decide))) hW (by decide) rfl rfl rfl hl.1 rfl (Nat.le_of_ble_eq_true rfl) dX1_scaleBound_22 ⟨Nat.le_of_ble_eq_true rfl, Nat.le_of_ble_eq_true rfl⟩) hL (fun u_4 H locs k_5 hW hL => ?_)
  obtain ⟨iu_4, fu_4, xu_4⟩ := k_5
  have F_6 := F_3.trans (fu_4.to (pB_sub rfl rfl))
  refine lv_aload_n hx hb dX1_scaleBound_25 rfl (lv_at hl 0 rfl) ?_
  refine g_X1_51 Cx hW (k := 188) (by decide) rfl (v := .ref (G.2.2.1 + 221)) (rf_188_9 iu_4) dX1_scaleBound_26 ?_
  refine lv_aload_n hx hb dX1_scaleBound_29 rfl (lv_at hl 0 rfl) ?_
  refine g_X1_48 Cx hW (k := 188) (by decide) rfl (v := .ref (G.2.2.1 + 219)) (rf_188_8 iu_4) dX1_scaleBound_30 ?_
  refine lv_aload_n hx hb dX1_scaleBound_33 rfl (lv_at hl 0 rfl) ?_
  refine g_X1_45 Cx hW (k := 188) (by decide) rfl (v := .ref (G.2.2.1 + 217)) (rf_188_7 iu_4) dX1_scaleBound_34 ?_
  have q_7 : 0 ≤ u_1.1 219 1 ∧ u_1.1 219 1 ≤ 32 := iu_1.fi 219 1 0 (by decide) rfl
  have lk_8 : u_4.1 219 1 = u_1.1 219 1 := (fu_4 219 rfl).1 1
  have q_9 : 0 ≤ u_4.1 217 1 ∧ u_4.1 217 1 ≤ 32 := iu_4.fi 217 1 0 (by decide) rfl
  refine sBv (sV (As := [.ref (G.2.2.1 + 219), .ref (G.2.2.1 + 217)]) (rest := []) (k := 221) Cx (s_X0_product l G u_4 (o := 221) (a := 219) (b := 217) iu_4 rfl rfl rfl (show (221 : Nat) ≠ 219 by decide) (show (221 : Nat) ≠ 217 by decide)) (c_X1_163 Cx rfl rfl (rmk_ok (by omega) (by decide))) hW (by decide) rfl rfl rfl hl.1 rfl (Nat.le_of_ble_eq_true rfl) dX1_scaleBound_37 ⟨Nat.le_of_ble_eq_true rfl, Nat.le_of_ble_eq_true rfl⟩) hL (fun u_10 H locs k_11 hW hL => ?_)
  obtain ⟨iu_10, fu_10, xu_10⟩ := k_11
  have F_12 := F_6.trans (fu_10.to (pB_sub rfl rfl))
  have q_13 : 0 ≤ u_10.1 221 1 ∧ u_10.1 221 1 ≤ 32 := iu_10.fi 221 1 0 (by decide) rfl
  exact sVret Cx hr hlk hW hL ⟨iu_10, F_12, (by omega)⟩ dX1_scaleBound_40

set_option maxRecDepth 100000 in
set_option maxHeartbeats 4000000 in
theorem s_X1_isValue (l : Launch) (G : sG) (S : sS)  (hI : cX G S 0 0 0) : Met l yX1_isValue (.code yX1_isValue cX1_isValue 1 (some .boolean) :: tb) (rmk 5 0 0) (sPc G 294 S [.ref (G.2.2.1 + 188)]) (sQi G 294 (fun r u => cX G u 0 0 0 ∧ Fr S u pS8 ∧ (0 ≤ r ∧ r ≤ 1))) 0 0 (sF G) := by
  refine sEnter (by decide) (Nat.le_of_ble_eq_true rfl) ?_
  intro p e s m args below meth c Cx hr hlk hnm hW ls hl
  have Cx : sC G p m c cX1_isValue 1 s args RX1 := Cx
  obtain ⟨hx, hb, hml, hown, hts⟩ := id Cx.1
  have hL : sL G [] := sL_nil
  have hl : lv_has ls 1 [(0, .ref (G.2.2.1 + 188))] := hl
  have hW0 := hW
  refine lv_aload_n hx hb dX1_isValue_0 rfl (lv_at hl 0 rfl) ?_
  refine lv_iconst (v := iv 0) hx hb dX1_isValue_1 (by decide) ?_
  refine sBv (sV (As := [.int (iv 0)]) (rest := []) (k := 188) Cx (s_X1_sumAt l G S (k := 0) hI (by omega)) (c_X1_170 Cx rfl rfl (rmk_ok (by omega) (by decide))) hW (by decide) rfl rfl rfl hl.1 rfl (Nat.le_of_ble_eq_true rfl) dX1_isValue_2 ⟨Nat.le_of_ble_eq_true rfl, Nat.le_of_ble_eq_true rfl⟩) hL (fun u_1 H locs k_2 hW hL => ?_)
  obtain ⟨iu_1, fu_1, xu_1⟩ := k_2
  have F_3 := (Fr.rf : Fr S S pS8).trans fu_1
  refine lv_aload_n hx hb dX1_isValue_5 rfl (lv_at hl 0 rfl) ?_
  refine lv_iconst (v := iv 0) hx hb dX1_isValue_6 (by decide) ?_
  refine sBv (sV (As := [.int (iv 0)]) (rest := []) (k := 188) Cx (s_X1_scaleBound l G u_1 (k := 0) iu_1 (by omega)) (c_X1_174 Cx rfl rfl (rmk_ok (by omega) (by decide))) hW (by decide) rfl rfl rfl hl.1 rfl (Nat.le_of_ble_eq_true rfl) dX1_isValue_7 ⟨Nat.le_of_ble_eq_true rfl, Nat.le_of_ble_eq_true rfl⟩) hL (fun u_4 H locs k_5 hW hL => ?_)
  obtain ⟨iu_4, fu_4, xu_4⟩ := k_5
  have F_6 := F_3.trans (fu_4.to pS6_8)
  refine lv_aload_n hx hb dX1_isValue_10 rfl (lv_at hl 0 rfl) ?_
  refine g_X1_42 Cx hW (k := 188) (by decide) rfl (v := .ref (G.2.2.1 + 215)) (rf_188_6 iu_4) dX1_isValue_11 ?_
  refine lv_aload_n hx hb dX1_isValue_14 rfl (lv_at hl 0 rfl) ?_
  refine g_X1_51 Cx hW (k := 188) (by decide) rfl (v := .ref (G.2.2.1 + 221)) (rf_188_9 iu_4) dX1_isValue_15 ?_
  refine lv_iconst (v := iv 1) hx hb dX1_isValue_18 (by decide) ?_
  have q_7 : 0 ≤ u_4.1 221 1 ∧ u_4.1 221 1 ≤ 32 := iu_4.fi 221 1 0 (by decide) rfl
  have q_8 : 0 ≤ u_1.1 215 1 ∧ u_1.1 215 1 ≤ 32 := iu_1.fi 215 1 0 (by decide) rfl
  have lk_9 : u_4.1 215 1 = u_1.1 215 1 := (fu_4 215 rfl).1 1
  have q_10 : (-1) ≤ u_1.1 215 2 ∧ u_1.1 215 2 ≤ 1 := iu_1.fi 215 2 0 (by decide) rfl
  have lk_11 : u_4.1 215 2 = u_1.1 215 2 := (fu_4 215 rfl).1 2
  have q_12 : (-1) ≤ u_4.1 221 2 ∧ u_4.1 221 2 ≤ 1 := iu_4.fi 221 2 0 (by decide) rfl
  refine sBv (sV (As := [.ref (G.2.2.1 + 221), .int (iv 1)]) (rest := []) (k := 215) Cx (t_X0_add_p l G u_4 (o := 215) (a := 221) (n := 14) (t := 12) iu_4 rfl rfl (show (215 : Nat) ≠ 221 by decide) (by omega) (fun q => by have e : u_4.2.1 216 14 = u_1.2.1 216 14 := (fu_4 216 rfl).2.1 14; rw [e]; exact xu_1.2 (by omega))) (c_X1_166 Cx rfl rfl (rmk_ok (by omega) (by decide))) hW (by decide) rfl rfl rfl hl.1 rfl (Nat.le_of_ble_eq_true rfl) dX1_isValue_19 ⟨Nat.le_of_ble_eq_true rfl, Nat.le_of_ble_eq_true rfl⟩) hL (fun u_13 H locs k_14 hW hL => ?_)
  obtain ⟨iu_13, fu_13, xu_13⟩ := k_14
  have F_15 := F_6.trans (fu_13.to (pB_sub rfl rfl))
  refine lv_aload_n hx hb dX1_isValue_22 rfl (lv_at hl 0 rfl) ?_
  refine g_X1_51 Cx hW (k := 188) (by decide) rfl (v := .ref (G.2.2.1 + 221)) (rf_188_9 iu_13) dX1_isValue_23 ?_
  refine lv_aload_n hx hb dX1_isValue_26 rfl (lv_at hl 0 rfl) ?_
  refine g_X1_42 Cx hW (k := 188) (by decide) rfl (v := .ref (G.2.2.1 + 215)) (rf_188_6 iu_13) dX1_isValue_27 ?_
  refine lv_aload_n hx hb dX1_isValue_30 rfl (lv_at hl 0 rfl) ?_
  refine g_X1_36 Cx hW (k := 188) (by decide) rfl (v := .ref (G.2.2.1 + 211)) (rf_188_4 iu_13) dX1_isValue_31 ?_
  have q_16 : 0 ≤ u_13.1 215 1 ∧ u_13.1 215 1 ≤ 32 := iu_13.fi 215 1 0 (by decide) rfl
  have q_17 : 0 ≤ S.1 211 1 ∧ S.1 211 1 ≤ 32 := hI.fi 211 1 0 (by decide) rfl
  have lk_18 : u_13.1 211 1 = S.1 211 1 := ((fu_13 211 rfl).1 1).trans (((fu_4 211 rfl).1 1).trans ((fu_1 211 rfl).1 1))
  refine sBv (sV (As := [.ref (G.2.2.1 + 215), .ref (G.2.2.1 + 211)]) (rest := []) (k := 221) Cx (s_X0_product l G u_13 (o := 221) (a := 215) (b := 211) iu_13 rfl rfl rfl (show (221 : Nat) ≠ 215 by decide) (show (221 : Nat) ≠ 211 by decide)) (c_X1_163 Cx rfl rfl (rmk_ok (by omega) (by decide))) hW (by decide) rfl rfl rfl hl.1 rfl (Nat.le_of_ble_eq_true rfl) dX1_isValue_34 ⟨Nat.le_of_ble_eq_true rfl, Nat.le_of_ble_eq_true rfl⟩) hL (fun u_19 H locs k_20 hW hL => ?_)
  obtain ⟨iu_19, fu_19, xu_19⟩ := k_20
  have F_21 := F_15.trans (fu_19.to (pB_sub rfl rfl))
  refine lv_aload_n hx hb dX1_isValue_37 rfl (lv_at hl 0 rfl) ?_
  refine g_X1_48 Cx hW (k := 188) (by decide) rfl (v := .ref (G.2.2.1 + 219)) (rf_188_8 iu_19) dX1_isValue_38 ?_
  refine lv_aload_n hx hb dX1_isValue_41 rfl (lv_at hl 0 rfl) ?_
  refine g_X1_27 Cx hW (k := 188) (by decide) rfl (v := .ref (G.2.2.1 + 208)) (rf_188_2 iu_19) dX1_isValue_42 ?_
  refine lv_iconst (v := iv 0) hx hb dX1_isValue_45 (by decide) ?_
  refine sBv (sV (As := [.ref (G.2.2.1 + 208), .int (iv 0)]) (rest := []) (k := 219) Cx (s_X0_load l G u_19 (o := 219) (k := 208) (a := 0) (N := 104) iu_19 rfl ⟨by decide, rfl, by decide, rfl, rfl, rfl⟩ (by omega)) (c_X1_157 Cx rfl rfl (rmk_ok (by omega) (by decide))) hW (by decide) rfl rfl rfl hl.1 rfl (Nat.le_of_ble_eq_true rfl) dX1_isValue_46 ⟨Nat.le_of_ble_eq_true rfl, Nat.le_of_ble_eq_true rfl⟩) hL (fun u_22 H locs k_23 hW hL => ?_)
  obtain ⟨iu_22, fu_22, xu_22⟩ := k_23
  have F_24 := F_21.trans (fu_22.to (pB_sub rfl rfl))
  have yu_22 : u_22.1 219 1 ≤ 7 := xu_22.1
  refine lv_aload_n hx hb dX1_isValue_49 rfl (lv_at hl 0 rfl) ?_
  refine g_X1_45 Cx hW (k := 188) (by decide) rfl (v := .ref (G.2.2.1 + 217)) (rf_188_7 iu_22) dX1_isValue_50 ?_
  refine lv_aload_n hx hb dX1_isValue_53 rfl (lv_at hl 0 rfl) ?_
  refine g_X1_48 Cx hW (k := 188) (by decide) rfl (v := .ref (G.2.2.1 + 219)) (rf_188_8 iu_22) dX1_isValue_54 ?_
  refine lv_aload_n hx hb dX1_isValue_57 rfl (lv_at hl 0 rfl) ?_
  refine g_X1_32 Cx hW (k := 188) (by decide) rfl (v := .ref (G.2.2.1 + 209)) (rf_188_3 iu_22) dX1_isValue_58 ?_
  have q_25 : 0 ≤ u_22.1 219 1 ∧ u_22.1 219 1 ≤ 32 := iu_22.fi 219 1 0 (by decide) rfl
  have q_26 : 0 ≤ S.1 209 1 ∧ S.1 209 1 ≤ 32 := hI.fi 209 1 0 (by decide) rfl
  have lk_27 : u_22.1 209 1 = S.1 209 1 := ((fu_22 209 rfl).1 1).trans (((fu_19 209 rfl).1 1).trans (((fu_13 209 rfl).1 1).trans (((fu_4 209 rfl).1 1).trans ((fu_1 209 rfl).1 1))))
  refine sBv (sV (As := [.ref (G.2.2.1 + 219), .ref (G.2.2.1 + 209)]) (rest := []) (k := 217) Cx (s_X0_product l G u_22 (o := 217) (a := 219) (b := 209) iu_22 rfl rfl rfl (show (217 : Nat) ≠ 219 by decide) (show (217 : Nat) ≠ 209 by decide)) (c_X1_163 Cx rfl rfl (rmk_ok (by omega) (by decide))) hW (by decide) rfl rfl rfl hl.1 rfl (Nat.le_of_ble_eq_true rfl) dX1_isValue_61 ⟨Nat.le_of_ble_eq_true rfl, Nat.le_of_ble_eq_true rfl⟩) hL (fun u_28 H locs k_29 hW hL => ?_)
  obtain ⟨iu_28, fu_28, xu_28⟩ := k_29
  have F_30 := F_24.trans (fu_28.to (pB_sub rfl rfl))
  refine lv_aload_n hx hb dX1_isValue_64 rfl (lv_at hl 0 rfl) ?_
  refine g_X1_51 Cx hW (k := 188) (by decide) rfl (v := .ref (G.2.2.1 + 221)) (rf_188_9 iu_28) dX1_isValue_65 ?_
  refine lv_aload_n hx hb dX1_isValue_68 rfl (lv_at hl 0 rfl) ?_
  refine g_X1_45 Cx hW (k := 188) (by decide) rfl (v := .ref (G.2.2.1 + 217)) (rf_188_7 iu_28) dX1_isValue_69 ?_
  refine sBi (sV (As := [.ref (G.2.2.1 + 217)]) (rest := []) (k := 221) Cx (s_X0_compareWith l G u_28 (o := 221) (a := 217) iu_28 rfl rfl) (c_X1_177 Cx rfl rfl (rmk_ok (by omega) (by decide))) hW (by decide) rfl rfl rfl hl.1 rfl (Nat.le_of_ble_eq_true rfl) dX1_isValue_72 ⟨Nat.le_of_ble_eq_true rfl, Nat.le_of_ble_eq_true rfl⟩) hL (fun r_33 u_31 H locs k_32 hW hL => ?_)
  obtain ⟨eu_31, xu_31⟩ := k_32
  rw [eu_31] at hW
  refine r_if_ne (tgt := 82) hx hb ⟨(by omega), (by omega)⟩ dX1_isValue_75 (by decide) (fun c_34 => ?_) (fun c_34 => ?_)
  · refine lv_iconst (v := iv 0) hx hb dX1_isValue_82 (by decide) ?_
    exact sZret Cx hr hlk hW hL (by omega) ⟨iu_28, F_30, (by omega)⟩ dX1_isValue_83
  · refine lv_iconst (v := iv 1) hx hb dX1_isValue_78 (by decide) ?_
    refine lv_goto (tgt := 83) hx hb dX1_isValue_79 (by decide) ?_
    exact sZret Cx hr hlk hW hL (by omega) ⟨iu_28, F_30, (by omega)⟩ dX1_isValue_83

set_option maxRecDepth 100000 in
set_option maxHeartbeats 4000000 in
theorem s_X1_isPoint (l : Launch) (G : sG) (S : sS) {mw : Int} (hI : cX G S 0 0 0) (hmw : 0 ≤ mw ∧ mw ≤ 1) : Met l yX1_isPoint (.code yX1_isPoint cX1_isPoint 3 (some .boolean) :: tb) (rmk 5 0 0) (sPc G 294 S [.ref (G.2.2.1 + 188), .int (iv mw)]) (sQi G 294 (fun r u => cX G u 0 0 0 ∧ Fr S u pS12 ∧ (0 ≤ r ∧ r ≤ 1))) 0 0 (sF G) := by
  refine sEnter (by decide) (Nat.le_of_ble_eq_true rfl) ?_
  intro p e s m args below meth c Cx hr hlk hnm hW ls hl
  have Cx : sC G p m c cX1_isPoint 3 s args RX1 := Cx
  obtain ⟨hx, hb, hml, hown, hts⟩ := id Cx.1
  have hL : sL G [] := sL_nil
  have hl : lv_has ls 3 [(0, .ref (G.2.2.1 + 188)), (1, .int (iv mw))] := hl
  have hW0 := hW
  refine lv_aload_n hx hb dX1_isPoint_0 rfl (lv_at hl 0 rfl) ?_
  refine g_X1_39 Cx hW (k := 188) (by decide) rfl (v := .ref (G.2.2.1 + 213)) (rf_188_5 hI) dX1_isPoint_1 ?_
  refine lv_aload_n hx hb dX1_isPoint_4 rfl (lv_at hl 0 rfl) ?_
  refine g_X1_27 Cx hW (k := 188) (by decide) rfl (v := .ref (G.2.2.1 + 208)) (rf_188_2 hI) dX1_isPoint_5 ?_
  refine lv_iconst (v := iv 0) hx hb dX1_isPoint_8 (by decide) ?_
  refine sBv (sV (As := [.ref (G.2.2.1 + 208), .int (iv 0)]) (rest := []) (k := 213) Cx (s_X0_load l G S (o := 213) (k := 208) (a := 0) (N := 104) hI rfl ⟨by decide, rfl, by decide, rfl, rfl, rfl⟩ (by omega)) (c_X1_157 Cx rfl rfl (rmk_ok (by omega) (by decide))) hW (by decide) rfl rfl rfl hl.1 rfl (Nat.le_of_ble_eq_true rfl) dX1_isPoint_9 ⟨Nat.le_of_ble_eq_true rfl, Nat.le_of_ble_eq_true rfl⟩) hL (fun u_1 H locs k_2 hW hL => ?_)
  obtain ⟨iu_1, fu_1, xu_1⟩ := k_2
  have F_3 := (Fr.rf : Fr S S pS12).trans (fu_1.to (pB_sub rfl rfl))
  have yu_1 : u_1.1 213 1 ≤ 7 := xu_1.1
  refine lv_iconst (v := iv 1) hx hb dX1_isPoint_12 (by decide) ?_
  refine lv_istore_n (lv' := [(2, .int (iv 1)), (0, .ref (G.2.2.1 + 188)), (1, .int (iv mw))]) hx hb dX1_isPoint_13 rfl hl (by decide) rfl (fun ls hl => ?_)
  have loop_14 : ∀ (fuel : Nat) (S14 : sS) (j : Int) (H : Heap) (locs : List Loc) (ls : Array Slot), (13 - j).toNat < fuel → (cX G S14 0 0 0) → (Fr S S14 pS12) → (Fr u_1 S14 pS12) → (1 ≤ j ∧ j ≤ 13) → (S14.1 213 1 ≤ 7) → sW G 294 S14 H → sL G locs → lv_has ls 3 [(2, .int (iv j)), (0, .ref (G.2.2.1 + 188)), (1, .int (iv mw))] → W p l e (rmk 5 0 0) s m args below meth c H locs 0 0 (MQ below (sQi G 294 (fun r u => cX G u 0 0 0 ∧ Fr S u pS12 ∧ (0 ≤ r ∧ r ≤ 1))) args s 0 0 (sF G)) (F0 m 14 ls []) := by
    intro fuel
    induction fuel with
    | zero => intro S14 j H locs ls hmeas hI14 hFm14 hL14_ hj hq hW hL hl; exact absurd hmeas (Nat.not_lt_zero _)
    | succ fuel ih_14 =>
      intro S14 j H locs ls hmeas hI14 hFm14 hL14_ hj hq hW hL hl
      refine lv_iload_n hx hb dX1_isPoint_14 rfl (lv_at hl 0 rfl) ?_
      refine lv_aload_n hx hb dX1_isPoint_15 rfl (lv_at hl 1 rfl) ?_
      obtain ⟨o_4, mo_4, eo_4⟩ := hI.rm.2.2.2.1
      refine g_X1_69 Cx hW (k := 188) (by decide) rfl (v := .ref (G.2.2.1 + o_4)) ((((hL14_ 188 rfl).2.2.2 15).trans ((fu_1 188 rfl).2.2.2 15)).trans eo_4) dX1_isPoint_16 ?_
      have q_5 : 0 ≤ S14.1 o_4 2 ∧ S14.1 o_4 2 ≤ 12 := hI14.fi o_4 2 3 (mdl_k mo_4) mo_4.1
      refine g_X1_84 Cx hW (k := o_4) (mdl_l mo_4) mo_4.1 (v := S14.1 o_4 2) rfl dX1_isPoint_19 ?_
      refine r_icmp_gt (tgt := 104) hx hb ⟨(by omega), (by omega)⟩ ⟨(by omega), (by omega)⟩ dX1_isPoint_22 (by decide) (fun c_6 => ?_) (fun c_6 => ?_)
      · refine lv_iconst (v := iv 1) hx hb dX1_isPoint_104 (by decide) ?_
        refine lv_istore_n (lv' := [(2, .int (iv 1)), (0, .ref (G.2.2.1 + 188)), (1, .int (iv mw))]) hx hb dX1_isPoint_105 rfl hl (by decide) rfl (fun ls hl => ?_)
        have loop_106 : ∀ (fuel : Nat) (S106 : sS) (k : Int) (H : Heap) (locs : List Loc) (ls : Array Slot), (17 - k).toNat < fuel → (cX G S106 0 0 0) → (Fr S S106 pS12) → (Fr u_1 S106 pS12) → (Fr S14 S106 pS12) → (1 ≤ k ∧ k ≤ 17) → sW G 294 S106 H → sL G locs → lv_has ls 3 [(2, .int (iv k)), (0, .ref (G.2.2.1 + 188)), (1, .int (iv mw))] → W p l e (rmk 5 0 0) s m args below meth c H locs 0 0 (MQ below (sQi G 294 (fun r u => cX G u 0 0 0 ∧ Fr S u pS12 ∧ (0 ≤ r ∧ r ≤ 1))) args s 0 0 (sF G)) (F0 m 106 ls []) := by
          intro fuel
          induction fuel with
          | zero => intro S106 k H locs ls hmeas hI106 hFm106 hFL14106 hL106_ hk hW hL hl; exact absurd hmeas (Nat.not_lt_zero _)
          | succ fuel ih_106 =>
            intro S106 k H locs ls hmeas hI106 hFm106 hFL14106 hL106_ hk hW hL hl
            refine lv_iload_n hx hb dX1_isPoint_106 rfl (lv_at hl 0 rfl) ?_
            refine lv_aload_n hx hb dX1_isPoint_107 rfl (lv_at hl 1 rfl) ?_
            refine g_X1_69 Cx hW (k := 188) (by decide) rfl (v := .ref (G.2.2.1 + o_4)) ((((hL106_ 188 rfl).2.2.2 15).trans (((hL14_ 188 rfl).2.2.2 15).trans ((fu_1 188 rfl).2.2.2 15))).trans eo_4) dX1_isPoint_108 ?_
            have q_7 : 0 ≤ S106.1 o_4 3 ∧ S106.1 o_4 3 ≤ 16 := hI106.fi o_4 3 3 (mdl_k mo_4) mo_4.1
            refine g_X1_191 Cx hW (k := o_4) (mdl_l mo_4) mo_4.1 (v := S106.1 o_4 3) rfl dX1_isPoint_111 ?_
            refine r_icmp_gt (tgt := 149) hx hb ⟨(by omega), (by omega)⟩ ⟨(by omega), (by omega)⟩ dX1_isPoint_114 (by decide) (fun c_8 => ?_) (fun c_8 => ?_)
            · refine lv_iconst (v := iv 1) hx hb dX1_isPoint_149 (by decide) ?_
              exact sZret Cx hr hlk hW hL (by omega) ⟨hI106, hFm106, (by omega)⟩ dX1_isPoint_150
            · refine lv_aload_n hx hb dX1_isPoint_117 rfl (lv_at hl 1 rfl) ?_
              refine lv_iload_n hx hb dX1_isPoint_118 rfl (lv_at hl 0 rfl) ?_
              refine sBv (sV (As := [.int (iv k)]) (rest := []) (k := 188) Cx (s_X1_sumAt l G S106 (k := k) hI106 (by omega)) (c_X1_170 Cx rfl rfl (rmk_ok (by omega) (by decide))) hW (by decide) rfl rfl rfl hl.1 rfl (Nat.le_of_ble_eq_true rfl) dX1_isPoint_119 ⟨Nat.le_of_ble_eq_true rfl, Nat.le_of_ble_eq_true rfl⟩) hL (fun u_9 H locs k_10 hW hL => ?_)
              obtain ⟨iu_9, fu_9, xu_9⟩ := k_10
              have F_11 := hFm106.trans (fu_9.to pS8_12)
              have F_12 := hFL14106.trans (fu_9.to pS8_12)
              have F_13 := hL106_.trans (fu_9.to pS8_12)
              refine lv_aload_n hx hb dX1_isPoint_122 rfl (lv_at hl 1 rfl) ?_
              refine lv_iload_n hx hb dX1_isPoint_123 rfl (lv_at hl 0 rfl) ?_
              refine sBv (sV (As := [.int (iv k)]) (rest := []) (k := 188) Cx (s_X1_scaleBound l G u_9 (k := k) iu_9 (by omega)) (c_X1_174 Cx rfl rfl (rmk_ok (by omega) (by decide))) hW (by decide) rfl rfl rfl hl.1 rfl (Nat.le_of_ble_eq_true rfl) dX1_isPoint_124 ⟨Nat.le_of_ble_eq_true rfl, Nat.le_of_ble_eq_true rfl⟩) hL (fun u_14 H locs k_15 hW hL => ?_)
              obtain ⟨iu_14, fu_14, xu_14⟩ := k_15
              have F_16 := F_11.trans (fu_14.to (fun k h => pS8_12 k (pS6_8 k h)))
              have F_17 := F_12.trans (fu_14.to (fun k h => pS8_12 k (pS6_8 k h)))
              have F_18 := F_13.trans (fu_14.to (fun k h => pS8_12 k (pS6_8 k h)))
              refine lv_aload_n hx hb dX1_isPoint_127 rfl (lv_at hl 1 rfl) ?_
              refine g_X1_42 Cx hW (k := 188) (by decide) rfl (v := .ref (G.2.2.1 + 215)) (rf_188_6 iu_14) dX1_isPoint_128 ?_
              refine lv_aload_n hx hb dX1_isPoint_131 rfl (lv_at hl 1 rfl) ?_
              refine g_X1_51 Cx hW (k := 188) (by decide) rfl (v := .ref (G.2.2.1 + 221)) (rf_188_9 iu_14) dX1_isPoint_132 ?_
              refine sBi (sV (As := [.ref (G.2.2.1 + 221)]) (rest := []) (k := 215) Cx (s_X0_compareWith l G u_14 (o := 215) (a := 221) iu_14 rfl rfl) (c_X1_177 Cx rfl rfl (rmk_ok (by omega) (by decide))) hW (by decide) rfl rfl rfl hl.1 rfl (Nat.le_of_ble_eq_true rfl) dX1_isPoint_135 ⟨Nat.le_of_ble_eq_true rfl, Nat.le_of_ble_eq_true rfl⟩) hL (fun r_21 u_19 H locs k_20 hW hL => ?_)
              obtain ⟨eu_19, xu_19⟩ := k_20
              rw [eu_19] at hW
              refine r_if_le (tgt := 143) hx hb ⟨(by omega), (by omega)⟩ dX1_isPoint_138 (by decide) (fun c_22 => ?_) (fun c_22 => ?_)
              · refine lv_iinc (v := iv (k + 1)) (lv' := [(2, .int (iv (k + 1))), (0, .ref (G.2.2.1 + 188)), (1, .int (iv mw))]) hx hb dX1_isPoint_143 hl (k := 0) rfl ((Int32.ofInt_add _ _).symm) (by decide) rfl (fun ls hl => ?_)
                refine lv_goto (tgt := 106) hx hb dX1_isPoint_146 (by decide) ?_
                exact ih_106 u_14 (k + 1) _ _ _ (by omega) iu_14 F_16 F_17 F_18 (by omega) hW hL (lv_sub hl [0, 1, 2] rfl)
              · refine lv_iconst (v := iv 0) hx hb dX1_isPoint_141 (by decide) ?_
                exact sZret Cx hr hlk hW hL (by omega) ⟨iu_14, F_16, (by omega)⟩ dX1_isPoint_142
        exact loop_106 (_ + 1) S14 1 _ _ _ (Nat.lt_succ_self _) hI14 hFm14 hL14_ Fr.rf (by omega) hW hL (lv_sub hl [0, 1, 2] rfl)
      · refine lv_aload_n hx hb dX1_isPoint_25 rfl (lv_at hl 1 rfl) ?_
        refine g_X1_48 Cx hW (k := 188) (by decide) rfl (v := .ref (G.2.2.1 + 219)) (rf_188_8 hI14) dX1_isPoint_26 ?_
        refine lv_aload_n hx hb dX1_isPoint_29 rfl (lv_at hl 1 rfl) ?_
        refine g_X1_27 Cx hW (k := 188) (by decide) rfl (v := .ref (G.2.2.1 + 208)) (rf_188_2 hI14) dX1_isPoint_30 ?_
        refine lv_iload_n hx hb dX1_isPoint_33 rfl (lv_at hl 0 rfl) ?_
        refine lv_bipush (v := iv 8) hx hb dX1_isPoint_34 (by decide) ?_
        refine r_imul hx hb dX1_isPoint_36 ?_
        refine sBv (sV (As := [.ref (G.2.2.1 + 208), .int (iv (j * 8))]) (rest := []) (k := 219) Cx (s_X0_load l G S14 (o := 219) (k := 208) (a := j * 8) (N := 104) hI14 rfl ⟨by decide, rfl, by decide, rfl, rfl, rfl⟩ (by omega)) (c_X1_157 Cx rfl rfl (rmk_ok (by omega) (by decide))) hW (by decide) rfl rfl rfl hl.1 rfl (Nat.le_of_ble_eq_true rfl) dX1_isPoint_37 ⟨Nat.le_of_ble_eq_true rfl, Nat.le_of_ble_eq_true rfl⟩) hL (fun u_23 H locs k_24 hW hL => ?_)
        obtain ⟨iu_23, fu_23, xu_23⟩ := k_24
        have F_25 := hFm14.trans (fu_23.to (pB_sub rfl rfl))
        have F_26 := hL14_.trans (fu_23.to (pB_sub rfl rfl))
        have yu_23 : u_23.1 219 1 ≤ 7 := xu_23.1
        refine lv_aload_n hx hb dX1_isPoint_40 rfl (lv_at hl 1 rfl) ?_
        refine g_X1_48 Cx hW (k := 188) (by decide) rfl (v := .ref (G.2.2.1 + 219)) (rf_188_8 iu_23) dX1_isPoint_41 ?_
        have q_27 : (-1) ≤ u_23.1 219 2 ∧ u_23.1 219 2 ≤ 1 := iu_23.fi 219 2 0 (by decide) rfl
        refine g_X1_181 Cx hW (k := 219) (by decide) rfl (v := u_23.1 219 2) rfl dX1_isPoint_44 ?_
        refine r_if_ge (tgt := 52) hx hb ⟨(by omega), (by omega)⟩ dX1_isPoint_47 (by decide) (fun c_28 => ?_) (fun c_28 => ?_)
        · have join_98 : ∀ (S98 : sS)  (H : Heap) (locs : List Loc) (ls : Array Slot), (cX G S98 0 0 0) → (Fr S S98 pS12) → (Fr u_1 S98 pS12) → (Fr u_23 S98 pS12) → (S98.1 213 1 ≤ 7) → sW G 294 S98 H → sL G locs → lv_has ls 3 [(2, .int (iv j)), (0, .ref (G.2.2.1 + 188)), (1, .int (iv mw))] → W p l e (rmk 5 0 0) s m args below meth c H locs 0 0 (MQ below (sQi G 294 (fun r u => cX G u 0 0 0 ∧ Fr S u pS12 ∧ (0 ≤ r ∧ r ≤ 1))) args s 0 0 (sF G)) (F0 m 98 ls []) := by
            intro S98  H locs ls hI98 hFm98 hFL1498 hL98_ hq98 hW hL hl
            refine lv_iinc (v := iv (j + 1)) (lv' := [(2, .int (iv (j + 1))), (0, .ref (G.2.2.1 + 188)), (1, .int (iv mw))]) hx hb dX1_isPoint_98 hl (k := 0) rfl ((Int32.ofInt_add _ _).symm) (by decide) rfl (fun ls hl => ?_)
            refine lv_goto (tgt := 14) hx hb dX1_isPoint_101 (by decide) ?_
            have q_29 : 0 ≤ S98.1 213 1 ∧ S98.1 213 1 ≤ 32 := hI98.fi 213 1 0 (by decide) rfl
            exact ih_14 S98 (j + 1) _ _ _ (by omega) hI98 hFm98 hFL1498 (by omega) (by omega) hW hL (lv_sub hl [0, 1, 2] rfl)
          refine lv_iload_n hx hb dX1_isPoint_52 rfl (lv_at hl 2 rfl) ?_
          refine r_if_eq (tgt := 98) hx hb ⟨(by omega), (by omega)⟩ dX1_isPoint_53 (by decide) (fun c_30 => ?_) (fun c_30 => ?_)
          · have q_31 : 0 ≤ S14.1 213 1 ∧ S14.1 213 1 ≤ 32 := hI14.fi 213 1 0 (by decide) rfl
            have lk_32 : u_23.1 213 1 = S14.1 213 1 := (fu_23 213 rfl).1 1
            exact join_98 u_23  _ _ _ iu_23 F_25 F_26 (Fr.rf : Fr u_23 u_23 pS12) (by omega) hW hL (lv_sub hl [0, 1, 2] rfl)
          · refine lv_aload_n hx hb dX1_isPoint_56 rfl (lv_at hl 1 rfl) ?_
            refine g_X1_69 Cx hW (k := 188) (by decide) rfl (v := .ref (G.2.2.1 + o_4)) ((((fu_23 188 rfl).2.2.2 15).trans (((hL14_ 188 rfl).2.2.2 15).trans ((fu_1 188 rfl).2.2.2 15))).trans eo_4) dX1_isPoint_57 ?_
            refine lv_iload_n hx hb dX1_isPoint_60 rfl (lv_at hl 0 rfl) ?_
            have lk_33 : u_23.1 o_4 2 = S14.1 o_4 2 := (fu_23 o_4 (pB_no (tau_ne mo_4.1 (rfl : tau 219 = .inl 0) (fun h => by cases h)) (tau_ne mo_4.1 (rfl : tau 220 = .inr (.int, 32)) (fun h => by cases h)))).1 2
            refine sBi (sV (As := [.int (iv j)]) (rest := []) (k := o_4) Cx (s_X3_isWhole l G u_23 (o := o_4) (j := j) iu_23 mo_4 (by omega)) (c_X1_184 Cx rfl rfl (rmk_ok (by omega) (by decide))) hW (mdl_l mo_4) mo_4.1 rfl rfl hl.1 rfl (Nat.le_of_ble_eq_true rfl) dX1_isPoint_61 ⟨Nat.le_of_ble_eq_true rfl, Nat.le_of_ble_eq_true rfl⟩) hL (fun r_36 u_34 H locs k_35 hW hL => ?_)
            obtain ⟨eu_34, xu_34⟩ := k_35
            rw [eu_34] at hW
            refine r_if_eq (tgt := 98) hx hb ⟨(by omega), (by omega)⟩ dX1_isPoint_64 (by decide) (fun c_37 => ?_) (fun c_37 => ?_)
            · have q_38 : 0 ≤ S14.1 213 1 ∧ S14.1 213 1 ≤ 32 := hI14.fi 213 1 0 (by decide) rfl
              have lk_39 : u_23.1 213 1 = S14.1 213 1 := (fu_23 213 rfl).1 1
              exact join_98 u_23  _ _ _ iu_23 F_25 F_26 (Fr.rf : Fr u_23 u_23 pS12) (by omega) hW hL (lv_sub hl [0, 1, 2] rfl)
            · refine lv_aload_n hx hb dX1_isPoint_67 rfl (lv_at hl 1 rfl) ?_
              refine g_X1_48 Cx hW (k := 188) (by decide) rfl (v := .ref (G.2.2.1 + 219)) (rf_188_8 iu_23) dX1_isPoint_68 ?_
              refine lv_aload_n hx hb dX1_isPoint_71 rfl (lv_at hl 1 rfl) ?_
              refine g_X1_39 Cx hW (k := 188) (by decide) rfl (v := .ref (G.2.2.1 + 213)) (rf_188_5 iu_23) dX1_isPoint_72 ?_
              refine lv_aload_n hx hb dX1_isPoint_75 rfl (lv_at hl 1 rfl) ?_
              refine g_X1_45 Cx hW (k := 188) (by decide) rfl (v := .ref (G.2.2.1 + 217)) (rf_188_7 iu_23) dX1_isPoint_76 ?_
              refine lv_aload_n hx hb dX1_isPoint_79 rfl (lv_at hl 1 rfl) ?_
              refine g_X1_54 Cx hW (k := 188) (by decide) rfl (v := .ref (G.2.2.1 + 223)) (rf_188_10 iu_23) dX1_isPoint_80 ?_
              have q_40 : 0 ≤ u_23.1 219 1 ∧ u_23.1 219 1 ≤ 32 := iu_23.fi 219 1 0 (by decide) rfl
              have q_41 : 0 ≤ S14.1 213 1 ∧ S14.1 213 1 ≤ 32 := hI14.fi 213 1 0 (by decide) rfl
              have lk_42 : u_23.1 213 1 = S14.1 213 1 := (fu_23 213 rfl).1 1
              have q_43 : (-1) ≤ S14.1 213 2 ∧ S14.1 213 2 ≤ 1 := hI14.fi 213 2 0 (by decide) rfl
              have lk_44 : u_23.1 213 2 = S14.1 213 2 := (fu_23 213 rfl).1 2
              refine sBv (sV (As := [.ref (G.2.2.1 + 213), .ref (G.2.2.1 + 217), .ref (G.2.2.1 + 223)]) (rest := []) (k := 219) Cx (s_X0_divide l G u_23 (o := 219) (b := 213) (q := 217) (h := 223) (n := 7) iu_23 rfl rfl rfl rfl (show (219 : Nat) ≠ 213 by decide) (show (219 : Nat) ≠ 217 by decide) (show (219 : Nat) ≠ 223 by decide) (show (213 : Nat) ≠ 217 by decide) (show (213 : Nat) ≠ 223 by decide) (show (217 : Nat) ≠ 223 by decide) (by omega)) (c_X1_187 Cx rfl rfl (rmk_ok (by omega) (by decide))) hW (by decide) rfl rfl rfl hl.1 rfl (Nat.le_of_ble_eq_true rfl) dX1_isPoint_83 ⟨Nat.le_of_ble_eq_true rfl, Nat.le_of_ble_eq_true rfl⟩) hL (fun u_45 H locs k_46 hW hL => ?_)
              obtain ⟨iu_45, fu_45, xu_45⟩ := k_46
              have F_47 := F_25.trans (fu_45.to (pD_sub (pB_sub rfl rfl) (pB_sub rfl rfl) (pB_sub rfl rfl)))
              have F_48 := F_26.trans (fu_45.to (pD_sub (pB_sub rfl rfl) (pB_sub rfl rfl) (pB_sub rfl rfl)))
              have F_49 := (Fr.rf : Fr u_23 u_23 pS12).trans (fu_45.to (pD_sub (pB_sub rfl rfl) (pB_sub rfl rfl) (pB_sub rfl rfl)))
              refine lv_aload_n hx hb dX1_isPoint_86 rfl (lv_at hl 1 rfl) ?_
              refine g_X1_48 Cx hW (k := 188) (by decide) rfl (v := .ref (G.2.2.1 + 219)) (rf_188_8 iu_45) dX1_isPoint_87 ?_
              have q_50 : (-1) ≤ u_45.1 219 2 ∧ u_45.1 219 2 ≤ 1 := iu_45.fi 219 2 0 (by decide) rfl
              refine g_X1_181 Cx hW (k := 219) (by decide) rfl (v := u_45.1 219 2) rfl dX1_isPoint_90 ?_
              refine r_if_eq (tgt := 98) hx hb ⟨(by omega), (by omega)⟩ dX1_isPoint_93 (by decide) (fun c_51 => ?_) (fun c_51 => ?_)
              · have lk_52 : u_45.1 213 1 = S14.1 213 1 := ((fu_45 213 rfl).1 1).trans ((fu_23 213 rfl).1 1)
                exact join_98 u_45  _ _ _ iu_45 F_47 F_48 F_49 (by omega) hW hL (lv_sub hl [0, 1, 2] rfl)
              · refine lv_iconst (v := iv 0) hx hb dX1_isPoint_96 (by decide) ?_
                exact sZret Cx hr hlk hW hL (by omega) ⟨iu_45, F_47, (by omega)⟩ dX1_isPoint_97
        · refine lv_iconst (v := iv 0) hx hb dX1_isPoint_50 (by decide) ?_
          exact sZret Cx hr hlk hW hL (by omega) ⟨iu_23, F_25, (by omega)⟩ dX1_isPoint_51
  have q_53 : 0 ≤ u_1.1 213 1 ∧ u_1.1 213 1 ≤ 32 := iu_1.fi 213 1 0 (by decide) rfl
  exact loop_14 (_ + 1) u_1 1 _ _ _ (Nat.lt_succ_self _) iu_1 F_3 Fr.rf (by omega) (by omega) hW hL (lv_sub hl [0, 1, 2] rfl)

set_option maxRecDepth 100000 in
set_option maxHeartbeats 4000000 in
theorem s_X1_isAlong (l : Launch) (G : sG) (S : sS)  (hI : cX G S 0 0 0) : Met l yX1_isAlong (.code yX1_isAlong cX1_isAlong 2 (some .boolean) :: tb) (rmk 5 0 0) (sPc G 294 S [.ref (G.2.2.1 + 188)]) (sQi G 294 (fun r u => cX G u 0 0 0 ∧ Fr S u pS8 ∧ (0 ≤ r ∧ r ≤ 1))) 0 0 (sF G) := by
  refine sEnter (by decide) (Nat.le_of_ble_eq_true rfl) ?_
  intro p e s m args below meth c Cx hr hlk hnm hW ls hl
  have Cx : sC G p m c cX1_isAlong 2 s args RX1 := Cx
  obtain ⟨hx, hb, hml, hown, hts⟩ := id Cx.1
  have hL : sL G [] := sL_nil
  have hl : lv_has ls 2 [(0, .ref (G.2.2.1 + 188))] := hl
  have hW0 := hW
  refine lv_iconst (v := iv 1) hx hb dX1_isAlong_0 (by decide) ?_
  refine lv_istore_n (lv' := [(1, .int (iv 1)), (0, .ref (G.2.2.1 + 188))]) hx hb dX1_isAlong_1 rfl hl (by decide) rfl (fun ls hl => ?_)
  have loop_2 : ∀ (fuel : Nat) (S2 : sS) (j : Int) (H : Heap) (locs : List Loc) (ls : Array Slot), (13 - j).toNat < fuel → (cX G S2 0 0 0) → (Fr S S2 pS8) → (Fr S S2 pS8) → (1 ≤ j ∧ j ≤ 13) → sW G 294 S2 H → sL G locs → lv_has ls 2 [(1, .int (iv j)), (0, .ref (G.2.2.1 + 188))] → W p l e (rmk 5 0 0) s m args below meth c H locs 0 0 (MQ below (sQi G 294 (fun r u => cX G u 0 0 0 ∧ Fr S u pS8 ∧ (0 ≤ r ∧ r ≤ 1))) args s 0 0 (sF G)) (F0 m 2 ls []) := by
    intro fuel
    induction fuel with
    | zero => intro S2 j H locs ls hmeas hI2 hFm2 hL2_ hj hW hL hl; exact absurd hmeas (Nat.not_lt_zero _)
    | succ fuel ih_2 =>
      intro S2 j H locs ls hmeas hI2 hFm2 hL2_ hj hW hL hl
      refine lv_iload_n hx hb dX1_isAlong_2 rfl (lv_at hl 0 rfl) ?_
      refine lv_aload_n hx hb dX1_isAlong_3 rfl (lv_at hl 1 rfl) ?_
      obtain ⟨o_1, mo_1, eo_1⟩ := hI.rm.2.2.2.1
      refine g_X1_69 Cx hW (k := 188) (by decide) rfl (v := .ref (G.2.2.1 + o_1)) (((hL2_ 188 rfl).2.2.2 15).trans eo_1) dX1_isAlong_4 ?_
      have q_2 : 0 ≤ S2.1 o_1 2 ∧ S2.1 o_1 2 ≤ 12 := hI2.fi o_1 2 3 (mdl_k mo_1) mo_1.1
      refine g_X1_84 Cx hW (k := o_1) (mdl_l mo_1) mo_1.1 (v := S2.1 o_1 2) rfl dX1_isAlong_7 ?_
      refine r_icmp_gt (tgt := 46) hx hb ⟨(by omega), (by omega)⟩ ⟨(by omega), (by omega)⟩ dX1_isAlong_10 (by decide) (fun c_3 => ?_) (fun c_3 => ?_)
      · refine lv_iconst (v := iv 1) hx hb dX1_isAlong_46 (by decide) ?_
        refine lv_istore_n (lv' := [(1, .int (iv 1)), (0, .ref (G.2.2.1 + 188))]) hx hb dX1_isAlong_47 rfl hl (by decide) rfl (fun ls hl => ?_)
        have loop_48 : ∀ (fuel : Nat) (S48 : sS) (k : Int) (H : Heap) (locs : List Loc) (ls : Array Slot), (17 - k).toNat < fuel → (cX G S48 0 0 0) → (Fr S S48 pS8) → (Fr S S48 pS8) → (Fr S2 S48 pS8) → (1 ≤ k ∧ k ≤ 17) → sW G 294 S48 H → sL G locs → lv_has ls 2 [(1, .int (iv k)), (0, .ref (G.2.2.1 + 188))] → W p l e (rmk 5 0 0) s m args below meth c H locs 0 0 (MQ below (sQi G 294 (fun r u => cX G u 0 0 0 ∧ Fr S u pS8 ∧ (0 ≤ r ∧ r ≤ 1))) args s 0 0 (sF G)) (F0 m 48 ls []) := by
          intro fuel
          induction fuel with
          | zero => intro S48 k H locs ls hmeas hI48 hFm48 hFL248 hL48_ hk hW hL hl; exact absurd hmeas (Nat.not_lt_zero _)
          | succ fuel ih_48 =>
            intro S48 k H locs ls hmeas hI48 hFm48 hFL248 hL48_ hk hW hL hl
            refine lv_iload_n hx hb dX1_isAlong_48 rfl (lv_at hl 0 rfl) ?_
            refine lv_aload_n hx hb dX1_isAlong_49 rfl (lv_at hl 1 rfl) ?_
            refine g_X1_69 Cx hW (k := 188) (by decide) rfl (v := .ref (G.2.2.1 + o_1)) ((((hL48_ 188 rfl).2.2.2 15).trans ((hL2_ 188 rfl).2.2.2 15)).trans eo_1) dX1_isAlong_50 ?_
            have q_4 : 0 ≤ S48.1 o_1 3 ∧ S48.1 o_1 3 ≤ 16 := hI48.fi o_1 3 3 (mdl_k mo_1) mo_1.1
            refine g_X1_191 Cx hW (k := o_1) (mdl_l mo_1) mo_1.1 (v := S48.1 o_1 3) rfl dX1_isAlong_53 ?_
            refine r_icmp_gt (tgt := 82) hx hb ⟨(by omega), (by omega)⟩ ⟨(by omega), (by omega)⟩ dX1_isAlong_56 (by decide) (fun c_5 => ?_) (fun c_5 => ?_)
            · refine lv_aload_n hx hb dX1_isAlong_82 rfl (lv_at hl 1 rfl) ?_
              refine lv_iconst (v := iv 0) hx hb dX1_isAlong_83 (by decide) ?_
              refine sBv (sV (As := [.int (iv 0)]) (rest := []) (k := 188) Cx (s_X1_sumAt l G S48 (k := 0) hI48 (by omega)) (c_X1_170 Cx rfl rfl (rmk_ok (by omega) (by decide))) hW (by decide) rfl rfl rfl hl.1 rfl (Nat.le_of_ble_eq_true rfl) dX1_isAlong_84 ⟨Nat.le_of_ble_eq_true rfl, Nat.le_of_ble_eq_true rfl⟩) hL (fun u_6 H locs k_7 hW hL => ?_)
              obtain ⟨iu_6, fu_6, xu_6⟩ := k_7
              have F_8 := hFm48.trans fu_6
              have F_9 := hFL248.trans fu_6
              have F_10 := hL48_.trans fu_6
              refine lv_aload_n hx hb dX1_isAlong_87 rfl (lv_at hl 1 rfl) ?_
              refine g_X1_42 Cx hW (k := 188) (by decide) rfl (v := .ref (G.2.2.1 + 215)) (rf_188_6 iu_6) dX1_isAlong_88 ?_
              have q_11 : (-1) ≤ u_6.1 215 2 ∧ u_6.1 215 2 ≤ 1 := iu_6.fi 215 2 0 (by decide) rfl
              refine g_X1_181 Cx hW (k := 215) (by decide) rfl (v := u_6.1 215 2) rfl dX1_isAlong_91 ?_
              refine r_if_le (tgt := 101) hx hb ⟨(by omega), (by omega)⟩ dX1_isAlong_94 (by decide) (fun c_12 => ?_) (fun c_12 => ?_)
              · refine lv_iconst (v := iv 0) hx hb dX1_isAlong_101 (by decide) ?_
                exact sZret Cx hr hlk hW hL (by omega) ⟨iu_6, F_8, (by omega)⟩ dX1_isAlong_102
              · refine lv_iconst (v := iv 1) hx hb dX1_isAlong_97 (by decide) ?_
                refine lv_goto (tgt := 102) hx hb dX1_isAlong_98 (by decide) ?_
                exact sZret Cx hr hlk hW hL (by omega) ⟨iu_6, F_8, (by omega)⟩ dX1_isAlong_102
            · refine lv_aload_n hx hb dX1_isAlong_59 rfl (lv_at hl 1 rfl) ?_
              refine lv_iload_n hx hb dX1_isAlong_60 rfl (lv_at hl 0 rfl) ?_
              refine sBv (sV (As := [.int (iv k)]) (rest := []) (k := 188) Cx (s_X1_sumAt l G S48 (k := k) hI48 (by omega)) (c_X1_170 Cx rfl rfl (rmk_ok (by omega) (by decide))) hW (by decide) rfl rfl rfl hl.1 rfl (Nat.le_of_ble_eq_true rfl) dX1_isAlong_61 ⟨Nat.le_of_ble_eq_true rfl, Nat.le_of_ble_eq_true rfl⟩) hL (fun u_13 H locs k_14 hW hL => ?_)
              obtain ⟨iu_13, fu_13, xu_13⟩ := k_14
              have F_15 := hFm48.trans fu_13
              have F_16 := hFL248.trans fu_13
              have F_17 := hL48_.trans fu_13
              refine lv_aload_n hx hb dX1_isAlong_64 rfl (lv_at hl 1 rfl) ?_
              refine g_X1_42 Cx hW (k := 188) (by decide) rfl (v := .ref (G.2.2.1 + 215)) (rf_188_6 iu_13) dX1_isAlong_65 ?_
              have q_18 : (-1) ≤ u_13.1 215 2 ∧ u_13.1 215 2 ≤ 1 := iu_13.fi 215 2 0 (by decide) rfl
              refine g_X1_181 Cx hW (k := 215) (by decide) rfl (v := u_13.1 215 2) rfl dX1_isAlong_68 ?_
              refine r_if_le (tgt := 76) hx hb ⟨(by omega), (by omega)⟩ dX1_isAlong_71 (by decide) (fun c_19 => ?_) (fun c_19 => ?_)
              · refine lv_iinc (v := iv (k + 1)) (lv' := [(1, .int (iv (k + 1))), (0, .ref (G.2.2.1 + 188))]) hx hb dX1_isAlong_76 hl (k := 0) rfl ((Int32.ofInt_add _ _).symm) (by decide) rfl (fun ls hl => ?_)
                refine lv_goto (tgt := 48) hx hb dX1_isAlong_79 (by decide) ?_
                exact ih_48 u_13 (k + 1) _ _ _ (by omega) iu_13 F_15 F_16 F_17 (by omega) hW hL (lv_sub hl [0, 1] rfl)
              · refine lv_iconst (v := iv 0) hx hb dX1_isAlong_74 (by decide) ?_
                exact sZret Cx hr hlk hW hL (by omega) ⟨iu_13, F_15, (by omega)⟩ dX1_isAlong_75
        exact loop_48 (_ + 1) S2 1 _ _ _ (Nat.lt_succ_self _) hI2 hFm2 hL2_ Fr.rf (by omega) hW hL (lv_sub hl [0, 1] rfl)
      · refine lv_aload_n hx hb dX1_isAlong_13 rfl (lv_at hl 1 rfl) ?_
        refine g_X1_48 Cx hW (k := 188) (by decide) rfl (v := .ref (G.2.2.1 + 219)) (rf_188_8 hI2) dX1_isAlong_14 ?_
        refine lv_aload_n hx hb dX1_isAlong_17 rfl (lv_at hl 1 rfl) ?_
        refine g_X1_27 Cx hW (k := 188) (by decide) rfl (v := .ref (G.2.2.1 + 208)) (rf_188_2 hI2) dX1_isAlong_18 ?_
        refine lv_iload_n hx hb dX1_isAlong_21 rfl (lv_at hl 0 rfl) ?_
        refine lv_bipush (v := iv 8) hx hb dX1_isAlong_22 (by decide) ?_
        refine r_imul hx hb dX1_isAlong_24 ?_
        refine sBv (sV (As := [.ref (G.2.2.1 + 208), .int (iv (j * 8))]) (rest := []) (k := 219) Cx (s_X0_load l G S2 (o := 219) (k := 208) (a := j * 8) (N := 104) hI2 rfl ⟨by decide, rfl, by decide, rfl, rfl, rfl⟩ (by omega)) (c_X1_157 Cx rfl rfl (rmk_ok (by omega) (by decide))) hW (by decide) rfl rfl rfl hl.1 rfl (Nat.le_of_ble_eq_true rfl) dX1_isAlong_25 ⟨Nat.le_of_ble_eq_true rfl, Nat.le_of_ble_eq_true rfl⟩) hL (fun u_20 H locs k_21 hW hL => ?_)
        obtain ⟨iu_20, fu_20, xu_20⟩ := k_21
        have F_22 := hFm2.trans (fu_20.to (pB_sub rfl rfl))
        have F_23 := hL2_.trans (fu_20.to (pB_sub rfl rfl))
        have yu_20 : u_20.1 219 1 ≤ 7 := xu_20.1
        refine lv_aload_n hx hb dX1_isAlong_28 rfl (lv_at hl 1 rfl) ?_
        refine g_X1_48 Cx hW (k := 188) (by decide) rfl (v := .ref (G.2.2.1 + 219)) (rf_188_8 iu_20) dX1_isAlong_29 ?_
        have q_24 : (-1) ≤ u_20.1 219 2 ∧ u_20.1 219 2 ≤ 1 := iu_20.fi 219 2 0 (by decide) rfl
        refine g_X1_181 Cx hW (k := 219) (by decide) rfl (v := u_20.1 219 2) rfl dX1_isAlong_32 ?_
        refine r_if_ge (tgt := 40) hx hb ⟨(by omega), (by omega)⟩ dX1_isAlong_35 (by decide) (fun c_25 => ?_) (fun c_25 => ?_)
        · refine lv_iinc (v := iv (j + 1)) (lv' := [(1, .int (iv (j + 1))), (0, .ref (G.2.2.1 + 188))]) hx hb dX1_isAlong_40 hl (k := 0) rfl ((Int32.ofInt_add _ _).symm) (by decide) rfl (fun ls hl => ?_)
          refine lv_goto (tgt := 2) hx hb dX1_isAlong_43 (by decide) ?_
          exact ih_2 u_20 (j + 1) _ _ _ (by omega) iu_20 F_22 F_23 (by omega) hW hL (lv_sub hl [0, 1] rfl)
        · refine lv_iconst (v := iv 0) hx hb dX1_isAlong_38 (by decide) ?_
          exact sZret Cx hr hlk hW hL (by omega) ⟨iu_20, F_22, (by omega)⟩ dX1_isAlong_39
  exact loop_2 (_ + 1) S 1 _ _ _ (Nat.lt_succ_self _) hI (Fr.rf : Fr S S pS8) Fr.rf (by omega) hW hL (lv_sub hl [0, 1] rfl)

set_option maxRecDepth 100000 in
set_option maxHeartbeats 4000000 in
theorem s_X1_takePairs (l : Launch) (G : sG) (S : sS)  (hI : cX G S 0 0 0) (hCR : CR G S) (hat : S.1 189 3 ≤ 999900000) : Met l yX1_takePairs (.code yX1_takePairs cX1_takePairs 4 (some .boolean) :: tb) (rmk 4 0 0) (sPc G 294 S [.ref (G.2.2.1 + 188)]) (sQi G 294 (fun r u => cX G u 0 0 0 ∧ Fr S u pTq ∧ (CR G u ∧ u.1 189 3 ≤ S.1 189 3 + 90010 ∧ 0 ≤ r ∧ r ≤ 1))) 0 0 (sF G) := by
  refine sEnter (by decide) (Nat.le_of_ble_eq_true rfl) ?_
  intro p e s m args below meth c Cx hr hlk hnm hW ls hl
  have Cx : sC G p m c cX1_takePairs 4 s args RX1 := Cx
  obtain ⟨hx, hb, hml, hown, hts⟩ := id Cx.1
  have hL : sL G [] := sL_nil
  have hl : lv_has ls 4 [(0, .ref (G.2.2.1 + 188))] := hl
  have hW0 := hW
  have hat0 : 0 ≤ S.1 189 3 ∧ S.1 189 3 ≤ 1000000000 := hI.fi 189 3 4 (by decide) rfl
  refine lv_aload_n hx hb dX1_takePairs_0 rfl (lv_at hl 0 rfl) ?_
  refine g_X1_21 Cx hW (k := 188) (by decide) rfl (v := .ref (G.2.2.1 + 193)) (rf_188_1 hI) dX1_takePairs_1 ?_
  refine sBv (sV (As := []) (rest := []) (k := 193) Cx (s_X6_clearFactors_193 l G S  hI) (c_X1_235 Cx rfl rfl (rmk_ok (by omega) (by decide))) hW (by decide) rfl rfl rfl hl.1 rfl (Nat.le_of_ble_eq_true rfl) dX1_takePairs_4 ⟨Nat.le_of_ble_eq_true rfl, Nat.le_of_ble_eq_true rfl⟩) hL (fun u_1 H locs k_2 hW hL => ?_)
  obtain ⟨iu_1, fu_1⟩ := k_2
  have F_3 := (Fr.rf : Fr S S pTq).trans (fu_1.to (p1_sub rfl))
  have cr_4 : CR G u_1 := hCR.fr fu_1 rfl rfl rfl rfl
  refine lv_iconst (v := iv 0) hx hb dX1_takePairs_7 (by decide) ?_
  refine lv_istore_n (lv' := [(1, .int (iv 0)), (0, .ref (G.2.2.1 + 188))]) hx hb dX1_takePairs_8 rfl hl (by decide) rfl (fun ls hl => ?_)
  refine lv_iconst (v := iv 0) hx hb dX1_takePairs_9 (by decide) ?_
  refine lv_istore_n (lv' := [(2, .int (iv 0)), (1, .int (iv 0)), (0, .ref (G.2.2.1 + 188))]) hx hb dX1_takePairs_10 rfl hl (by decide) rfl (fun ls hl => ?_)
  have loop_11 : ∀ (fuel : Nat) (S11 : sS) (i : Int) (la : Int) (H : Heap) (locs : List Loc) (ls : Array Slot), (30001 - i).toNat < fuel → (cX G S11 0 0 0) → (Fr S S11 pTq) → (Fr u_1 S11 pTq) → (0 ≤ i ∧ i ≤ 30001) → (0 ≤ la ∧ la ≤ 40) → (S11.1 189 3 ≤ S.1 189 3 + 3 * i) → (CR G S11) → sW G 294 S11 H → sL G locs → lv_has ls 4 [(2, .int (iv i)), (1, .int (iv la)), (0, .ref (G.2.2.1 + 188))] → W p l e (rmk 4 0 0) s m args below meth c H locs 0 0 (MQ below (sQi G 294 (fun r u => cX G u 0 0 0 ∧ Fr S u pTq ∧ (CR G u ∧ u.1 189 3 ≤ S.1 189 3 + 90010 ∧ 0 ≤ r ∧ r ≤ 1))) args s 0 0 (sF G)) (F0 m 11 ls []) := by
    intro fuel
    induction fuel with
    | zero => intro S11 i la H locs ls hmeas hI11 hFm11 hL11_ hi hla ha11 hCR11 hW hL hl; exact absurd hmeas (Nat.not_lt_zero _)
    | succ fuel ih_11 =>
      intro S11 i la H locs ls hmeas hI11 hFm11 hL11_ hi hla ha11 hCR11 hW hL hl
      refine lv_iload_n hx hb dX1_takePairs_11 rfl (lv_at hl 0 rfl) ?_
      refine lv_sipush (v := iv 30000) hx hb dX1_takePairs_12 (by decide) ?_
      refine r_icmp_gt (tgt := 103) hx hb ⟨(by omega), (by omega)⟩ ⟨(by omega), (by omega)⟩ dX1_takePairs_15 (by decide) (fun c_5 => ?_) (fun c_5 => ?_)
      · refine lv_aload_n hx hb dX1_takePairs_103 rfl (lv_at hl 2 rfl) ?_
        refine g_X1_12 Cx hW (k := 188) (by decide) rfl (v := .ref (G.2.2.1 + 189)) (rf_188_0 hI11) dX1_takePairs_104 ?_
        have q_6 : 0 ≤ S11.1 189 3 ∧ S11.1 189 3 ≤ 1000000000 := hI11.fi 189 3 4 (by decide) rfl
        refine sBv (sV (As := []) (rest := []) (k := 189) Cx (s_X4_advance l G S11  hI11 (by omega)) (c_X1_119 Cx rfl rfl (rmk_ok (by omega) (by decide))) hW (by decide) rfl rfl rfl hl.1 rfl (Nat.le_of_ble_eq_true rfl) dX1_takePairs_107 ⟨Nat.le_of_ble_eq_true rfl, Nat.le_of_ble_eq_true rfl⟩) hL (fun u_7 H locs k_8 hW hL => ?_)
        obtain ⟨iu_7, fu_7, xu_7⟩ := k_8
        have F_9 := hFm11.trans (fu_7.to (p1_sub rfl))
        have F_10 := hL11_.trans (fu_7.to (p1_sub rfl))
        have at_u_7 : u_7.1 189 3 = S11.1 189 3 + 1 := by rw [xu_7]; exact uF_on
        have cr_11 : CR G u_7 := by rw [xu_7]; exact hCR11.F (by decide)
        refine lv_iconst (v := iv 1) hx hb dX1_takePairs_110 (by decide) ?_
        have q_12 : 0 ≤ u_7.1 189 3 ∧ u_7.1 189 3 ≤ 1000000000 := iu_7.fi 189 3 4 (by decide) rfl
        exact sZret Cx hr hlk hW hL (by omega) ⟨iu_7, F_9, ⟨cr_11, (by omega), (by omega)⟩⟩ dX1_takePairs_111
      · refine lv_aload_n hx hb dX1_takePairs_18 rfl (lv_at hl 2 rfl) ?_
        refine g_X1_12 Cx hW (k := 188) (by decide) rfl (v := .ref (G.2.2.1 + 189)) (rf_188_0 hI11) dX1_takePairs_19 ?_
        have q_13 : 0 ≤ S11.1 189 3 ∧ S11.1 189 3 ≤ 1000000000 := hI11.fi 189 3 4 (by decide) rfl
        have q_14 : 0 ≤ S11.1 189 2 ∧ S11.1 189 2 ≤ 30001 := hI11.fi 189 2 4 (by decide) rfl
        refine sBi (sV (As := []) (rest := []) (k := 189) Cx (s_X4_kind l G S11  hI11) (c_X1_109 Cx rfl rfl (rmk_ok (by omega) (by decide))) hW (by decide) rfl rfl rfl hl.1 rfl (Nat.le_of_ble_eq_true rfl) dX1_takePairs_22 ⟨Nat.le_of_ble_eq_true rfl, Nat.le_of_ble_eq_true rfl⟩) hL (fun r_17 u_15 H locs k_16 hW hL => ?_)
        obtain ⟨eu_15, xu_15⟩ := k_16
        rw [eu_15] at hW
        refine lv_iconst (v := iv 2) hx hb dX1_takePairs_25 (by decide) ?_
        refine r_icmp_ne (tgt := 103) hx hb ⟨(by omega), (by omega)⟩ ⟨(by omega), (by omega)⟩ dX1_takePairs_26 (by decide) (fun c_18 => ?_) (fun c_18 => ?_)
        · refine lv_aload_n hx hb dX1_takePairs_103 rfl (lv_at hl 2 rfl) ?_
          refine g_X1_12 Cx hW (k := 188) (by decide) rfl (v := .ref (G.2.2.1 + 189)) (rf_188_0 hI11) dX1_takePairs_104 ?_
          refine sBv (sV (As := []) (rest := []) (k := 189) Cx (s_X4_advance l G S11  hI11 (by omega)) (c_X1_119 Cx rfl rfl (rmk_ok (by omega) (by decide))) hW (by decide) rfl rfl rfl hl.1 rfl (Nat.le_of_ble_eq_true rfl) dX1_takePairs_107 ⟨Nat.le_of_ble_eq_true rfl, Nat.le_of_ble_eq_true rfl⟩) hL (fun u_19 H locs k_20 hW hL => ?_)
          obtain ⟨iu_19, fu_19, xu_19⟩ := k_20
          have F_21 := hFm11.trans (fu_19.to (p1_sub rfl))
          have F_22 := hL11_.trans (fu_19.to (p1_sub rfl))
          have at_u_19 : u_19.1 189 3 = S11.1 189 3 + 1 := by rw [xu_19]; exact uF_on
          have cr_23 : CR G u_19 := by rw [xu_19]; exact hCR11.F (by decide)
          refine lv_iconst (v := iv 1) hx hb dX1_takePairs_110 (by decide) ?_
          have q_24 : 0 ≤ u_19.1 189 3 ∧ u_19.1 189 3 ≤ 1000000000 := iu_19.fi 189 3 4 (by decide) rfl
          exact sZret Cx hr hlk hW hL (by omega) ⟨iu_19, F_21, ⟨cr_23, (by omega), (by omega)⟩⟩ dX1_takePairs_111
        · refine lv_aload_n hx hb dX1_takePairs_29 rfl (lv_at hl 2 rfl) ?_
          refine g_X1_12 Cx hW (k := 188) (by decide) rfl (v := .ref (G.2.2.1 + 189)) (rf_188_0 hI11) dX1_takePairs_30 ?_
          refine sBi (sV (As := []) (rest := []) (k := 189) Cx (s_X4_takeCount l G S11  hI11 hCR11 (by omega)) (c_X1_203 Cx rfl rfl (rmk_ok (by omega) (by decide))) hW (by decide) rfl rfl rfl hl.1 rfl (Nat.le_of_ble_eq_true rfl) dX1_takePairs_33 ⟨Nat.le_of_ble_eq_true rfl, Nat.le_of_ble_eq_true rfl⟩) hL (fun r_27 u_25 H locs k_26 hW hL => ?_)
          obtain ⟨iu_25, fu_25, xu_25⟩ := k_26
          have F_28 := hFm11.trans (fu_25.to (p1_sub rfl))
          have F_29 := hL11_.trans (fu_25.to (p1_sub rfl))
          have cr_30 : CR G u_25 := xu_25.1
          refine lv_istore_n (lv' := [(3, .int (iv r_27)), (2, .int (iv i)), (1, .int (iv la)), (0, .ref (G.2.2.1 + 188))]) hx hb dX1_takePairs_36 rfl hl (by decide) rfl (fun ls hl => ?_)
          refine lv_aload_n hx hb dX1_takePairs_37 rfl (lv_at hl 3 rfl) ?_
          refine g_X1_12 Cx hW (k := 188) (by decide) rfl (v := .ref (G.2.2.1 + 189)) (rf_188_0 iu_25) dX1_takePairs_38 ?_
          have q_31 : 0 ≤ u_25.1 189 3 ∧ u_25.1 189 3 ≤ 1000000000 := iu_25.fi 189 3 4 (by decide) rfl
          refine sBv (sV (As := []) (rest := []) (k := 189) Cx (s_X4_advance l G u_25  iu_25 (by omega)) (c_X1_119 Cx rfl rfl (rmk_ok (by omega) (by decide))) hW (by decide) rfl rfl rfl hl.1 rfl (Nat.le_of_ble_eq_true rfl) dX1_takePairs_41 ⟨Nat.le_of_ble_eq_true rfl, Nat.le_of_ble_eq_true rfl⟩) hL (fun u_32 H locs k_33 hW hL => ?_)
          obtain ⟨iu_32, fu_32, xu_32⟩ := k_33
          have F_34 := F_28.trans (fu_32.to (p1_sub rfl))
          have F_35 := F_29.trans (fu_32.to (p1_sub rfl))
          have at_u_32 : u_32.1 189 3 = u_25.1 189 3 + 1 := by rw [xu_32]; exact uF_on
          have cr_36 : CR G u_32 := by rw [xu_32]; exact cr_30.F (by decide)
          refine lv_aload_n hx hb dX1_takePairs_44 rfl (lv_at hl 3 rfl) ?_
          refine g_X1_12 Cx hW (k := 188) (by decide) rfl (v := .ref (G.2.2.1 + 189)) (rf_188_0 iu_32) dX1_takePairs_45 ?_
          refine lv_aload_n hx hb dX1_takePairs_48 rfl (lv_at hl 3 rfl) ?_
          refine g_X1_48 Cx hW (k := 188) (by decide) rfl (v := .ref (G.2.2.1 + 219)) (rf_188_8 iu_32) dX1_takePairs_49 ?_
          have q_37 : 0 ≤ u_32.1 189 3 ∧ u_32.1 189 3 ≤ 1000000000 := iu_32.fi 189 3 4 (by decide) rfl
          refine sBv (sV (As := [.ref (G.2.2.1 + 219)]) (rest := []) (k := 189) Cx (s_X4_takeNumber_219 l G u_32  iu_32 cr_36 (by omega)) (c_X1_126 Cx rfl rfl (rmk_ok (by omega) (by decide))) hW (by decide) rfl rfl rfl hl.1 rfl (Nat.le_of_ble_eq_true rfl) dX1_takePairs_52 ⟨Nat.le_of_ble_eq_true rfl, Nat.le_of_ble_eq_true rfl⟩) hL (fun u_38 H locs k_39 hW hL => ?_)
          obtain ⟨iu_38, fu_38, xu_38⟩ := k_39
          have F_40 := F_34.trans (fu_38.to (pRg_sub rfl rfl rfl))
          have F_41 := F_35.trans (fu_38.to (pRg_sub rfl rfl rfl))
          have cr_42 : CR G u_38 := xu_38.1
          refine lv_iload_n hx hb dX1_takePairs_55 rfl (lv_at hl 0 rfl) ?_
          refine lv_iload_n hx hb dX1_takePairs_56 rfl (lv_at hl 2 rfl) ?_
          refine r_icmp_le (tgt := 81) hx hb ⟨(by omega), (by omega)⟩ ⟨(by omega), (by omega)⟩ dX1_takePairs_57 (by decide) (fun c_43 => ?_) (fun c_43 => ?_)
          · refine lv_iconst (v := iv 0) hx hb dX1_takePairs_81 (by decide) ?_
            have q_44 : 0 ≤ u_38.1 189 3 ∧ u_38.1 189 3 ≤ 1000000000 := iu_38.fi 189 3 4 (by decide) rfl
            exact sZret Cx hr hlk hW hL (by omega) ⟨iu_38, F_40, ⟨cr_42, (by omega), (by omega)⟩⟩ dX1_takePairs_82
          · refine lv_iload_n hx hb dX1_takePairs_60 rfl (lv_at hl 0 rfl) ?_
            refine lv_aload_n hx hb dX1_takePairs_61 rfl (lv_at hl 3 rfl) ?_
            refine g_X1_21 Cx hW (k := 188) (by decide) rfl (v := .ref (G.2.2.1 + 193)) (rf_188_1 iu_38) dX1_takePairs_62 ?_
            have q_45 : 0 ≤ S.1 193 9 ∧ S.1 193 9 ≤ 40 := hI.fi 193 9 6 (by decide) rfl
            have lk_46 : u_38.1 193 9 = S.1 193 9 := ((fu_38 193 rfl).1 9).trans (((fu_32 193 rfl).1 9).trans (((fu_25 193 rfl).1 9).trans (((hL11_ 193 rfl).1 9).trans ((fu_1 193 rfl).1 9))))
            refine sBi (sV (As := []) (rest := [.int (iv r_27)]) (k := 193) Cx (s_X6_count_193 l G u_38  iu_38) (c_X1_209 Cx rfl rfl (rmk_ok (by omega) (by decide))) hW (by decide) rfl rfl rfl hl.1 rfl (Nat.le_of_ble_eq_true rfl) dX1_takePairs_65 ⟨Nat.le_of_ble_eq_true rfl, Nat.le_of_ble_eq_true rfl⟩) hL (fun r_49 u_47 H locs k_48 hW hL => ?_)
            obtain ⟨eu_47, xu_47⟩ := k_48
            rw [eu_47] at hW
            refine r_icmp_gt (tgt := 81) hx hb ⟨(by omega), (by omega)⟩ ⟨(by omega), (by omega)⟩ dX1_takePairs_68 (by decide) (fun c_50 => ?_) (fun c_50 => ?_)
            · refine lv_iconst (v := iv 0) hx hb dX1_takePairs_81 (by decide) ?_
              have q_51 : 0 ≤ u_38.1 189 3 ∧ u_38.1 189 3 ≤ 1000000000 := iu_38.fi 189 3 4 (by decide) rfl
              exact sZret Cx hr hlk hW hL (by omega) ⟨iu_38, F_40, ⟨cr_42, (by omega), (by omega)⟩⟩ dX1_takePairs_82
            · refine lv_aload_n hx hb dX1_takePairs_71 rfl (lv_at hl 3 rfl) ?_
              refine g_X1_48 Cx hW (k := 188) (by decide) rfl (v := .ref (G.2.2.1 + 219)) (rf_188_8 iu_38) dX1_takePairs_72 ?_
              have q_52 : (-1) ≤ u_38.1 219 2 ∧ u_38.1 219 2 ≤ 1 := iu_38.fi 219 2 0 (by decide) rfl
              refine g_X1_181 Cx hW (k := 219) (by decide) rfl (v := u_38.1 219 2) rfl dX1_takePairs_75 ?_
              refine r_if_ge (tgt := 83) hx hb ⟨(by omega), (by omega)⟩ dX1_takePairs_78 (by decide) (fun c_53 => ?_) (fun c_53 => ?_)
              · refine lv_aload_n hx hb dX1_takePairs_83 rfl (lv_at hl 3 rfl) ?_
                refine g_X1_21 Cx hW (k := 188) (by decide) rfl (v := .ref (G.2.2.1 + 193)) (rf_188_1 iu_38) dX1_takePairs_84 ?_
                refine lv_iload_n hx hb dX1_takePairs_87 rfl (lv_at hl 0 rfl) ?_
                refine lv_aload_n hx hb dX1_takePairs_88 rfl (lv_at hl 3 rfl) ?_
                refine g_X1_48 Cx hW (k := 188) (by decide) rfl (v := .ref (G.2.2.1 + 219)) (rf_188_8 iu_38) dX1_takePairs_89 ?_
                have q_54 : 0 ≤ u_38.1 219 1 ∧ u_38.1 219 1 ≤ 32 := iu_38.fi 219 1 0 (by decide) rfl
                refine sBv (sV (As := [.int (iv r_27), .ref (G.2.2.1 + 219)]) (rest := []) (k := 193) Cx (s_X6_setFactor_193 l G u_38 (k := r_27) (v := 219) iu_38 rfl (by omega) (by omega)) (c_X1_238 Cx rfl rfl (rmk_ok (by omega) (by decide))) hW (by decide) rfl rfl rfl hl.1 rfl (Nat.le_of_ble_eq_true rfl) dX1_takePairs_92 ⟨Nat.le_of_ble_eq_true rfl, Nat.le_of_ble_eq_true rfl⟩) hL (fun u_55 H locs k_56 hW hL => ?_)
                obtain ⟨iu_55, fu_55⟩ := k_56
                have F_57 := F_40.trans (fu_55.to (p1_sub rfl))
                have F_58 := F_41.trans (fu_55.to (p1_sub rfl))
                have cr_59 : CR G u_55 := cr_42.fr fu_55 rfl rfl rfl rfl
                refine lv_iload_n hx hb dX1_takePairs_95 rfl (lv_at hl 0 rfl) ?_
                refine lv_istore_n (lv' := [(1, .int (iv r_27)), (3, .int (iv r_27)), (2, .int (iv i)), (0, .ref (G.2.2.1 + 188))]) hx hb dX1_takePairs_96 rfl hl (by decide) rfl (fun ls hl => ?_)
                refine lv_iinc (v := iv (i + 1)) (lv' := [(2, .int (iv (i + 1))), (1, .int (iv r_27)), (3, .int (iv r_27)), (0, .ref (G.2.2.1 + 188))]) hx hb dX1_takePairs_97 hl (k := 2) rfl ((Int32.ofInt_add _ _).symm) (by decide) rfl (fun ls hl => ?_)
                refine lv_goto (tgt := 11) hx hb dX1_takePairs_100 (by decide) ?_
                have q_60 : 0 ≤ u_38.1 189 3 ∧ u_38.1 189 3 ≤ 1000000000 := iu_38.fi 189 3 4 (by decide) rfl
                have lk_61 : u_55.1 189 3 = u_38.1 189 3 := (fu_55 189 rfl).1 3
                exact ih_11 u_55 (i + 1) r_27 _ _ _ (by omega) iu_55 F_57 F_58 (by omega) (by omega) (by omega) cr_59 hW hL (lv_sub hl [0, 1, 3] rfl)
              · refine lv_iconst (v := iv 0) hx hb dX1_takePairs_81 (by decide) ?_
                have q_62 : 0 ≤ u_38.1 189 3 ∧ u_38.1 189 3 ≤ 1000000000 := iu_38.fi 189 3 4 (by decide) rfl
                exact sZret Cx hr hlk hW hL (by omega) ⟨iu_38, F_40, ⟨cr_42, (by omega), (by omega)⟩⟩ dX1_takePairs_82
  have q_63 : 0 ≤ S.1 189 3 ∧ S.1 189 3 ≤ 1000000000 := hI.fi 189 3 4 (by decide) rfl
  have lk_64 : u_1.1 189 3 = S.1 189 3 := (fu_1 189 rfl).1 3
  exact loop_11 (_ + 1) u_1 0 0 _ _ _ (Nat.lt_succ_self _) iu_1 F_3 Fr.rf (by omega) (by omega) (by omega) cr_4 hW hL (lv_sub hl [0, 1, 2] rfl)
