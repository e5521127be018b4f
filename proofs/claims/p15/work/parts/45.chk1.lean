def pS8 (k : Nat) : Bool := rgB 215 222 k
def pS6 (k : Nat) : Bool := rgB 217 222 k
def pS12 (k : Nat) : Bool := rgB 213 224 k
theorem pS6_8 : ∀ k, pS6 k = true → pS8 k = true := fun k h => by have := rgB_t h; exact rgB_i (by omega)
theorem pS8_12 : ∀ k, pS8 k = true → pS12 k = true := fun k h => by have := rgB_t h; exact rgB_i (by omega)
theorem pS12_N : ∀ k, pS12 k = true → pN k = true := fun k h => by
  have := rgB_t h
  simp only [pN, rgB_i (a := 194) (b := 224) (k := k) ⟨by omega, by omega⟩, Bool.or_true, Bool.true_or]
def pTp (k : Nat) : Bool := Nat.beq k 189 || Nat.beq k 208 || rgB 219 220 k
def pTq (k : Nat) : Bool := Nat.beq k 189 || Nat.beq k 195 || rgB 219 220 k
def pE (k : Nat) : Bool := pW k || rgB 188 189 k || Nat.beq k 192 || rgB 225 226 k
theorem pW_E : ∀ k, pW k = true → pE k = true := fun k h => by rw [pE, h]; rfl
theorem pTp_E : ∀ k, pTp k = true → pE k = true := fun k h => by
  simp only [pTp, Bool.or_eq_true] at h
  rcases h with (h | h) | h
  · rw [Nat.eq_of_beq_eq_true h]; rfl
  · rw [Nat.eq_of_beq_eq_true h]; rfl
  · have := rgB_t h
    exact pW_E k (pN_W k (pS12_N k (rgB_i (by omega))))
theorem pTq_E : ∀ k, pTq k = true → pE k = true := fun k h => by
  simp only [pTq, Bool.or_eq_true] at h
  rcases h with (h | h) | h
  · rw [Nat.eq_of_beq_eq_true h]; rfl
  · rw [Nat.eq_of_beq_eq_true h]; rfl
  · have := rgB_t h
    exact pW_E k (pN_W k (pS12_N k (rgB_i (by omega))))
theorem pRd_E : ∀ k, pRd k = true → pE k = true := fun k h => by
  rw [pRd, Bool.or_eq_true] at h
  rcases h with h | h <;> (rw [Nat.eq_of_beq_eq_true h]; rfl)
theorem pE_C : ∀ k, pE k = true → pC k = true := fun k h => by
  simp only [pE, Bool.or_eq_true] at h
  rcases h with ((h | h) | h) | h
  · exact pW_C k h
  all_goals (rw [pC, rgB_i (a := 3) (b := 230) (by first | (have := rgB_t h; omega) | (have := Nat.eq_of_beq_eq_true h; omega)), Bool.or_true])
theorem cX.mod188 {G : sG} {S : sS} {x y : Nat} {b : Int} {o : Nat} (h : cX G S x y b) (m : mdl o) : cX G (uR S 188 15 (.ref (G.2.2.1 + o))) x y b := by
  have eo : ∀ k i, ¬ (k = 188 ∧ i = 15) → (uR S 188 15 (.ref (G.2.2.1 + o))).2.2.2 k i = S.2.2.2 k i := fun k i q => uR_ne q
  obtain ⟨m1, ⟨m2, m3, m4⟩, ⟨m5, m6, m7⟩, ⟨m8, m9, m10⟩, m11, m12⟩ := h.rm
  refine h.putR (show tau 188 = .inl 1 from rfl) (by decide) (by decide) ⟨?_, ⟨m2, m3, by rw [eo _ _ (by decide)]; exact m4⟩, ⟨m5, m6, by rw [eo _ _ (by decide)]; exact m7⟩, ⟨o, m, uR_on⟩, ?_, ?_⟩
  · rw [eo _ _ (by decide), eo _ _ (by decide)]; exact m1
  · rw [eo _ _ (by decide), eo _ _ (by decide)]; exact m11
  · rw [eo _ _ (by decide)]; exact m12
set_option maxRecDepth 100000 in
set_option maxHeartbeats 4000000 in
theorem s_X1_faultPlace (l : Launch) (G : sG) (S : sS)  (hI : cX G S 0 0 0) : Met l yX1_faultPlace (.code yX1_faultPlace cX1_faultPlace 1 (some .int) :: tb) (rmk 1 0 0) (sPc G 294 S [.ref (G.2.2.1 + 188)]) (sQi G 294 (fun r u => u = S ∧ (-2147483648 ≤ r ∧ r ≤ 2147483647))) 0 0 (sF G) := by
  refine sEnter (by decide) (Nat.le_of_ble_eq_true rfl) ?_
  intro p e s m args below meth c Cx hr hlk hnm hW ls hl
  have Cx : sC G p m c cX1_faultPlace 1 s args RX1 := Cx
  obtain ⟨hx, hb, hml, hown, hts⟩ := id Cx.1
  have hL : sL G [] := sL_nil
  have hl : lv_has ls 1 [(0, .ref (G.2.2.1 + 188))] := hl
  have hW0 := hW
  refine lv_aload_n hx hb dX1_faultPlace_0 rfl (lv_at hl 0 rfl) ?_
  have q_1 : (-2147483648) ≤ S.1 188 17 ∧ S.1 188 17 ≤ 2147483647 := hI.fi 188 17 1 (by decide) rfl
  refine g_X1_73 Cx hW (k := 188) (by decide) rfl (v := S.1 188 17) rfl dX1_faultPlace_1 ?_
  exact sIret Cx hr hlk hW hL ⟨rfl, (by omega)⟩ dX1_faultPlace_4

set_option maxRecDepth 100000 in
set_option maxHeartbeats 4000000 in
theorem s_X1_fail (l : Launch) (G : sG) (S : sS) {kn wh : Int} (hI : cX G S 0 0 0) (hkn : -2147483648 ≤ kn ∧ kn ≤ 2147483647) (hwh : -2147483648 ≤ wh ∧ wh ≤ 2147483647) : Met l yX1_fail (.code yX1_fail cX1_fail 3 (some .boolean) :: tb) (rmk 1 0 0) (sPc G 294 S [.ref (G.2.2.1 + 188), .int (iv kn), .int (iv wh)]) (sQi G 294 (fun r u => cX G u 0 0 0 ∧ Fr S u (p1 188) ∧ (r = 0))) 0 0 (sF G) := by
  refine sEnter (by decide) (Nat.le_of_ble_eq_true rfl) ?_
  intro p e s m args below meth c Cx hr hlk hnm hW ls hl
  have Cx : sC G p m c cX1_fail 3 s args RX1 := Cx
  obtain ⟨hx, hb, hml, hown, hts⟩ := id Cx.1
  have hL : sL G [] := sL_nil
  have hl : lv_has ls 3 [(0, .ref (G.2.2.1 + 188)), (1, .int (iv kn)), (2, .int (iv wh))] := hl
  have hW0 := hW
  refine lv_aload_n hx hb dX1_fail_0 rfl (lv_at hl 0 rfl) ?_
  refine lv_iload_n hx hb dX1_fail_1 rfl (lv_at hl 1 rfl) ?_
  refine p_X1_77 Cx hW hL (k := 188) (by decide) rfl dX1_fail_2 (fun H locs hW hL => ?_)
  have F_1 : Fr S (uF S 188 16 kn) (p1 188) := (Fr.rf : Fr S S (p1 188)).F rfl
  have i_2 : cX G (uF S 188 16 kn) 0 0 0 := hI.F rfl rfl (show (-2147483648) ≤ kn ∧ kn ≤ 2147483647 from ⟨by omega, by omega⟩)
  refine lv_aload_n hx hb dX1_fail_5 rfl (lv_at hl 0 rfl) ?_
  refine lv_iload_n hx hb dX1_fail_6 rfl (lv_at hl 2 rfl) ?_
  refine p_X1_73 Cx hW hL (k := 188) (by decide) rfl dX1_fail_7 (fun H locs hW hL => ?_)
  have F_3 : Fr S (uF (uF S 188 16 kn) 188 17 wh) (p1 188) := F_1.F rfl
  have i_4 : cX G (uF (uF S 188 16 kn) 188 17 wh) 0 0 0 := i_2.F rfl rfl (show (-2147483648) ≤ wh ∧ wh ≤ 2147483647 from ⟨by omega, by omega⟩)
  refine lv_iconst (v := iv 0) hx hb dX1_fail_10 (by decide) ?_
  exact sZret Cx hr hlk hW hL (by omega) ⟨i_4, F_3, (by omega)⟩ dX1_fail_11

set_option maxRecDepth 100000 in
set_option maxHeartbeats 4000000 in
theorem s_X1_takePoint (l : Launch) (G : sG) (S : sS)  (hI : cX G S 0 0 0) (hCR : CR G S) (hat : S.1 189 3 ≤ 999999000) : Met l yX1_takePoint (.code yX1_takePoint cX1_takePoint 2 none :: tb) (rmk 4 0 0) (sPc G 294 S [.ref (G.2.2.1 + 188)]) (sQv G 294 (fun u => cX G u 0 0 0 ∧ Fr S u pTp ∧ (CR G u ∧ u.1 189 3 ≤ S.1 189 3 + 15))) 0 0 (sF G) := by
  refine sEnter (by decide) (Nat.le_of_ble_eq_true rfl) ?_
  intro p e s m args below meth c Cx hr hlk hnm hW ls hl
  have Cx : sC G p m c cX1_takePoint 2 s args RX1 := Cx
  obtain ⟨hx, hb, hml, hown, hts⟩ := id Cx.1
  have hL : sL G [] := sL_nil
  have hl : lv_has ls 2 [(0, .ref (G.2.2.1 + 188))] := hl
  have hW0 := hW
  have hat0 : 0 ≤ S.1 189 3 ∧ S.1 189 3 ≤ 1000000000 := hI.fi 189 3 4 (by decide) rfl
  refine lv_aload_n hx hb dX1_takePoint_0 rfl (lv_at hl 0 rfl) ?_
  refine g_X1_12 Cx hW (k := 188) (by decide) rfl (v := .ref (G.2.2.1 + 189)) (rf_188_0 hI) dX1_takePoint_1 ?_
  have q_1 : 0 ≤ S.1 189 3 ∧ S.1 189 3 ≤ 1000000000 := hI.fi 189 3 4 (by decide) rfl
  refine sBv (sV (As := []) (rest := []) (k := 189) Cx (s_X4_advance l G S  hI (by omega)) (c_X1_119 Cx rfl rfl (rmk_ok (by omega) (by decide))) hW (by decide) rfl rfl rfl hl.1 rfl (Nat.le_of_ble_eq_true rfl) dX1_takePoint_4 ⟨Nat.le_of_ble_eq_true rfl, Nat.le_of_ble_eq_true rfl⟩) hL (fun u_2 H locs k_3 hW hL => ?_)
  obtain ⟨iu_2, fu_2, xu_2⟩ := k_3
  have F_4 := (Fr.rf : Fr S S pTp).trans (fu_2.to (p1_sub rfl))
  have at_u_2 : u_2.1 189 3 = S.1 189 3 + 1 := by rw [xu_2]; exact uF_on
  have cr_5 : CR G u_2 := by rw [xu_2]; exact hCR.F (by decide)
  refine lv_iconst (v := iv 1) hx hb dX1_takePoint_7 (by decide) ?_
  refine lv_istore_n (lv' := [(1, .int (iv 1)), (0, .ref (G.2.2.1 + 188))]) hx hb dX1_takePoint_8 rfl hl (by decide) rfl (fun ls hl => ?_)
  have loop_9 : ∀ (fuel : Nat) (S9 : sS) (j : Int) (H : Heap) (locs : List Loc) (ls : Array Slot), (13 - j).toNat < fuel → (cX G S9 0 0 0) → (Fr S S9 pTp) → (Fr u_2 S9 pTp) → (1 ≤ j ∧ j ≤ 13) → (S9.1 189 3 ≤ S.1 189 3 + j) → (CR G S9) → sW G 294 S9 H → sL G locs → lv_has ls 2 [(1, .int (iv j)), (0, .ref (G.2.2.1 + 188))] → W p l e (rmk 4 0 0) s m args below meth c H locs 0 0 (MQ below (sQv G 294 (fun u => cX G u 0 0 0 ∧ Fr S u pTp ∧ (CR G u ∧ u.1 189 3 ≤ S.1 189 3 + 15))) args s 0 0 (sF G)) (F0 m 9 ls []) := by
    intro fuel
    induction fuel with
    | zero => intro S9 j H locs ls hmeas hI9 hFm9 hL9_ hj ha9 hCR9 hW hL hl; exact absurd hmeas (Nat.not_lt_zero _)
    | succ fuel ih_9 =>
      intro S9 j H locs ls hmeas hI9 hFm9 hL9_ hj ha9 hCR9 hW hL hl
      refine lv_iload_n hx hb dX1_takePoint_9 rfl (lv_at hl 0 rfl) ?_
      refine lv_aload_n hx hb dX1_takePoint_10 rfl (lv_at hl 1 rfl) ?_
      obtain ⟨o_6, mo_6, eo_6⟩ := hI.rm.2.2.2.1
      refine g_X1_69 Cx hW (k := 188) (by decide) rfl (v := .ref (G.2.2.1 + o_6)) ((((hL9_ 188 rfl).2.2.2 15).trans ((fu_2 188 rfl).2.2.2 15)).trans eo_6) dX1_takePoint_11 ?_
      have q_7 : 0 ≤ S9.1 o_6 2 ∧ S9.1 o_6 2 ≤ 12 := hI9.fi o_6 2 3 (mdl_k mo_6) mo_6.1
      refine g_X1_84 Cx hW (k := o_6) (mdl_l mo_6) mo_6.1 (v := S9.1 o_6 2) rfl dX1_takePoint_14 ?_
      refine r_icmp_gt (tgt := 52) hx hb ⟨(by omega), (by omega)⟩ ⟨(by omega), (by omega)⟩ dX1_takePoint_17 (by decide) (fun c_8 => ?_) (fun c_8 => ?_)
      · refine lv_aload_n hx hb dX1_takePoint_52 rfl (lv_at hl 1 rfl) ?_
        refine g_X1_12 Cx hW (k := 188) (by decide) rfl (v := .ref (G.2.2.1 + 189)) (rf_188_0 hI9) dX1_takePoint_53 ?_
        have q_9 : 0 ≤ S9.1 189 3 ∧ S9.1 189 3 ≤ 1000000000 := hI9.fi 189 3 4 (by decide) rfl
        refine sBv (sV (As := []) (rest := []) (k := 189) Cx (s_X4_advance l G S9  hI9 (by omega)) (c_X1_119 Cx rfl rfl (rmk_ok (by omega) (by decide))) hW (by decide) rfl rfl rfl hl.1 rfl (Nat.le_of_ble_eq_true rfl) dX1_takePoint_56 ⟨Nat.le_of_ble_eq_true rfl, Nat.le_of_ble_eq_true rfl⟩) hL (fun u_10 H locs k_11 hW hL => ?_)
        obtain ⟨iu_10, fu_10, xu_10⟩ := k_11
        have F_12 := hFm9.trans (fu_10.to (p1_sub rfl))
        have F_13 := hL9_.trans (fu_10.to (p1_sub rfl))
        have at_u_10 : u_10.1 189 3 = S9.1 189 3 + 1 := by rw [xu_10]; exact uF_on
        have cr_14 : CR G u_10 := by rw [xu_10]; exact hCR9.F (by decide)
        refine lv_aload_n hx hb dX1_takePoint_59 rfl (lv_at hl 1 rfl) ?_
        refine g_X1_12 Cx hW (k := 188) (by decide) rfl (v := .ref (G.2.2.1 + 189)) (rf_188_0 iu_10) dX1_takePoint_60 ?_
        refine lv_aload_n hx hb dX1_takePoint_63 rfl (lv_at hl 1 rfl) ?_
        refine g_X1_48 Cx hW (k := 188) (by decide) rfl (v := .ref (G.2.2.1 + 219)) (rf_188_8 iu_10) dX1_takePoint_64 ?_
        have q_15 : 0 ≤ u_10.1 189 3 ∧ u_10.1 189 3 ≤ 1000000000 := iu_10.fi 189 3 4 (by decide) rfl
        refine sBv (sV (As := [.ref (G.2.2.1 + 219)]) (rest := []) (k := 189) Cx (s_X4_takeNumber_219 l G u_10  iu_10 cr_14 (by omega)) (c_X1_126 Cx rfl rfl (rmk_ok (by omega) (by decide))) hW (by decide) rfl rfl rfl hl.1 rfl (Nat.le_of_ble_eq_true rfl) dX1_takePoint_67 ⟨Nat.le_of_ble_eq_true rfl, Nat.le_of_ble_eq_true rfl⟩) hL (fun u_16 H locs k_17 hW hL => ?_)
        obtain ⟨iu_16, fu_16, xu_16⟩ := k_17
        have F_18 := F_12.trans (fu_16.to (pRg_sub rfl rfl rfl))
        have F_19 := F_13.trans (fu_16.to (pRg_sub rfl rfl rfl))
        have cr_20 : CR G u_16 := xu_16.1
        refine lv_aload_n hx hb dX1_takePoint_70 rfl (lv_at hl 1 rfl) ?_
        refine g_X1_48 Cx hW (k := 188) (by decide) rfl (v := .ref (G.2.2.1 + 219)) (rf_188_8 iu_16) dX1_takePoint_71 ?_
        refine lv_aload_n hx hb dX1_takePoint_74 rfl (lv_at hl 1 rfl) ?_
        refine g_X1_27 Cx hW (k := 188) (by decide) rfl (v := .ref (G.2.2.1 + 208)) (rf_188_2 iu_16) dX1_takePoint_75 ?_
        refine lv_iconst (v := iv 0) hx hb dX1_takePoint_78 (by decide) ?_
        have q_21 : 0 ≤ u_16.1 219 1 ∧ u_16.1 219 1 ≤ 32 := iu_16.fi 219 1 0 (by decide) rfl
        have q_22 : (-1) ≤ u_16.1 219 2 ∧ u_16.1 219 2 ≤ 1 := iu_16.fi 219 2 0 (by decide) rfl
        refine sBv (sV (As := [.ref (G.2.2.1 + 208), .int (iv 0)]) (rest := []) (k := 219) Cx (s_X0_save l G u_16 (o := 219) (k := 208) (a := 0) (N := 104) iu_16 rfl ⟨by decide, rfl, by decide, rfl, rfl, rfl⟩ (by omega) (show _ ≤ (7 : Int) ∧ (_ → _ ≤ (999999999 : Int)) from ⟨by omega, fun _ => by have := limbR iu_16 (rfl : tau 219 = .inl 0) 6; omega⟩) (fun q _ => by rcases q with q | q <;> exact absurd q (by decide))) (c_X1_149 Cx rfl rfl (rmk_ok (by omega) (by decide))) hW (by decide) rfl rfl rfl hl.1 rfl (Nat.le_of_ble_eq_true rfl) dX1_takePoint_79 ⟨Nat.le_of_ble_eq_true rfl, Nat.le_of_ble_eq_true rfl⟩) hL (fun u_23 H locs k_24 hW hL => ?_)
        obtain ⟨iu_23, fu_23⟩ := k_24
        have F_25 := F_18.trans (fu_23.to (p1_sub rfl))
        have F_26 := F_19.trans (fu_23.to (p1_sub rfl))
        have cr_27 : CR G u_23 := cr_20.fr fu_23 rfl rfl rfl rfl
        have q_28 : 0 ≤ u_16.1 189 3 ∧ u_16.1 189 3 ≤ 1000000000 := iu_16.fi 189 3 4 (by decide) rfl
        have lk_29 : u_23.1 189 3 = u_16.1 189 3 := (fu_23 189 rfl).1 3
        exact sVret Cx hr hlk hW hL ⟨iu_23, F_25, ⟨cr_27, (by omega)⟩⟩ dX1_takePoint_82
      · refine lv_aload_n hx hb dX1_takePoint_20 rfl (lv_at hl 1 rfl) ?_
        refine g_X1_12 Cx hW (k := 188) (by decide) rfl (v := .ref (G.2.2.1 + 189)) (rf_188_0 hI9) dX1_takePoint_21 ?_
        refine lv_aload_n hx hb dX1_takePoint_24 rfl (lv_at hl 1 rfl) ?_
        refine g_X1_48 Cx hW (k := 188) (by decide) rfl (v := .ref (G.2.2.1 + 219)) (rf_188_8 hI9) dX1_takePoint_25 ?_
        have q_30 : 0 ≤ S9.1 189 3 ∧ S9.1 189 3 ≤ 1000000000 := hI9.fi 189 3 4 (by decide) rfl
        refine sBv (sV (As := [.ref (G.2.2.1 + 219)]) (rest := []) (k := 189) Cx (s_X4_takeNumber_219 l G S9  hI9 hCR9 (by omega)) (c_X1_126 Cx rfl rfl (rmk_ok (by omega) (by decide))) hW (by decide) rfl rfl rfl hl.1 rfl (Nat.le_of_ble_eq_true rfl) dX1_takePoint_28 ⟨Nat.le_of_ble_eq_true rfl, Nat.le_of_ble_eq_true rfl⟩) hL (fun u_31 H locs k_32 hW hL => ?_)
        obtain ⟨iu_31, fu_31, xu_31⟩ := k_32
        have F_33 := hFm9.trans (fu_31.to (pRg_sub rfl rfl rfl))
        have F_34 := hL9_.trans (fu_31.to (pRg_sub rfl rfl rfl))
        have cr_35 : CR G u_31 := xu_31.1
        refine lv_aload_n hx hb dX1_takePoint_31 rfl (lv_at hl 1 rfl) ?_
        refine g_X1_48 Cx hW (k := 188) (by decide) rfl (v := .ref (G.2.2.1 + 219)) (rf_188_8 iu_31) dX1_takePoint_32 ?_
        refine lv_aload_n hx hb dX1_takePoint_35 rfl (lv_at hl 1 rfl) ?_
        refine g_X1_27 Cx hW (k := 188) (by decide) rfl (v := .ref (G.2.2.1 + 208)) (rf_188_2 iu_31) dX1_takePoint_36 ?_
        refine lv_iload_n hx hb dX1_takePoint_39 rfl (lv_at hl 0 rfl) ?_
        refine lv_bipush (v := iv 8) hx hb dX1_takePoint_40 (by decide) ?_
        refine r_imul hx hb dX1_takePoint_42 ?_
        have q_36 : 0 ≤ u_31.1 219 1 ∧ u_31.1 219 1 ≤ 32 := iu_31.fi 219 1 0 (by decide) rfl
        have q_37 : (-1) ≤ u_31.1 219 2 ∧ u_31.1 219 2 ≤ 1 := iu_31.fi 219 2 0 (by decide) rfl
        refine sBv (sV (As := [.ref (G.2.2.1 + 208), .int (iv (j * 8))]) (rest := []) (k := 219) Cx (s_X0_save l G u_31 (o := 219) (k := 208) (a := j * 8) (N := 104) iu_31 rfl ⟨by decide, rfl, by decide, rfl, rfl, rfl⟩ (by omega) (show _ ≤ (7 : Int) ∧ (_ → _ ≤ (999999999 : Int)) from ⟨by omega, fun _ => by have := limbR iu_31 (rfl : tau 219 = .inl 0) 6; omega⟩) (fun q _ => by rcases q with q | q <;> exact absurd q (by decide))) (c_X1_149 Cx rfl rfl (rmk_ok (by omega) (by decide))) hW (by decide) rfl rfl rfl hl.1 rfl (Nat.le_of_ble_eq_true rfl) dX1_takePoint_43 ⟨Nat.le_of_ble_eq_true rfl, Nat.le_of_ble_eq_true rfl⟩) hL (fun u_38 H locs k_39 hW hL => ?_)
        obtain ⟨iu_38, fu_38⟩ := k_39
        have F_40 := F_33.trans (fu_38.to (p1_sub rfl))
        have F_41 := F_34.trans (fu_38.to (p1_sub rfl))
        have cr_42 : CR G u_38 := cr_35.fr fu_38 rfl rfl rfl rfl
        refine lv_iinc (v := iv (j + 1)) (lv' := [(1, .int (iv (j + 1))), (0, .ref (G.2.2.1 + 188))]) hx hb dX1_takePoint_46 hl (k := 0) rfl ((Int32.ofInt_add _ _).symm) (by decide) rfl (fun ls hl => ?_)
        refine lv_goto (tgt := 9) hx hb dX1_takePoint_49 (by decide) ?_
        have q_43 : 0 ≤ u_31.1 189 3 ∧ u_31.1 189 3 ≤ 1000000000 := iu_31.fi 189 3 4 (by decide) rfl
        have lk_44 : u_38.1 189 3 = u_31.1 189 3 := (fu_38 189 rfl).1 3
        exact ih_9 u_38 (j + 1) _ _ _ (by omega) iu_38 F_40 F_41 (by omega) (by omega) cr_42 hW hL (lv_sub hl [0, 1] rfl)
  have q_45 : 0 ≤ u_2.1 189 3 ∧ u_2.1 189 3 ≤ 1000000000 := iu_2.fi 189 3 4 (by decide) rfl
  exact loop_9 (_ + 1) u_2 1 _ _ _ (Nat.lt_succ_self _) iu_2 F_4 Fr.rf (by omega) (by omega) cr_5 hW hL (lv_sub hl [0, 1] rfl)

set_option maxRecDepth 100000 in
set_option maxHeartbeats 4000000 in
theorem s_X1_sumAt (l : Launch) (G : sG) (S : sS) {k : Int} (hI : cX G S 0 0 0) (hk : 0 ≤ k ∧ k ≤ 40) : Met l yX1_sumAt (.code yX1_sumAt cX1_sumAt 3 none :: tb) (rmk 4 0 0) (sPc G 294 S [.ref (G.2.2.1 + 188), .int (iv k)]) (sQv G 294 (fun u => cX G u 0 0 0 ∧ Fr S u pS8 ∧ (u.1 215 1 ≤ 15 ∧ Hd (u.1 215 1 = 15 → u.2.1 216 14 ≤ 12)))) 0 0 (sF G) := by
  refine sEnter (by decide) (Nat.le_of_ble_eq_true rfl) ?_
  intro p e s m args below meth c Cx hr hlk hnm hW ls hl
  have Cx : sC G p m c cX1_sumAt 3 s args RX1 := Cx
  obtain ⟨hx, hb, hml, hown, hts⟩ := id Cx.1
  have hL : sL G [] := sL_nil
  have hl : lv_has ls 3 [(0, .ref (G.2.2.1 + 188)), (1, .int (iv k))] := hl
  have hW0 := hW
  refine lv_aload_n hx hb dX1_sumAt_0 rfl (lv_at hl 0 rfl) ?_
  refine g_X1_42 Cx hW (k := 188) (by decide) rfl (v := .ref (G.2.2.1 + 215)) (rf_188_6 hI) dX1_sumAt_1 ?_
  refine lv_lconst (v := jv 0) hx hb dX1_sumAt_4 (by decide) ?_
  refine sBv (sV (As := [.long (jv 0)]) (rest := []) (k := 215) Cx (s_X0_put l G S (o := 215) (v := 0) hI rfl (by omega)) (c_X1_153 Cx rfl rfl (rmk_ok (by omega) (by decide))) hW (by decide) rfl rfl rfl hl.1 rfl (Nat.le_of_ble_eq_true rfl) dX1_sumAt_5 ⟨Nat.le_of_ble_eq_true rfl, Nat.le_of_ble_eq_true rfl⟩) hL (fun u_1 H locs k_2 hW hL => ?_)
  obtain ⟨iu_1, fu_1, xu_1⟩ := k_2
  have F_3 := (Fr.rf : Fr S S pS8).trans (fu_1.to (pB_sub rfl rfl))
  refine lv_iconst (v := iv 1) hx hb dX1_sumAt_8 (by decide) ?_
  refine lv_istore_n (lv' := [(2, .int (iv 1)), (0, .ref (G.2.2.1 + 188)), (1, .int (iv k))]) hx hb dX1_sumAt_9 rfl hl (by decide) rfl (fun ls hl => ?_)
  have loop_10 : ∀ (fuel : Nat) (S10 : sS) (j : Int) (H : Heap) (locs : List Loc) (ls : Array Slot), (13 - j).toNat < fuel → (cX G S10 0 0 0) → (Fr S S10 pS8) → (Fr u_1 S10 pS8) → (1 ≤ j ∧ j ≤ 13) → (S10.1 215 1 ≤ 15) → (Hd (S10.1 215 1 = 15 → S10.2.1 216 14 ≤ j - 1)) → sW G 294 S10 H → sL G locs → lv_has ls 3 [(2, .int (iv j)), (0, .ref (G.2.2.1 + 188)), (1, .int (iv k))] → W p l e (rmk 4 0 0) s m args below meth c H locs 0 0 (MQ below (sQv G 294 (fun u => cX G u 0 0 0 ∧ Fr S u pS8 ∧ (u.1 215 1 ≤ 15 ∧ Hd (u.1 215 1 = 15 → u.2.1 216 14 ≤ 12)))) args s 0 0 (sF G)) (F0 m 10 ls []) := by
    intro fuel
    induction fuel with
    | zero => intro S10 j H locs ls hmeas hI10 hFm10 hL10_ hj hc ht hW hL hl; exact absurd hmeas (Nat.not_lt_zero _)
    | succ fuel ih_10 =>
      intro S10 j H locs ls hmeas hI10 hFm10 hL10_ hj hc ht hW hL hl
      refine lv_iload_n hx hb dX1_sumAt_10 rfl (lv_at hl 0 rfl) ?_
      refine lv_aload_n hx hb dX1_sumAt_11 rfl (lv_at hl 1 rfl) ?_
      obtain ⟨o_4, mo_4, eo_4⟩ := hI.rm.2.2.2.1
      refine g_X1_69 Cx hW (k := 188) (by decide) rfl (v := .ref (G.2.2.1 + o_4)) ((((hL10_ 188 rfl).2.2.2 15).trans ((fu_1 188 rfl).2.2.2 15)).trans eo_4) dX1_sumAt_12 ?_
      have q_5 : 0 ≤ S10.1 o_4 2 ∧ S10.1 o_4 2 ≤ 12 := hI10.fi o_4 2 3 (mdl_k mo_4) mo_4.1
      refine g_X1_84 Cx hW (k := o_4) (mdl_l mo_4) mo_4.1 (v := S10.1 o_4 2) rfl dX1_sumAt_15 ?_
      refine r_icmp_gt (tgt := 82) hx hb ⟨(by omega), (by omega)⟩ ⟨(by omega), (by omega)⟩ dX1_sumAt_18 (by decide) (fun c_6 => ?_) (fun c_6 => ?_)
      · have q_7 : 0 ≤ S10.1 215 1 ∧ S10.1 215 1 ≤ 32 := hI10.fi 215 1 0 (by decide) rfl
        exact sVret Cx hr hlk hW hL ⟨hI10, hFm10, ⟨(by omega), fun q => by have e := ht q; omega⟩⟩ dX1_sumAt_82
      · refine lv_aload_n hx hb dX1_sumAt_21 rfl (lv_at hl 1 rfl) ?_
        refine g_X1_48 Cx hW (k := 188) (by decide) rfl (v := .ref (G.2.2.1 + 219)) (rf_188_8 hI10) dX1_sumAt_22 ?_
        refine lv_aload_n hx hb dX1_sumAt_25 rfl (lv_at hl 1 rfl) ?_
        refine g_X1_27 Cx hW (k := 188) (by decide) rfl (v := .ref (G.2.2.1 + 208)) (rf_188_2 hI10) dX1_sumAt_26 ?_
        refine lv_iload_n hx hb dX1_sumAt_29 rfl (lv_at hl 0 rfl) ?_
        refine lv_bipush (v := iv 8) hx hb dX1_sumAt_30 (by decide) ?_
        refine r_imul hx hb dX1_sumAt_32 ?_
        refine sBv (sV (As := [.ref (G.2.2.1 + 208), .int (iv (j * 8))]) (rest := []) (k := 219) Cx (s_X0_load l G S10 (o := 219) (k := 208) (a := j * 8) (N := 104) hI10 rfl ⟨by decide, rfl, by decide, rfl, rfl, rfl⟩ (by omega)) (c_X1_157 Cx rfl rfl (rmk_ok (by omega) (by decide))) hW (by decide) rfl rfl rfl hl.1 rfl (Nat.le_of_ble_eq_true rfl) dX1_sumAt_33 ⟨Nat.le_of_ble_eq_true rfl, Nat.le_of_ble_eq_true rfl⟩) hL (fun u_8 H locs k_9 hW hL => ?_)
        obtain ⟨iu_8, fu_8, xu_8⟩ := k_9
        have F_10 := hFm10.trans (fu_8.to (pB_sub rfl rfl))
        have F_11 := hL10_.trans (fu_8.to (pB_sub rfl rfl))
        have yu_8 : u_8.1 219 1 ≤ 7 := xu_8.1
        refine lv_aload_n hx hb dX1_sumAt_36 rfl (lv_at hl 1 rfl) ?_
        refine g_X1_21 Cx hW (k := 188) (by decide) rfl (v := .ref (G.2.2.1 + 193)) (rf_188_1 iu_8) dX1_sumAt_37 ?_
        refine lv_iload_n hx hb dX1_sumAt_40 rfl (lv_at hl 2 rfl) ?_
        refine lv_iload_n hx hb dX1_sumAt_41 rfl (lv_at hl 0 rfl) ?_
        refine lv_aload_n hx hb dX1_sumAt_42 rfl (lv_at hl 1 rfl) ?_
        refine g_X1_45 Cx hW (k := 188) (by decide) rfl (v := .ref (G.2.2.1 + 217)) (rf_188_7 iu_8) dX1_sumAt_43 ?_
        refine sBv (sV (As := [.int (iv k), .int (iv j), .ref (G.2.2.1 + 217)]) (rest := []) (k := 193) Cx (s_X6_number_193 l G u_8 (k := k) (j := j) (v := 217) iu_8 rfl (by omega) (by omega)) (c_X1_160 Cx rfl rfl (rmk_ok (by omega) (by decide))) hW (by decide) rfl rfl rfl hl.1 rfl (Nat.le_of_ble_eq_true rfl) dX1_sumAt_46 ⟨Nat.le_of_ble_eq_true rfl, Nat.le_of_ble_eq_true rfl⟩) hL (fun u_12 H locs k_13 hW hL => ?_)
        obtain ⟨iu_12, fu_12, xu_12⟩ := k_13
        have F_14 := F_10.trans (fu_12.to (pB_sub rfl rfl))
        have F_15 := F_11.trans (fu_12.to (pB_sub rfl rfl))
        refine lv_aload_n hx hb dX1_sumAt_49 rfl (lv_at hl 1 rfl) ?_
        refine g_X1_51 Cx hW (k := 188) (by decide) rfl (v := .ref (G.2.2.1 + 221)) (rf_188_9 iu_12) dX1_sumAt_50 ?_
        refine lv_aload_n hx hb dX1_sumAt_53 rfl (lv_at hl 1 rfl) ?_
        refine g_X1_48 Cx hW (k := 188) (by decide) rfl (v := .ref (G.2.2.1 + 219)) (rf_188_8 iu_12) dX1_sumAt_54 ?_
        refine lv_aload_n hx hb dX1_sumAt_57 rfl (lv_at hl 1 rfl) ?_
        refine g_X1_45 Cx hW (k := 188) (by decide) rfl (v := .ref (G.2.2.1 + 217)) (rf_188_7 iu_12) dX1_sumAt_58 ?_
        have q_16 : 0 ≤ u_8.1 219 1 ∧ u_8.1 219 1 ≤ 32 := iu_8.fi 219 1 0 (by decide) rfl
        have lk_17 : u_12.1 219 1 = u_8.1 219 1 := (fu_12 219 rfl).1 1
        have q_18 : 0 ≤ u_12.1 217 1 ∧ u_12.1 217 1 ≤ 32 := iu_12.fi 217 1 0 (by decide) rfl
        refine sBv (sV (As := [.ref (G.2.2.1 + 219), .ref (G.2.2.1 + 217)]) (rest := []) (k := 221) Cx (s_X0_product l G u_12 (o := 221) (a := 219) (b := 217) iu_12 rfl rfl rfl (show (221 : Nat) ≠ 219 by decide) (show (221 : Nat) ≠ 217 by decide)) (c_X1_163 Cx rfl rfl (rmk_ok (by omega) (by decide))) hW (by decide) rfl rfl rfl hl.1 rfl (Nat.le_of_ble_eq_true rfl) dX1_sumAt_61 ⟨Nat.le_of_ble_eq_true rfl, Nat.le_of_ble_eq_true rfl⟩) hL (fun u_19 H locs k_20 hW hL => ?_)
        obtain ⟨iu_19, fu_19, xu_19⟩ := k_20
        have F_21 := F_14.trans (fu_19.to (pB_sub rfl rfl))
        have F_22 := F_15.trans (fu_19.to (pB_sub rfl rfl))
        refine lv_aload_n hx hb dX1_sumAt_64 rfl (lv_at hl 1 rfl) ?_
        refine g_X1_42 Cx hW (k := 188) (by decide) rfl (v := .ref (G.2.2.1 + 215)) (rf_188_6 iu_19) dX1_sumAt_65 ?_
        refine lv_aload_n hx hb dX1_sumAt_68 rfl (lv_at hl 1 rfl) ?_
        refine g_X1_51 Cx hW (k := 188) (by decide) rfl (v := .ref (G.2.2.1 + 221)) (rf_188_9 iu_19) dX1_sumAt_69 ?_
        refine lv_iconst (v := iv 1) hx hb dX1_sumAt_72 (by decide) ?_
        have q_23 : 0 ≤ u_19.1 221 1 ∧ u_19.1 221 1 ≤ 32 := iu_19.fi 221 1 0 (by decide) rfl
        have q_24 : 0 ≤ S10.1 215 1 ∧ S10.1 215 1 ≤ 32 := hI10.fi 215 1 0 (by decide) rfl
        have lk_25 : u_19.1 215 1 = S10.1 215 1 := ((fu_19 215 rfl).1 1).trans (((fu_12 215 rfl).1 1).trans ((fu_8 215 rfl).1 1))
        have q_26 : (-1) ≤ S10.1 215 2 ∧ S10.1 215 2 ≤ 1 := hI10.fi 215 2 0 (by decide) rfl
        have lk_27 : u_19.1 215 2 = S10.1 215 2 := ((fu_19 215 rfl).1 2).trans (((fu_12 215 rfl).1 2).trans ((fu_8 215 rfl).1 2))
        have q_28 : (-1) ≤ u_19.1 221 2 ∧ u_19.1 221 2 ≤ 1 := iu_19.fi 221 2 0 (by decide) rfl
        refine sBv (sV (As := [.ref (G.2.2.1 + 221), .int (iv 1)]) (rest := []) (k := 215) Cx (t_X0_add_p l G u_19 (o := 215) (a := 221) (n := 14) (t := j - 1) iu_19 rfl rfl (show (215 : Nat) ≠ 221 by decide) (by omega) (fun q => by have e : u_19.2.1 216 14 = S10.2.1 216 14 := ((fu_19 216 rfl).2.1 14).trans (((fu_12 216 rfl).2.1 14).trans ((fu_8 216 rfl).2.1 14)); rw [e]; exact ht (by omega))) (c_X1_166 Cx rfl rfl (rmk_ok (by omega) (by decide))) hW (by decide) rfl rfl rfl hl.1 rfl (Nat.le_of_ble_eq_true rfl) dX1_sumAt_73 ⟨Nat.le_of_ble_eq_true rfl, Nat.le_of_ble_eq_true rfl⟩) hL (fun u_29 H locs k_30 hW hL => ?_)
        obtain ⟨iu_29, fu_29, xu_29⟩ := k_30
        have F_31 := F_21.trans (fu_29.to (pB_sub rfl rfl))
        have F_32 := F_22.trans (fu_29.to (pB_sub rfl rfl))
        refine lv_iinc (v := iv (j + 1)) (lv' := [(2, .int (iv (j + 1))), (0, .ref (G.2.2.1 + 188)), (1, .int (iv k))]) hx hb dX1_sumAt_76 hl (k := 0) rfl ((Int32.ofInt_add _ _).symm) (by decide) rfl (fun ls hl => ?_)
        refine lv_goto (tgt := 10) hx hb dX1_sumAt_79 (by decide) ?_
        have q_33 : 0 ≤ u_29.1 215 1 ∧ u_29.1 215 1 ≤ 32 := iu_29.fi 215 1 0 (by decide) rfl
        exact ih_10 u_29 (j + 1) _ _ _ (by omega) iu_29 F_31 F_32 (by omega) (by omega) (fun q => by have e : u_29.2.1 216 14 ≤ j - 1 + 1 := xu_29.2.1 q; omega) hW hL (lv_sub hl [0, 1, 2] rfl)
  have q_34 : 0 ≤ u_1.1 215 1 ∧ u_1.1 215 1 ≤ 32 := iu_1.fi 215 1 0 (by decide) rfl
  exact loop_10 (_ + 1) u_1 1 _ _ _ (Nat.lt_succ_self _) iu_1 F_3 Fr.rf (by omega) (by omega) (fun q => absurd q (by omega)) hW hL (lv_sub hl [0, 1, 2] rfl)

set_option maxRecDepth 100000 in
set_option maxHeartbeats 4000000 in
theorem s_X1_scaleBound (l : Launch) (G : sG) (S : sS) {k : Int} (hI : cX G S 0 0 0) (hk : 0 ≤ k ∧ k ≤ 40) : Met l yX1_scaleBound (.code yX1_scaleBound cX1_scaleBound 2 none :: tb) (rmk 4 0 0) (sPc G 294 S [.ref (G.2.2.1 + 188), .int (iv k)]) (sQv G 294 (fun u => cX G u 0 0 0 ∧ Fr S u pS6 ∧ (u.1 221 1 ≤ 14))) 0 0 (sF G) := by
  refine sEnter (by decide) (Nat.le_of_ble_eq_true rfl) ?_
  intro p e s m args below meth c Cx hr hlk hnm hW ls hl
  have Cx : sC G p m c cX1_scaleBound 2 s args RX1 := Cx
  obtain ⟨hx, hb, hml, hown, hts⟩ := id Cx.1
  have hL : sL G [] := sL_nil
  have hl : lv_has ls 2 [(0, .ref (G.2.2.1 + 188)), (1, .int (iv k))] := hl
  have hW0 := hW
  refine lv_aload_n hx hb dX1_scaleBound_0 rfl (lv_at hl 0 rfl) ?_
  refine g_X1_48 Cx hW (k := 188) (by decide) rfl (v := .ref (G.2.2.1 + 219)) (rf_188_8 hI) dX1_scaleBound_1 ?_
  refine lv_aload_n hx hb dX1_scaleBound_4 rfl (lv_at hl 0 rfl) ?_
  refine g_X1_27 Cx hW (k := 188) (by decide) rfl (v := .ref (G.2.2.1 + 208)) (rf_188_2 hI) dX1_scaleBound_5 ?_
  refine lv_iconst (v := iv 0) hx hb dX1_scaleBound_8 (by decide) ?_
  refine sBv (sV (As := [.ref (G.2.2.1 + 208), .int (iv 0)]) (rest := []) (k := 219) Cx (s_X0_load l G S (o := 219) (k := 208) (a := 0) (N := 104) hI rfl ⟨by decide, rfl, by decide, rfl, rfl, rfl⟩ (by omega)) (c_X1_157 Cx rfl rfl (rmk_ok (by omega) (by decide))) hW (by decide) rfl rfl rfl hl.1 rfl (Nat.le_of_ble_eq_true rfl) dX1_scaleBound_9 ⟨Nat.le_of_ble_eq_true rfl, Nat.le_of_ble_eq_true rfl⟩) hL (fun u_1 H locs k_2 hW hL => ?_)
  obtain ⟨iu_1, fu_1, xu_1⟩ := k_2
  have F_3 := (Fr.rf : Fr S S pS6).trans (fu_1.to (pB_sub rfl rfl))
  have yu_1 : u_1.1 219 1 ≤ 7 := xu_1.1
  refine lv_aload_n hx hb dX1_scaleBound_12 rfl (lv_at hl 0 rfl) ?_
  refine g_X1_21 Cx hW (k := 188) (by decide) rfl (v := .ref (G.2.2.1 + 193)) (rf_188_1 iu_1) dX1_scaleBound_13 ?_
  refine lv_iload_n hx hb dX1_scaleBound_16 rfl (lv_at hl 1 rfl) ?_
  refine lv_iconst (v := iv 0) hx hb dX1_scaleBound_17 (by decide) ?_
  refine lv_aload_n hx hb dX1_scaleBound_18 rfl (lv_at hl 0 rfl) ?_
  refine g_X1_45 Cx hW (k := 188) (by decide) rfl (v := .ref (G.2.2.1 + 217)) (rf_188_7 iu_1) dX1_scaleBound_19 ?_
  refine sBv (sV (As := [.int (iv k), .int (iv 0), .ref (G.2.2.1 + 217)]) (rest := []) (k := 193) Cx (s_X6_number_193 l G u_1 (k := k) (j := 0) (v := 217) iu_1 rfl (by omega) (by omega)) (c_X1_160 Cx rfl rfl (rmk_ok (by omega) (by decide))) hW (by decide) rfl rfl rfl hl.1 rfl (Nat.le_of_ble_eq_true rfl) dX1_scaleBound_22 ⟨Nat.le_of_ble_eq_true rfl, Nat.le_of_ble_eq_true rfl⟩) hL (fun u_4 H locs k_5 hW hL => ?_)
  obtain ⟨iu_4, fu_4, xu_4⟩ := k_5
  have F_6 := F_3.trans (fu_4.to (pB_sub rfl rfl))
  refine lv_aload_n hx hb dX1_scaleBound_25 rfl (lv_at hl 0 rfl) ?_
  refine g_X1_51 Cx hW (k := 188) (by decide) rfl (v := .ref (G.2.2.1 + 221)) (rf_188_9 iu_4) dX1_scaleBound_26 ?_
  refine lv_aload_n hx hb dX1_scaleBound_29 rfl (lv_at hl 0 rfl) ?_
  refine g_X1_48 Cx hW (k := 188) (by decide) rfl (v := .ref (G.2.2.1 + 219)) (rf_188_8 iu_4) dX1_scaleBound_30 ?_
  refine lv_aload_n hx hb dX1_scaleBound_33 rfl (lv_at hl 0 rfl) ?_
  refine g_X1_45 Cx hW (k := 188) (by decide) rfl (v := .ref (G.2.2.1 + 217)) (rf_188_7 iu_4) dX1_scaleBound_34 ?_
  have q_7 : 0 ≤ u_1.1 219 1 ∧ u_1.1 219 1 ≤ 32 := iu_1.fi 219 1 0 (by decide) rfl
  have lk_8 : u_4.1 219 1 = u_1.1 219 1 := (fu_4 219 rfl).1 1
  have q_9 : 0 ≤ u_4.1 217 1 ∧ u_4.1 217 1 ≤ 32 := iu_4.fi 217 1 0 (by decide) rfl
  refine sBv (sV (As := [.ref (G.2.2.1 + 219), .ref (G.2.2.1 + 217)]) (rest := []) (k := 221) Cx (s_X0_product l G u_4 (o := 221) (a := 219) (b := 217) iu_4 rfl rfl rfl (show (221 : Nat) ≠ 219 by decide) (show (221 : Nat) ≠ 217 by decide)) (c_X1_163 Cx rfl rfl (rmk_ok (by omega) (by decide))) hW (by decide) rfl rfl rfl hl.1 rfl (Nat.le_of_ble_eq_true rfl) dX1_scaleBound_37 ⟨Nat.le_of_ble_eq_true rfl, Nat.le_of_ble_eq_true rfl⟩) hL (fun u_10 H locs k_11 hW hL => ?_)
  obtain ⟨iu_10, fu_10, xu_10⟩ := k_11
  have F_12 := F_6.trans (fu_10.to (pB_sub rfl rfl))
  have q_13 : 0 ≤ u_10.1 221 1 ∧ u_10.1 221 1 ≤ 32 := iu_10.fi 221 1 0 (by decide) rfl
  exact sVret Cx hr hlk hW hL ⟨iu_10, F_12, (by omega)⟩ dX1_scaleBound_40

set_option maxRecDepth 100000 in
set_option maxHeartbeats 4000000 in
theorem s_X1_isValue (l : Launch) (G : sG) (S : sS)  (hI : cX G S 0 0 0) : Met l yX1_isValue (.code yX1_isValue cX1_isValue 1 (some .boolean) :: tb) (rmk 5 0 0) (sPc G 294 S [.ref (G.2.2.1 + 188)]) (sQi G 294 (fun r u => cX G u 0 0 0 ∧ Fr S u pS8 ∧ (0 ≤ r ∧ r ≤ 1))) 0 0 (sF G) := by
  refine sEnter (by decide) (Nat.le_of_ble_eq_true rfl) ?_
  intro p e s m args below meth c Cx hr hlk hnm hW ls hl
  have Cx : sC G p m c cX1_isValue 1 s args RX1 := Cx
  obtain ⟨hx, hb, hml, hown, hts⟩ := id Cx.1
  have hL : sL G [] := sL_nil
  have hl : lv_has ls 1 [(0, .ref (G.2.2.1 + 188))] := hl
  have hW0 := hW
  refine lv_aload_n hx hb dX1_isValue_0 rfl (lv_at hl 0 rfl) ?_
  refine lv_iconst (v := iv 0) hx hb dX1_isValue_1 (by decide) ?_
  refine sBv (sV (As := [.int (iv 0)]) (rest := []) (k := 188) Cx (s_X1_sumAt l G S (k := 0) hI (by omega)) (c_X1_170 Cx rfl rfl (rmk_ok (by omega) (by decide))) hW (by decide) rfl rfl rfl hl.1 rfl (Nat.le_of_ble_eq_true rfl) dX1_isValue_2 ⟨Nat.le_of_ble_eq_true rfl, Nat.le_of_ble_eq_true rfl⟩) hL (fun u_1 H locs k_2 hW hL => ?_)
  obtain ⟨iu_1, fu_1, xu_1⟩ := k_2
  have F_3 := (Fr.rf : Fr S S pS8).trans fu_1
  refine lv_aload_n hx hb dX1_isValue_5 rfl (lv_at hl 0 rfl) ?_
  refine lv_iconst (v := iv 0) hx hb dX1_isValue_6 (by decide) ?_
  refine sBv (sV (As := [.int (iv 0)]) (rest := []) (k := 188) Cx (s_X1_scaleBound l G u_1 (k := 0) iu_1 (by omega)) (c_X1_174 Cx rfl rfl (rmk_ok (by omega) (by decide))) hW (by decide) rfl rfl rfl hl.1 rfl (Nat.le_of_ble_eq_true rfl) dX1_isValue_7 ⟨Nat.le_of_ble_eq_true rfl, Nat.le_of_ble_eq_true rfl⟩) hL (fun u_4 H locs k_5 hW hL => ?_)
  obtain ⟨iu_4, fu_4, xu_4⟩ := k_5
  have F_6 := F_3.trans (fu_4.to pS6_8)
  refine lv_aload_n hx hb dX1_isValue_10 rfl (lv_at hl 0 rfl) ?_
  refine g_X1_42 Cx hW (k := 188) (by decide) rfl (v := .ref (G.2.2.1 + 215)) (rf_188_6 iu_4) dX1_isValue_11 ?_
  refine lv_aload_n hx hb dX1_isValue_14 rfl (lv_at hl 0 rfl) ?_
  refine g_X1_51 Cx hW (k := 188) (by decide) rfl (v := .ref (G.2.2.1 + 221)) (rf_188_9 iu_4) dX1_isValue_15 ?_
  refine lv_iconst (v := iv 1) hx hb dX1_isValue_18 (by decide) ?_
  have q_7 : 0 ≤ u_4.1 221 1 ∧ u_4.1 221 1 ≤ 32 := iu_4.fi 221 1 0 (by decide) rfl
  have q_8 : 0 ≤ u_1.1 215 1 ∧ u_1.1 215 1 ≤ 32 := iu_1.fi 215 1 0 (by decide) rfl
  have lk_9 : u_4.1 215 1 = u_1.1 215 1 := (fu_4 215 rfl).1 1
  have q_10 : (-1) ≤ u_1.1 215 2 ∧ u_1.1 215 2 ≤ 1 := iu_1.fi 215 2 0 (by decide) rfl
  have lk_11 : u_4.1 215 2 = u_1.1 215 2 := (fu_4 215 rfl).1 2
  have q_12 : (-1) ≤ u_4.1 221 2 ∧ u_4.1 221 2 ≤ 1 := iu_4.fi 221 2 0 (by decide) rfl
  refine sBv (sV (As := [.ref (G.2.2.1 + 221), .int (iv 1)]) (rest := []) (k := 215) Cx (t_X0_add_p l G u_4 (o := 215) (a := 221) (n := 14) (t := 12) iu_4 rfl rfl (show (215 : Nat) ≠ 221 by decide) (by omega) (fun q => by have e : u_4.2.1 216 14 = u_1.2.1 216 14 := (fu_4 216 rfl).2.1 14; rw [e]; exact xu_1.2 (by omega))) (c_X1_166 Cx rfl rfl (rmk_ok (by omega) (by decide))) hW (by decide) rfl rfl rfl hl.1 rfl (Nat.le_of_ble_eq_true rfl) dX1_isValue_19 ⟨Nat.le_of_ble_eq_true rfl, Nat.le_of_ble_eq_true rfl⟩) hL (fun u_13 H locs k_14 hW hL => ?_)
  obtain ⟨iu_13, fu_13, xu_13⟩ := k_14
  have F_15 := F_6.trans (fu_13.to (pB_sub rfl rfl))
  refine lv_aload_n hx hb dX1_isValue_22 rfl (lv_at hl 0 rfl) ?_
  refine g_X1_51 Cx hW (k := 188) (by decide) rfl (v := .ref (G.2.2.1 + 221)) (rf_188_9 iu_13) dX1_isValue_23 ?_
  refine lv_aload_n hx hb dX1_isValue_26 rfl (lv_at hl 0 rfl) ?_
  refine g_X1_42 Cx hW (k := 188) (by decide) rfl (v := .ref (G.2.2.1 + 215)) (rf_188_6 iu_13) dX1_isValue_27 ?_
  refine lv_aload_n hx hb dX1_isValue_30 rfl (lv_at hl 0 rfl) ?_
  refine g_X1_36 Cx hW (k := 188) (by decide) rfl (v := .ref (G.2.2.1 + 211)) (rf_188_4 iu_13) dX1_isValue_31 ?_
  have q_16 : 0 ≤ u_13.1 215 1 ∧ u_13.1 215 1 ≤ 32 := iu_13.fi 215 1 0 (by decide) rfl
  have q_17 : 0 ≤ S.1 211 1 ∧ S.1 211 1 ≤ 32 := hI.fi 211 1 0 (by decide) rfl
  have lk_18 : u_13.1 211 1 = S.1 211 1 := ((fu_13 211 rfl).1 1).trans (((fu_4 211 rfl).1 1).trans ((fu_1 211 rfl).1 1))
  refine sBv (sV (As := [.ref (G.2.2.1 + 215), .ref (G.2.2.1 + 211)]) (rest := []) (k := 221) Cx (s_X0_product l G u_13 (o := 221) (a := 215) (b := 211) iu_13 rfl rfl rfl (show (221 : Nat) ≠ 215 by decide) (show (221 : Nat) ≠ 211 by decide)) (c_X1_163 Cx rfl rfl (rmk_ok (by omega) (by decide))) hW (by decide) rfl rfl rfl hl.1 rfl (Nat.le_of_ble_eq_true rfl) dX1_isValue_34 ⟨Nat.le_of_ble_eq_true rfl, Nat.le_of_ble_eq_true rfl⟩) hL (fun u_19 H locs k_20 hW hL => ?_)
  obtain ⟨iu_19, fu_19, xu_19⟩ := k_20
  have F_21 := F_15.trans (fu_19.to (pB_sub rfl rfl))
  refine lv_aload_n hx hb dX1_isValue_37 rfl (lv_at hl 0 rfl) ?_
  refine g_X1_48 Cx hW (k := 188) (by decide) rfl (v := .ref (G.2.2.1 + 219)) (rf_188_8 iu_19) dX1_isValue_38 ?_
  refine lv_aload_n hx hb dX1_isValue_41 rfl (lv_at hl 0 rfl) ?_
  refine g_X1_27 Cx hW (k := 188) (by decide) rfl (v := .ref (G.2.2.1 + 208)) (rf_188_2 iu_19) dX1_isValue_42 ?_
  refine lv_iconst (v := iv 0) hx hb dX1_isValue_45 (by decide) ?_
  refine sBv (sV (As := [.ref (G.2.2.1 + 208), .int (iv 0)]) (rest := []) (k := 219) Cx (s_X0_load l G u_19 (o := 219) (k := 208) (a := 0) (N := 104) iu_19 rfl ⟨by decide, rfl, by decide, rfl, rfl, rfl⟩ (by omega)) (c_X1_157 Cx rfl rfl (rmk_ok (by omega) (by decide))) hW (by decide) rfl rfl rfl hl.1 rfl (Nat.le_of_ble_eq_true rfl) dX1_isValue_46 ⟨Nat.le_of_ble_eq_true rfl, Nat.le_of_ble_eq_true rfl⟩) hL (fun u_22 H locs k_23 hW hL => ?_)
  obtain ⟨iu_22, fu_22, xu_22⟩ := k_23
  have F_24 := F_21.trans (fu_22.to (pB_sub rfl rfl))
  have yu_22 : u_22.1 219 1 ≤ 7 := xu_22.1
  refine lv_aload_n hx hb dX1_isValue_49 rfl (lv_at hl 0 rfl) ?_
  refine g_X1_45 Cx hW (k := 188) (by decide) rfl (v := .ref (G.2.2.1 + 217)) (rf_188_7 iu_22) dX1_isValue_50 ?_
  refine lv_aload_n hx hb dX1_isValue_53 rfl (lv_at hl 0 rfl) ?_
  refine g_X1_48 Cx hW (k := 188) (by decide) rfl (v := .ref (G.2.2.1 + 219)) (rf_188_8 iu_22) dX1_isValue_54 ?_
  refine lv_aload_n hx hb dX1_isValue_57 rfl (lv_at hl 0 rfl) ?_
  refine g_X1_32 Cx hW (k := 188) (by decide) rfl (v := .ref (G.2.2.1 + 209)) (rf_188_3 iu_22) dX1_isValue_58 ?_
  have q_25 : 0 ≤ u_22.1 219 1 ∧ u_22.1 219 1 ≤ 32 := iu_22.fi 219 1 0 (by decide) rfl
  have q_26 : 0 ≤ S.1 209 1 ∧ S.1 209 1 ≤ 32 := hI.fi 209 1 0 (by decide) rfl
  have lk_27 : u_22.1 209 1 = S.1 209 1 := ((fu_22 209 rfl).1 1).trans (((fu_19 209 rfl).1 1).trans (((fu_13 209 rfl).1 1).trans (((fu_4 209 rfl).1 1).trans ((fu_1 209 rfl).1 1))))
  refine sBv (sV (As := [.ref (G.2.2.1 + 219), .ref (G.2.2.1 + 209)]) (rest := []) (k := 217) Cx (s_X0_product l G u_22 (o := 217) (a := 219) (b := 209) iu_22 rfl rfl rfl (show (217 : Nat) ≠ 219 by decide) (show (217 : Nat) ≠ 209 by decide)) (c_X1_163 Cx rfl rfl (rmk_ok (by omega) (by decide))) hW (by decide) rfl rfl rfl hl.1 rfl (Nat.le_of_ble_eq_true rfl) dX1_isValue_61 ⟨Nat.le_of_ble_eq_true rfl, Nat.le_of_ble_eq_true rfl⟩) hL (fun u_28 H locs k_29 hW hL => ?_)
  obtain ⟨iu_28, fu_28, xu_28⟩ := k_29
  have F_30 := F_24.trans (fu_28.to (pB_sub rfl rfl))
  refine lv_aload_n hx hb dX1_isValue_64 rfl (lv_at hl 0 rfl) ?_
  refine g_X1_51 Cx hW (k := 188) (by decide) rfl (v := .ref (G.2.2.1 + 221)) (rf_188_9 iu_28) dX1_isValue_65 ?_
  refine lv_aload_n hx hb dX1_isValue_68 rfl (lv_at hl 0 rfl) ?_
  refine g_X1_45 Cx hW (k := 188) (by decide) rfl (v := .ref (G.2.2.1 + 217)) (rf_188_7 iu_28) dX1_isValue_69 ?_
  refine sBi (sV (As := [.ref (G.2.2.1 + 217)]) (rest := []) (k := 221) Cx (s_X0_compareWith l G u_28 (o := 221) (a := 217) iu_28 rfl rfl) (c_X1_177 Cx rfl rfl (rmk_ok (by omega) (by decide))) hW (by decide) rfl rfl rfl hl.1 rfl (Nat.le_of_ble_eq_true rfl) dX1_isValue_72 ⟨Nat.le_of_ble_eq_true rfl, Nat.le_of_ble_eq_true rfl⟩) hL (fun r_33 u_31 H locs k_32 hW hL => ?_)
  obtain ⟨eu_31, xu_31⟩ := k_32
  rw [eu_31] at hW
  refine r_if_ne (tgt := 82) hx hb ⟨(by omega), (by omega)⟩ dX1_isValue_75 (by decide) (fun c_34 => ?_) (fun c_34 => ?_)
  · refine lv_iconst (v := iv 0) hx hb dX1_isValue_82 (by decide) ?_
    exact sZret Cx hr hlk hW hL (by omega) ⟨iu_28, F_30, (by omega)⟩ dX1_isValue_83
  · refine lv_iconst (v := iv 1) hx hb dX1_isValue_78 (by decide) ?_
    refine lv_goto (tgt := 83) hx hb dX1_isValue_79 (by decide) ?_
    exact sZret Cx hr hlk hW hL (by omega) ⟨iu_28, F_30, (by omega)⟩ dX1_isValue_83

set_option maxRecDepth 100000 in
set_option maxHeartbeats 4000000 in
theorem s_X1_isPoint (l : Launch) (G : sG) (S : sS) {mw : Int} (hI : cX G S 0 0 0) (hmw : 0 ≤ mw ∧ mw ≤ 1) : Met l yX1_isPoint (.code yX1_isPoint cX1_isPoint 3 (some .boolean) :: tb) (rmk 5 0 0) (sPc G 294 S [.ref (G.2.2.1 + 188), .int (iv mw)]) (sQi G 294 (fun r u => cX G u 0 0 0 ∧ Fr S u pS12 ∧ (0 ≤ r ∧ r ≤ 1))) 0 0 (sF G) := by
  refine sEnter (by decide) (Nat.le_of_ble_eq_true rfl) ?_
  intro p e s m args below meth c Cx hr hlk hnm hW ls hl
  have Cx : sC G p m c cX1_isPoint 3 s args RX1 := Cx
  obtain ⟨hx, hb, hml, hown, hts⟩ := id Cx.1
  have hL : sL G [] := sL_nil
  have hl : lv_has ls 3 [(0, .ref (G.2.2.1 + 188)), (1, .int (iv mw))] := hl
  have hW0 := hW
  refine lv_aload_n hx hb dX1_isPoint_0 rfl (lv_at hl 0 rfl) ?_
  refine g_X1_39 Cx hW (k := 188) (by decide) rfl (v := .ref (G.2.2.1 + 213)) (rf_188_5 hI) dX1_isPoint_1 ?_
  refine lv_aload_n hx hb dX1_isPoint_4 rfl (lv_at hl 0 rfl) ?_
  refine g_X1_27 Cx hW (k := 188) (by decide) rfl (v := .ref (G.2.2.1 + 208)) (rf_188_2 hI) dX1_isPoint_5 ?_
  refine lv_iconst (v := iv 0) hx hb dX1_isPoint_8 (by decide) ?_
  refine sBv (sV (As := [.ref (G.2.2.1 + 208), .int (iv 0)]) (rest := []) (k := 213) Cx (s_X0_load l G S (o := 213) (k := 208) (a := 0) (N := 104) hI rfl ⟨by decide, rfl, by decide, rfl, rfl, rfl⟩ (by omega)) (c_X1_157 Cx rfl rfl (rmk_ok (by omega) (by decide))) hW (by decide) rfl rfl rfl hl.1 rfl (Nat.le_of_ble_eq_true rfl) dX1_isPoint_9 ⟨Nat.le_of_ble_eq_true rfl, Nat.le_of_ble_eq_true rfl⟩) hL (fun u_1 H locs k_2 hW hL => ?_)
  obtain ⟨iu_1, fu_1, xu_1⟩ := k_2
  have F_3 := (Fr.rf : Fr S S pS12).trans (fu_1.to (pB_sub rfl rfl))
  have yu_1 : u_1.1 213 1 ≤ 7 := xu_1.1
  refine lv_iconst (v := iv 1) hx hb dX1_isPoint_12 (by decide) ?_
  refine lv_istore_n (lv' := [(2, .int (iv 1)), (0, .ref (G.2.2.1 + 188)), (1, .int (iv mw))]) hx hb dX1_isPoint_13 rfl hl (by decide) rfl (fun ls hl => ?_)
  have loop_14 : ∀ (fuel : Nat) (S14 : sS) (j : Int) (H : Heap) (locs : List Loc) (ls : Array Slot), (13 - j).toNat < fuel → (cX G S14 0 0 0) → (Fr S S14 pS12) → (Fr u_1 S14 pS12) → (1 ≤ j ∧ j ≤ 13) → (S14.1 213 1 ≤ 7) → sW G 294 S14 H → sL G locs → lv_has ls 3 [(2, .int (iv j)), (0, .ref (G.2.2.1 + 188)), (1, .int (iv mw))] → W p l e (rmk 5 0 0) s m args below meth c H locs 0 0 (MQ below (sQi G 294 (fun r u => cX G u 0 0 0 ∧ Fr S u pS12 ∧ (0 ≤ r ∧ r ≤ 1))) args s 0 0 (sF G)) (F0 m 14 ls []) := by
    intro fuel
    induction fuel with
    | zero => intro S14 j H locs ls hmeas hI14 hFm14 hL14_ hj hq hW hL hl; exact absurd hmeas (Nat.not_lt_zero _)
    | succ fuel ih_14 =>
      intro S14 j H locs ls hmeas hI14 hFm14 hL14_ hj hq hW hL hl
      refine lv_iload_n hx hb dX1_isPoint_14 rfl (lv_at hl 0 rfl) ?_
      refine lv_aload_n hx hb dX1_isPoint_15 rfl (lv_at hl 1 rfl) ?_
      obtain ⟨o_4, mo_4, eo_4⟩ := hI.rm.2.2.2.1
      refine g_X1_69 Cx hW (k := 188) (by decide) rfl (v := .ref (G.2.2.1 + o_4)) ((((hL14_ 188 rfl).2.2.2 15).trans ((fu_1 188 rfl).2.2.2 15)).trans eo_4) dX1_isPoint_16 ?_
      have q_5 : 0 ≤ S14.1 o_4 2 ∧ S14.1 o_4 2 ≤ 12 := hI14.fi o_4 2 3 (mdl_k mo_4) mo_4.1
      refine g_X1_84 Cx hW (k := o_4) (mdl_l mo_4) mo_4.1 (v := S14.1 o_4 2) rfl dX1_isPoint_19 ?_
      refine r_icmp_gt (tgt := 104) hx hb ⟨(by omega), (by omega)⟩ ⟨(by omega), (by omega)⟩ dX1_isPoint_22 (by decide) (fun c_6 => ?_) (fun c_6 => ?_)
      · refine lv_iconst (v := iv 1) hx hb dX1_isPoint_104 (by decide) ?_
        refine lv_istore_n (lv' := [(2, .int (iv 1)), (0, .ref (G.2.2.1 + 188)), (1, .int (iv mw))]) hx hb dX1_isPoint_105 rfl hl (by decide) rfl (fun ls hl => ?_)
        have loop_106 : ∀ (fuel : Nat) (S106 : sS) (k : Int) (H : Heap) (locs : List Loc) (ls : Array Slot), (17 - k).toNat < fuel → (cX G S106 0 0 0) → (Fr S S106 pS12) → (Fr u_1 S106 pS12) → (Fr S14 S106 pS12) → (1 ≤ k ∧ k ≤ 17) → sW G 294 S106 H → sL G locs → lv_has ls 3 [(2, .int (iv k)), (0, .ref (G.2.2.1 + 188)), (1, .int (iv mw))] → W p l e (rmk 5 0 0) s m args below meth c H locs 0 0 (MQ below (sQi G 294 (fun r u => cX G u 0 0 0 ∧ Fr S u pS12 ∧ (0 ≤ r ∧ r ≤ 1))) args s 0 0 (sF G)) (F0 m 106 ls []) := by
          intro fuel
          induction fuel with
          | zero => intro S106 k H locs ls hmeas hI106 hFm106 hFL14106 hL106_ hk hW hL hl; exact absurd hmeas (Nat.not_lt_zero _)
          | succ fuel ih_106 =>
            intro S106 k H locs ls hmeas hI106 hFm106 hFL14106 hL106_ hk hW hL hl
            refine lv_iload_n hx hb dX1_isPoint_106 rfl (lv_at hl 0 rfl) ?_
            refine lv_aload_n hx hb dX1_isPoint_107 rfl (lv_at hl 1 rfl) ?_
            refine g_X1_69 Cx hW (k := 188) (by decide) rfl (v := .ref (G.2.2.1 + o_4)) ((((hL106_ 188 rfl).2.2.2 15).trans (((hL14_ 188 rfl).2.2.2 15).trans ((fu_1 188 rfl).2.2.2 15))).trans eo_4) dX1_isPoint_108 ?_
            have q_7 : 0 ≤ S106.1 o_4 3 ∧ S106.1 o_4 3 ≤ 16 := hI106.fi o_4 3 3 (mdl_k mo_4) mo_4.1
            refine g_X1_191 Cx hW (k := o_4) (mdl_l mo_4) mo_4.1 (v := S106.1 o_4 3) rfl dX1_isPoint_111 ?_
            refine r_icmp_gt (tgt := 149) hx hb ⟨(by omega), (by omega)⟩ ⟨(by omega), (by omega)⟩ dX1_isPoint_114 (by decide) (fun c_8 => ?_) (fun c_8 => ?_)
            · refine lv_iconst (v := iv 1) hx hb dX1_isPoint_149 (by decide) ?_
              exact sZret Cx hr hlk hW hL (by omega) ⟨hI106, hFm106, (by omega)⟩ dX1_isPoint_150
            · refine lv_aload_n hx hb dX1_isPoint_117 rfl (lv_at hl 1 rfl) ?_
              refine lv_iload_n hx hb dX1_isPoint_118 rfl (lv_at hl 0 rfl) ?_
              refine sBv (sV (As := [.int (iv k)]) (rest := []) (k := 188) Cx (s_X1_sumAt l G S106 (k := k) hI106 (by omega)) (c_X1_170 Cx rfl rfl (rmk_ok (by omega) (by decide))) hW (by decide) rfl rfl rfl hl.1 rfl (Nat.le_of_ble_eq_true rfl) dX1_isPoint_119 ⟨Nat.le_of_ble_eq_true rfl, Nat.le_of_ble_eq_true rfl⟩) hL (fun u_9 H locs k_10 hW hL => ?_)
              obtain ⟨iu_9, fu_9, xu_9⟩ := k_10
              have F_11 := hFm106.trans (fu_9.to pS8_12)
              have F_12 := hFL14106.trans (fu_9.to pS8_12)
              have F_13 := hL106_.trans (fu_9.to pS8_12)
              refine lv_aload_n hx hb dX1_isPoint_122 rfl (lv_at hl 1 rfl) ?_
              refine lv_iload_n hx hb dX1_isPoint_123 rfl (lv_at hl 0 rfl) ?_
              refine sBv (sV (As := [.int (iv k)]) (rest := []) (k := 188) Cx (s_X1_scaleBound l G u_9 (k := k) iu_9 (by omega)) (c_X1_174 Cx rfl rfl (rmk_ok (by omega) (by decide))) hW (by decide) rfl rfl rfl hl.1 rfl (Nat.le_of_ble_eq_true rfl) dX1_isPoint_124 ⟨Nat.le_of_ble_eq_true rfl, Nat.le_of_ble_eq_true rfl⟩) hL (fun u_14 H locs k_15 hW hL => ?_)
              obtain ⟨iu_14, fu_14, xu_14⟩ := k_15
              have F_16 := F_11.trans (fu_14.to (fun k h => pS8_12 k (pS6_8 k h)))
              have F_17 := F_12.trans (fu_14.to (fun k h => pS8_12 k (pS6_8 k h)))
              have F_18 := F_13.trans (fu_14.to (fun k h => pS8_12 k (pS6_8 k h)))
              refine lv_aload_n hx hb dX1_isPoint_127 rfl (lv_at hl 1 rfl) ?_
              refine g_X1_42 Cx hW (k := 188) (by decide) rfl (v := .ref (G.2.2.1 + 215)) (rf_188_6 iu_14) dX1_isPoint_128 ?_
              refine lv_aload_n hx hb dX1_isPoint_131 rfl (lv_at hl 1 rfl) ?_
              refine g_X1_51 Cx hW (k := 188) (by decide) rfl (v := .ref (G.2.2.1 + 221)) (rf_188_9 iu_14) dX1_isPoint_132 ?_
              refine sBi (sV (As := [.ref (G.2.2.1 + 221)]) (rest := []) (k := 215) Cx (s_X0_compareWith l G u_14 (o := 215) (a := 221) iu_14 rfl rfl) (c_X1_177 Cx rfl rfl (rmk_ok (by omega) (by decide))) hW (by decide) rfl rfl rfl hl.1 rfl (Nat.le_of_ble_eq_true rfl) dX1_isPoint_135 ⟨Nat.le_of_ble_eq_true rfl, Nat.le_of_ble_eq_true rfl⟩) hL (fun r_21 u_19 H locs k_20 hW hL => ?_)
              obtain ⟨eu_19, xu_19⟩ := k_20
              rw [eu_19] at hW
              refine r_if_le (tgt := 143) hx hb ⟨(by omega), (by omega)⟩ dX1_isPoint_138 (by decide) (fun c_22 => ?_) (fun c_22 => ?_)
              · refine lv_iinc (v := iv (k + 1)) (lv' := [(2, .int (iv (k + 1))), (0, .ref (G.2.2.1 + 188)), (1, .int (iv mw))]) hx hb dX1_isPoint_143 hl (k := 0) rfl ((Int32.ofInt_add _ _).symm) (by decide) rfl (fun ls hl => ?_)
                refine lv_goto (tgt := 106) hx hb dX1_isPoint_146 (by decide) ?_
                exact ih_106 u_14 (k + 1) _ _ _ (by omega) iu_14 F_16 F_17 F_18 (by omega) hW hL (lv_sub hl [0, 1, 2] rfl)
              · refine lv_iconst (v := iv 0) hx hb dX1_isPoint_141 (by decide) ?_
                exact sZret Cx hr hlk hW hL (by omega) ⟨iu_14, F_16, (by omega)⟩ dX1_isPoint_142
        exact loop_106 (_ + 1) S14 1 _ _ _ (Nat.lt_succ_self _) hI14 hFm14 hL14_ Fr.rf (by omega) hW hL (lv_sub hl [0, 1, 2] rfl)
      · refine lv_aload_n hx hb dX1_isPoint_25 rfl (lv_at hl 1 rfl) ?_
        refine g_X1_48 Cx hW (k := 188) (by decide) rfl (v := .ref (G.2.2.1 + 219)) (rf_188_8 hI14) dX1_isPoint_26 ?_
        refine lv_aload_n hx hb dX1_isPoint_29 rfl (lv_at hl 1 rfl) ?_
        refine g_X1_27 Cx hW (k := 188) (by decide) rfl (v := .ref (G.2.2.1 + 208)) (rf_188_2 hI14) dX1_isPoint_30 ?_
        refine lv_iload_n hx hb dX1_isPoint_33 rfl (lv_at hl 0 rfl) ?_
        refine lv_bipush (v := iv 8) hx hb dX1_isPoint_34 (by decide) ?_
        refine r_imul hx hb dX1_isPoint_36 ?_
        refine sBv (sV (As := [.ref (G.2.2.1 + 208), .int (iv (j * 8))]) (rest := []) (k := 219) Cx (s_X0_load l G S14 (o := 219) (k := 208) (a := j * 8) (N := 104) hI14 rfl ⟨by decide, rfl, by decide, rfl, rfl, rfl⟩ (by omega)) (c_X1_157 Cx rfl rfl (rmk_ok (by omega) (by decide))) hW (by decide) rfl rfl rfl hl.1 rfl (Nat.le_of_ble_eq_true rfl) dX1_isPoint_37 ⟨Nat.le_of_ble_eq_true rfl, Nat.le_of_ble_eq_true rfl⟩) hL (fun u_23 H locs k_24 hW hL => ?_)
        obtain ⟨iu_23, fu_23, xu_23⟩ := k_24
        have F_25 := hFm14.trans (fu_23.to (pB_sub rfl rfl))
        have F_26 := hL14_.trans (fu_23.to (pB_sub rfl rfl))
        have yu_23 : u_23.1 219 1 ≤ 7 := xu_23.1
        refine lv_aload_n hx hb dX1_isPoint_40 rfl (lv_at hl 1 rfl) ?_
        refine g_X1_48 Cx hW (k := 188) (by decide) rfl (v := .ref (G.2.2.1 + 219)) (rf_188_8 iu_23) dX1_isPoint_41 ?_
        have q_27 : (-1) ≤ u_23.1 219 2 ∧ u_23.1 219 2 ≤ 1 := iu_23.fi 219 2 0 (by decide) rfl
        refine g_X1_181 Cx hW (k := 219) (by decide) rfl (v := u_23.1 219 2) rfl dX1_isPoint_44 ?_
        refine r_if_ge (tgt := 52) hx hb ⟨(by omega), (by omega)⟩ dX1_isPoint_47 (by decide) (fun c_28 => ?_) (fun c_28 => ?_)
        · have join_98 : ∀ (S98 : sS)  (H : Heap) (locs : List Loc) (ls : Array Slot), (cX G S98 0 0 0) → (Fr S S98 pS12) → (Fr u_1 S98 pS12) → (Fr u_23 S98 pS12) → (S98.1 213 1 ≤ 7) → sW G 294 S98 H → sL G locs → lv_has ls 3 [(2, .int (iv j)), (0, .ref (G.2.2.1 + 188)), (1, .int (iv mw))] → W p l e (rmk 5 0 0) s m args below meth c H locs 0 0 (MQ below (sQi G 294 (fun r u => cX G u 0 0 0 ∧ Fr S u pS12 ∧ (0 ≤ r ∧ r ≤ 1))) args s 0 0 (sF G)) (F0 m 98 ls []) := by
            intro S98  H locs ls hI98 hFm98 hFL1498 hL98_ hq98 hW hL hl
            refine lv_iinc (v := iv (j + 1)) (lv' := [(2, .int (iv (j + 1))), (0, .ref (G.2.2.1 + 188)), (1, .int (iv mw))]) hx hb dX1_isPoint_98 hl (k := 0) rfl ((Int32.ofInt_add _ _).symm) (by decide) rfl (fun ls hl => ?_)
            refine lv_goto (tgt := 14) hx hb dX1_isPoint_101 (by decide) ?_
            have q_29 : 0 ≤ S98.1 213 1 ∧ S98.1 213 1 ≤ 32 := hI98.fi 213 1 0 (by decide) rfl
            exact ih_14 S98 (j + 1) _ _ _ (by omega) hI98 hFm98 hFL1498 (by omega) (by omega) hW hL (lv_sub hl [0, 1, 2] rfl)
          refine lv_iload_n hx hb dX1_isPoint_52 rfl (lv_at hl 2 rfl) ?_
          refine r_if_eq (tgt := 98) hx hb ⟨(by omega), (by omega)⟩ dX1_isPoint_53 (by decide) (fun c_30 => ?_) (fun c_30 => ?_)
          · have q_31 : 0 ≤ S14.1 213 1 ∧ S14.1 213 1 ≤ 32 := hI14.fi 213 1 0 (by decide) rfl
            have lk_32 : u_23.1 213 1 = S14.1 213 1 := (fu_23 213 rfl).1 1
            exact join_98 u_23  _ _ _ iu_23 F_25 F_26 (Fr.rf : Fr u_23 u_23 pS12) (by omega) hW hL (lv_sub hl [0, 1, 2] rfl)
          · refine lv_aload_n hx hb dX1_isPoint_56 rfl (lv_at hl 1 rfl) ?_
            refine g_X1_69 Cx hW (k := 188) (by decide) rfl (v := .ref (G.2.2.1 + o_4)) ((((fu_23 188 rfl).2.2.2 15).trans (((hL14_ 188 rfl).2.2.2 15).trans ((fu_1 188 rfl).2.2.2 15))).trans eo_4) dX1_isPoint_57 ?_
            refine lv_iload_n hx hb dX1_isPoint_60 rfl (lv_at hl 0 rfl) ?_
            have lk_33 : u_23.1 o_4 2 = S14.1 o_4 2 := (fu_23 o_4 (pB_no (tau_ne mo_4.1 (rfl : tau 219 = .inl 0) (fun h => by cases h)) (tau_ne mo_4.1 (rfl : tau 220 = .inr (.int, 32)) (fun h => by cases h)))).1 2
            refine sBi (sV (As := [.int (iv j)]) (rest := []) (k := o_4) Cx (s_X3_isWhole l G u_23 (o := o_4) (j := j) iu_23 mo_4 (by omega)) (c_X1_184 Cx rfl rfl (rmk_ok (by omega) (by decide))) hW (mdl_l mo_4) mo_4.1 rfl rfl hl.1 rfl (Nat.le_of_ble_eq_true rfl) dX1_isPoint_61 ⟨Nat.le_of_ble_eq_true rfl, Nat.le_of_ble_eq_true rfl⟩) hL (fun r_36 u_34 H locs k_35 hW hL => ?_)
            obtain ⟨eu_34, xu_34⟩ := k_35
            rw [eu_34] at hW
            refine r_if_eq (tgt := 98) hx hb ⟨(by omega), (by omega)⟩ dX1_isPoint_64 (by decide) (fun c_37 => ?_) (fun c_37 => ?_)
            · have q_38 : 0 ≤ S14.1 213 1 ∧ S14.1 213 1 ≤ 32 := hI14.fi 213 1 0 (by decide) rfl
              have lk_39 : u_23.1 213 1 = S14.1 213 1 := (fu_23 213 rfl).1 1
              exact join_98 u_23  _ _ _ iu_23 F_25 F_26 (Fr.rf : Fr u_23 u_23 pS12) (by omega) hW hL (lv_sub hl [0, 1, 2] rfl)
            · refine lv_aload_n hx hb dX1_isPoint_67 rfl (lv_at hl 1 rfl) ?_
              refine g_X1_48 Cx hW (k := 188) (by decide) rfl (v := .ref (G.2.2.1 + 219)) (rf_188_8 iu_23) dX1_isPoint_68 ?_
              refine lv_aload_n hx hb dX1_isPoint_71 rfl (lv_at hl 1 rfl) ?_
              refine g_X1_39 Cx hW (k := 188) (by decide) rfl (v := .ref (G.2.2.1 + 213)) (rf_188_5 iu_23) dX1_isPoint_72 ?_
              refine lv_aload_n hx hb dX1_isPoint_75 rfl (lv_at hl 1 rfl) ?_
              refine g_X1_45 Cx hW (k := 188) (by decide) rfl (v := .ref (G.2.2.1 + 217)) (rf_188_7 iu_23) dX1_isPoint_76 ?_
              refine lv_aload_n hx hb dX1_isPoint_79 rfl (lv_at hl 1 rfl) ?_
              refine g_X1_54 Cx hW (k := 188) (by decide) rfl (v := .ref (G.2.2.1 + 223)) (rf_188_10 iu_23) dX1_isPoint_80 ?_
              have q_40 : 0 ≤ u_23.1 219 1 ∧ u_23.1 219 1 ≤ 32 := iu_23.fi 219 1 0 (by decide) rfl
              have q_41 : 0 ≤ S14.1 213 1 ∧ S14.1 213 1 ≤ 32 := hI14.fi 213 1 0 (by decide) rfl
              have lk_42 : u_23.1 213 1 = S14.1 213 1 := (fu_23 213 rfl).1 1
              have q_43 : (-1) ≤ S14.1 213 2 ∧ S14.1 213 2 ≤ 1 := hI14.fi 213 2 0 (by decide) rfl
              have lk_44 : u_23.1 213 2 = S14.1 213 2 := (fu_23 213 rfl).1 2
              refine sBv (sV (As := [.ref (G.2.2.1 + 213), .ref (G.2.2.1 + 217), .ref (G.2.2.1 + 223)]) (rest := []) (k := 219) Cx (s_X0_divide l G u_23 (o := 219) (b := 213) (q := 217) (h := 223) (n := 7) iu_23 rfl rfl rfl rfl (show (219 : Nat) ≠ 213 by decide) (show (219 : Nat) ≠ 217 by decide) (show (219 : Nat) ≠ 223 by decide) (show (213 : Nat) ≠ 217 by decide) (show (213 : Nat) ≠ 223 by decide) (show (217 : Nat) ≠ 223 by decide) (by omega)) (c_X1_187 Cx rfl rfl (rmk_ok (by omega) (by decide))) hW (by decide) rfl rfl rfl hl.1 rfl (Nat.le_of_ble_eq_true rfl) dX1_isPoint_83 ⟨Nat.le_of_ble_eq_true rfl, Nat.le_of_ble_eq_true rfl⟩) hL (fun u_45 H locs k_46 hW hL => ?_)
              obtain ⟨iu_45, fu_45, xu_45⟩ := k_46
              have F_47 := F_25.trans (fu_45.to (pD_sub (pB_sub rfl rfl) (pB_sub rfl rfl) (pB_sub rfl rfl)))
              have F_48 := F_26.trans (fu_45.to (pD_sub (pB_sub rfl rfl) (pB_sub rfl rfl) (pB_sub rfl rfl)))
              have F_49 := (Fr.rf : Fr u_23 u_23 pS12).trans (fu_45.to (pD_sub (pB_sub rfl rfl) (pB_sub rfl rfl) (pB_sub rfl rfl)))
              refine lv_aload_n hx hb dX1_isPoint_86 rfl (lv_at hl 1 rfl) ?_
              refine g_X1_48 Cx hW (k := 188) (by decide) rfl (v := .ref (G.2.2.1 + 219)) (rf_188_8 iu_45) dX1_isPoint_87 ?_
              have q_50 : (-1) ≤ u_45.1 219 2 ∧ u_45.1 219 2 ≤ 1 := iu_45.fi 219 2 0 (by decide) rfl
              refine g_X1_181 Cx hW (k := 219) (by decide) rfl (v := u_45.1 219 2) rfl dX1_isPoint_90 ?_
              refine r_if_eq (tgt := 98) hx hb ⟨(by omega), (by omega)⟩ dX1_isPoint_93 (by decide) (fun c_51 => ?_) (fun c_51 => ?_)
              · have lk_52 : u_45.1 213 1 = S14.1 213 1 := ((fu_45 213 rfl).1 1).trans ((fu_23 213 rfl).1 1)
                exact join_98 u_45  _ _ _ iu_45 F_47 F_48 F_49 (by omega) hW hL (lv_sub hl [0, 1, 2] rfl)
              · refine lv_iconst (v := iv 0) hx hb dX1_isPoint_96 (by decide) ?_
                exact sZret Cx hr hlk hW hL (by omega) ⟨iu_45, F_47, (by omega)⟩ dX1_isPoint_97
        · refine lv_iconst (v := iv 0) hx hb dX1_isPoint_50 (by decide) ?_
          exact sZret Cx hr hlk hW hL (by omega) ⟨iu_23, F_25, (by omega)⟩ dX1_isPoint_51
  have q_53 : 0 ≤ u_1.1 213 1 ∧ u_1.1 213 1 ≤ 32 := iu_1.fi 213 1 0 (by decide) rfl
  exact loop_14 (_ + 1) u_1 1 _ _ _ (Nat.lt_succ_self _) iu_1 F_3 Fr.rf (by omega) (by omega) hW hL (lv_sub hl [0, 1, 2] rfl)

set_option maxRecDepth 100000 in
set_option maxHeartbeats 4000000 in
theorem s_X1_isAlong (l : Launch) (G : sG) (S : sS)  (hI : cX G S 0 0 0) : Met l yX1_isAlong (.code yX1_isAlong cX1_isAlong 2 (some .boolean) :: tb) (rmk 5 0 0) (sPc G 294 S [.ref (G.2.2.1 + 188)]) (sQi G 294 (fun r u => cX G u 0 0 0 ∧ Fr S u pS8 ∧ (0 ≤ r ∧ r ≤ 1))) 0 0 (sF G) := by
  refine sEnter (by decide) (Nat.le_of_ble_eq_true rfl) ?_
  intro p e s m args below meth c Cx hr hlk hnm hW ls hl
  have Cx : sC G p m c cX1_isAlong 2 s args RX1 := Cx
  obtain ⟨hx, hb, hml, hown, hts⟩ := id Cx.1
  have hL : sL G [] := sL_nil
  have hl : lv_has ls 2 [(0, .ref (G.2.2.1 + 188))] := hl
  have hW0 := hW
  refine lv_iconst (v := iv 1) hx hb dX1_isAlong_0 (by decide) ?_
  refine lv_istore_n (lv' := [(1, .int (iv 1)), (0, .ref (G.2.2.1 + 188))]) hx hb dX1_isAlong_1 rfl hl (by decide) rfl (fun ls hl => ?_)
  have loop_2 : ∀ (fuel : Nat) (S2 : sS) (j : Int) (H : Heap) (locs : List Loc) (ls : Array Slot), (13 - j).toNat < fuel → (cX G S2 0 0 0) → (Fr S S2 pS8) → (Fr S S2 pS8) → (1 ≤ j ∧ j ≤ 13) → sW G 294 S2 H → sL G locs → lv_has ls 2 [(1, .int (iv j)), (0, .ref (G.2.2.1 + 188))] → W p l e (rmk 5 0 0) s m args below meth c H locs 0 0 (MQ below (sQi G 294 (fun r u => cX G u 0 0 0 ∧ Fr S u pS8 ∧ (0 ≤ r ∧ r ≤ 1))) args s 0 0 (sF G)) (F0 m 2 ls []) := by
    intro fuel
    induction fuel with
    | zero => intro S2 j H locs ls hmeas hI2 hFm2 hL2_ hj hW hL hl; exact absurd hmeas (Nat.not_lt_zero _)
    | succ fuel ih_2 =>
      intro S2 j H locs ls hmeas hI2 hFm2 hL2_ hj hW hL hl
      refine lv_iload_n hx hb dX1_isAlong_2 rfl (lv_at hl 0 rfl) ?_
      refine lv_aload_n hx hb dX1_isAlong_3 rfl (lv_at hl 1 rfl) ?_
      obtain ⟨o_1, mo_1, eo_1⟩ := hI.rm.2.2.2.1
      refine g_X1_69 Cx hW (k := 188) (by decide) rfl (v := .ref (G.2.2.1 + o_1)) (((hL2_ 188 rfl).2.2.2 15).trans eo_1) dX1_isAlong_4 ?_
      have q_2 : 0 ≤ S2.1 o_1 2 ∧ S2.1 o_1 2 ≤ 12 := hI2.fi o_1 2 3 (mdl_k mo_1) mo_1.1
      refine g_X1_84 Cx hW (k := o_1) (mdl_l mo_1) mo_1.1 (v := S2.1 o_1 2) rfl dX1_isAlong_7 ?_
      refine r_icmp_gt (tgt := 46) hx hb ⟨(by omega), (by omega)⟩ ⟨(by omega), (by omega)⟩ dX1_isAlong_10 (by decide) (fun c_3 => ?_) (fun c_3 => ?_)
      · refine lv_iconst (v := iv 1) hx hb dX1_isAlong_46 (by decide) ?_
        refine lv_istore_n (lv' := [(1, .int (iv 1)), (0, .ref (G.2.2.1 + 188))]) hx hb dX1_isAlong_47 rfl hl (by decide) rfl (fun ls hl => ?_)
        have loop_48 : ∀ (fuel : Nat) (S48 : sS) (k : Int) (H : Heap) (locs : List Loc) (ls : Array Slot), (17 - k).toNat < fuel → (cX G S48 0 0 0) → (Fr S S48 pS8) → (Fr S S48 pS8) → (Fr S2 S48 pS8) → (1 ≤ k ∧ k ≤ 17) → sW G 294 S48 H → sL G locs → lv_has ls 2 [(1, .int (iv k)), (0, .ref (G.2.2.1 + 188))] → W p l e (rmk 5 0 0) s m args below meth c H locs 0 0 (MQ below (sQi G 294 (fun r u => cX G u 0 0 0 ∧ Fr S u pS8 ∧ (0 ≤ r ∧ r ≤ 1))) args s 0 0 (sF G)) (F0 m 48 ls []) := by
          intro fuel
          induction fuel with
          | zero => intro S48 k H locs ls hmeas hI48 hFm48 hFL248 hL48_ hk hW hL hl; exact absurd hmeas (Nat.not_lt_zero _)
          | succ fuel ih_48 =>
            intro S48 k H locs ls hmeas hI48 hFm48 hFL248 hL48_ hk hW hL hl
            refine lv_iload_n hx hb dX1_isAlong_48 rfl (lv_at hl 0 rfl) ?_
            refine lv_aload_n hx hb dX1_isAlong_49 rfl (lv_at hl 1 rfl) ?_
            refine g_X1_69 Cx hW (k := 188) (by decide) rfl (v := .ref (G.2.2.1 + o_1)) ((((hL48_ 188 rfl).2.2.2 15).trans ((hL2_ 188 rfl).2.2.2 15)).trans eo_1) dX1_isAlong_50 ?_
            have q_4 : 0 ≤ S48.1 o_1 3 ∧ S48.1 o_1 3 ≤ 16 := hI48.fi o_1 3 3 (mdl_k mo_1) mo_1.1
            refine g_X1_191 Cx hW (k := o_1) (mdl_l mo_1) mo_1.1 (v := S48.1 o_1 3) rfl dX1_isAlong_53 ?_
            refine r_icmp_gt (tgt := 82) hx hb ⟨(by omega), (by omega)⟩ ⟨(by omega), (by omega)⟩ dX1_isAlong_56 (by decide) (fun c_5 => ?_) (fun c_5 => ?_)
            · refine lv_aload_n hx hb dX1_isAlong_82 rfl (lv_at hl 1 rfl) ?_
              refine lv_iconst (v := iv 0) hx hb dX1_isAlong_83 (by decide) ?_
              refine sBv (sV (As := [.int (iv 0)]) (rest := []) (k := 188) Cx (s_X1_sumAt l G S48 (k := 0) hI48 (by omega)) (c_X1_170 Cx rfl rfl (rmk_ok (by omega) (by decide))) hW (by decide) rfl rfl rfl hl.1 rfl (Nat.le_of_ble_eq_true rfl) dX1_isAlong_84 ⟨Nat.le_of_ble_eq_true rfl, Nat.le_of_ble_eq_true rfl⟩) hL (fun u_6 H locs k_7 hW hL => ?_)
              obtain ⟨iu_6, fu_6, xu_6⟩ := k_7
              have F_8 := hFm48.trans fu_6
              have F_9 := hFL248.trans fu_6
              have F_10 := hL48_.trans fu_6
              refine lv_aload_n hx hb dX1_isAlong_87 rfl (lv_at hl 1 rfl) ?_
              refine g_X1_42 Cx hW (k := 188) (by decide) rfl (v := .ref (G.2.2.1 + 215)) (rf_188_6 iu_6) dX1_isAlong_88 ?_
              have q_11 : (-1) ≤ u_6.1 215 2 ∧ u_6.1 215 2 ≤ 1 := iu_6.fi 215 2 0 (by decide) rfl
              refine g_X1_181 Cx hW (k := 215) (by decide) rfl (v := u_6.1 215 2) rfl dX1_isAlong_91 ?_
              refine r_if_le (tgt := 101) hx hb ⟨(by omega), (by omega)⟩ dX1_isAlong_94 (by decide) (fun c_12 => ?_) (fun c_12 => ?_)
              · refine lv_iconst (v := iv 0) hx hb dX1_isAlong_101 (by decide) ?_
                exact sZret Cx hr hlk hW hL (by omega) ⟨iu_6, F_8, (by omega)⟩ dX1_isAlong_102
              · refine lv_iconst (v := iv 1) hx hb dX1_isAlong_97 (by decide) ?_
                refine lv_goto (tgt := 102) hx hb dX1_isAlong_98 (by decide) ?_
                exact sZret Cx hr hlk hW hL (by omega) ⟨iu_6, F_8, (by omega)⟩ dX1_isAlong_102
            · refine lv_aload_n hx hb dX1_isAlong_59 rfl (lv_at hl 1 rfl) ?_
              refine lv_iload_n hx hb dX1_isAlong_60 rfl (lv_at hl 0 rfl) ?_
              refine sBv (sV (As := [.int (iv k)]) (rest := []) (k := 188) Cx (s_X1_sumAt l G S48 (k := k) hI48 (by omega)) (c_X1_170 Cx rfl rfl (rmk_ok (by omega) (by decide))) hW (by decide) rfl rfl rfl hl.1 rfl (Nat.le_of_ble_eq_true rfl) dX1_isAlong_61 ⟨Nat.le_of_ble_eq_true rfl, Nat.le_of_ble_eq_true rfl⟩) hL (fun u_13 H locs k_14 hW hL => ?_)
              obtain ⟨iu_13, fu_13, xu_13⟩ := k_14
              have F_15 := hFm48.trans fu_13
              have F_16 := hFL248.trans fu_13
              have F_17 := hL48_.trans fu_13
              refine lv_aload_n hx hb dX1_isAlong_64 rfl (lv_at hl 1 rfl) ?_
              refine g_X1_42 Cx hW (k := 188) (by decide) rfl (v := .ref (G.2.2.1 + 215)) (rf_188_6 iu_13) dX1_isAlong_65 ?_
              have q_18 : (-1) ≤ u_13.1 215 2 ∧ u_13.1 215 2 ≤ 1 := iu_13.fi 215 2 0 (by decide) rfl
              refine g_X1_181 Cx hW (k := 215) (by decide) rfl (v := u_13.1 215 2) rfl dX1_isAlong_68 ?_
              refine r_if_le (tgt := 76) hx hb ⟨(by omega), (by omega)⟩ dX1_isAlong_71 (by decide) (fun c_19 => ?_) (fun c_19 => ?_)
              · refine lv_iinc (v := iv (k + 1)) (lv' := [(1, .int (iv (k + 1))), (0, .ref (G.2.2.1 + 188))]) hx hb dX1_isAlong_76 hl (k := 0) rfl ((Int32.ofInt_add _ _).symm) (by decide) rfl (fun ls hl => ?_)
                refine lv_goto (tgt := 48) hx hb dX1_isAlong_79 (by decide) ?_
                exact ih_48 u_13 (k + 1) _ _ _ (by omega) iu_13 F_15 F_16 F_17 (by omega) hW hL (lv_sub hl [0, 1] rfl)
              · refine lv_iconst (v := iv 0) hx hb dX1_isAlong_74 (by decide) ?_
                exact sZret Cx hr hlk hW hL (by omega) ⟨iu_13, F_15, (by omega)⟩ dX1_isAlong_75
        exact loop_48 (_ + 1) S2 1 _ _ _ (Nat.lt_succ_self _) hI2 hFm2 hL2_ Fr.rf (by omega) hW hL (lv_sub hl [0, 1] rfl)
      · refine lv_aload_n hx hb dX1_isAlong_13 rfl (lv_at hl 1 rfl) ?_
        refine g_X1_48 Cx hW (k := 188) (by decide) rfl (v := .ref (G.2.2.1 + 219)) (rf_188_8 hI2) dX1_isAlong_14 ?_
        refine lv_aload_n hx hb dX1_isAlong_17 rfl (lv_at hl 1 rfl) ?_
        refine g_X1_27 Cx hW (k := 188) (by decide) rfl (v := .ref (G.2.2.1 + 208)) (rf_188_2 hI2) dX1_isAlong_18 ?_
        refine lv_iload_n hx hb dX1_isAlong_21 rfl (lv_at hl 0 rfl) ?_
        refine lv_bipush (v := iv 8) hx hb dX1_isAlong_22 (by decide) ?_
        refine r_imul hx hb dX1_isAlong_24 ?_
        refine sBv (sV (As := [.ref (G.2.2.1 + 208), .int (iv (j * 8))]) (rest := []) (k := 219) Cx (s_X0_load l G S2 (o := 219) (k := 208) (a := j * 8) (N := 104) hI2 rfl ⟨by decide, rfl, by decide, rfl, rfl, rfl⟩ (by omega)) (c_X1_157 Cx rfl rfl (rmk_ok (by omega) (by decide))) hW (by decide) rfl rfl rfl hl.1 rfl (Nat.le_of_ble_eq_true rfl) dX1_isAlong_25 ⟨Nat.le_of_ble_eq_true rfl, Nat.le_of_ble_eq_true rfl⟩) hL (fun u_20 H locs k_21 hW hL => ?_)
        obtain ⟨iu_20, fu_20, xu_20⟩ := k_21
        have F_22 := hFm2.trans (fu_20.to (pB_sub rfl rfl))
        have F_23 := hL2_.trans (fu_20.to (pB_sub rfl rfl))
        have yu_20 : u_20.1 219 1 ≤ 7 := xu_20.1
        refine lv_aload_n hx hb dX1_isAlong_28 rfl (lv_at hl 1 rfl) ?_
        refine g_X1_48 Cx hW (k := 188) (by decide) rfl (v := .ref (G.2.2.1 + 219)) (rf_188_8 iu_20) dX1_isAlong_29 ?_
        have q_24 : (-1) ≤ u_20.1 219 2 ∧ u_20.1 219 2 ≤ 1 := iu_20.fi 219 2 0 (by decide) rfl
        refine g_X1_181 Cx hW (k := 219) (by decide) rfl (v := u_20.1 219 2) rfl dX1_isAlong_32 ?_
        refine r_if_ge (tgt := 40) hx hb ⟨(by omega), (by omega)⟩ dX1_isAlong_35 (by decide) (fun c_25 => ?_) (fun c_25 => ?_)
        · refine lv_iinc (v := iv (j + 1)) (lv' := [(1, .int (iv (j + 1))), (0, .ref (G.2.2.1 + 188))]) hx hb dX1_isAlong_40 hl (k := 0) rfl ((Int32.ofInt_add _ _).symm) (by decide) rfl (fun ls hl => ?_)
          refine lv_goto (tgt := 2) hx hb dX1_isAlong_43 (by decide) ?_
          exact ih_2 u_20 (j + 1) _ _ _ (by omega) iu_20 F_22 F_23 (by omega) hW hL (lv_sub hl [0, 1] rfl)
        · refine lv_iconst (v := iv 0) hx hb dX1_isAlong_38 (by decide) ?_
          exact sZret Cx hr hlk hW hL (by omega) ⟨iu_20, F_22, (by omega)⟩ dX1_isAlong_39
  exact loop_2 (_ + 1) S 1 _ _ _ (Nat.lt_succ_self _) hI (Fr.rf : Fr S S pS8) Fr.rf (by omega) hW hL (lv_sub hl [0, 1] rfl)

set_option maxRecDepth 100000 in
set_option maxHeartbeats 4000000 in
theorem s_X1_takePairs (l : Launch) (G : sG) (S : sS)  (hI : cX G S 0 0 0) (hCR : CR G S) (hat : S.1 189 3 ≤ 999900000) : Met l yX1_takePairs (.code yX1_takePairs cX1_takePairs 4 (some .boolean) :: tb) (rmk 4 0 0) (sPc G 294 S [.ref (G.2.2.1 + 188)]) (sQi G 294 (fun r u => cX G u 0 0 0 ∧ Fr S u pTq ∧ (CR G u ∧ u.1 189 3 ≤ S.1 189 3 + 90010 ∧ 0 ≤ r ∧ r ≤ 1))) 0 0 (sF G) := by
  refine sEnter (by decide) (Nat.le_of_ble_eq_true rfl) ?_
  intro p e s m args below meth c Cx hr hlk hnm hW ls hl
  have Cx : sC G p m c cX1_takePairs 4 s args RX1 := Cx
  obtain ⟨hx, hb, hml, hown, hts⟩ := id Cx.1
  have hL : sL G [] := sL_nil
  have hl : lv_has ls 4 [(0, .ref (G.2.2.1 + 188))] := hl
  have hW0 := hW
  have hat0 : 0 ≤ S.1 189 3 ∧ S.1 189 3 ≤ 1000000000 := hI.fi 189 3 4 (by decide) rfl
  refine lv_aload_n hx hb dX1_takePairs_0 rfl (lv_at hl 0 rfl) ?_
  refine g_X1_21 Cx hW (k := 188) (by decide) rfl (v := .ref (G.2.2.1 + 193)) (rf_188_1 hI) dX1_takePairs_1 ?_
  refine sBv (sV (As := []) (rest := []) (k := 193) Cx (s_X6_clearFactors_193 l G S  hI) (c_X1_235 Cx rfl rfl (rmk_ok (by omega) (by decide))) hW (by decide) rfl rfl rfl hl.1 rfl (Nat.le_of_ble_eq_true rfl) dX1_takePairs_4 ⟨Nat.le_of_ble_eq_true rfl, Nat.le_of_ble_eq_true rfl⟩) hL (fun u_1 H locs k_2 hW hL => ?_)
  obtain ⟨iu_1, fu_1⟩ := k_2
  have F_3 := (Fr.rf : Fr S S pTq).trans (fu_1.to (p1_sub rfl))
  have cr_4 : CR G u_1 := hCR.fr fu_1 rfl rfl rfl rfl
  refine lv_iconst (v := iv 0) hx hb dX1_takePairs_7 (by decide) ?_
  refine lv_istore_n (lv' := [(1, .int (iv 0)), (0, .ref (G.2.2.1 + 188))]) hx hb dX1_takePairs_8 rfl hl (by decide) rfl (fun ls hl => ?_)
  refine lv_iconst (v := iv 0) hx hb dX1_takePairs_9 (by decide) ?_
  refine lv_istore_n (lv' := [(2, .int (iv 0)), (1, .int (iv 0)), (0, .ref (G.2.2.1 + 188))]) hx hb dX1_takePairs_10 rfl hl (by decide) rfl (fun ls hl => ?_)
  have loop_11 : ∀ (fuel : Nat) (S11 : sS) (i : Int) (la : Int) (H : Heap) (locs : List Loc) (ls : Array Slot), (30001 - i).toNat < fuel → (cX G S11 0 0 0) → (Fr S S11 pTq) → (Fr u_1 S11 pTq) → (0 ≤ i ∧ i ≤ 30001) → (0 ≤ la ∧ la ≤ 40) → (S11.1 189 3 ≤ S.1 189 3 + 3 * i) → (CR G S11) → sW G 294 S11 H → sL G locs → lv_has ls 4 [(2, .int (iv i)), (1, .int (iv la)), (0, .ref (G.2.2.1 + 188))] → W p l e (rmk 4 0 0) s m args below meth c H locs 0 0 (MQ below (sQi G 294 (fun r u => cX G u 0 0 0 ∧ Fr S u pTq ∧ (CR G u ∧ u.1 189 3 ≤ S.1 189 3 + 90010 ∧ 0 ≤ r ∧ r ≤ 1))) args s 0 0 (sF G)) (F0 m 11 ls []) := by
    intro fuel
    induction fuel with
    | zero => intro S11 i la H locs ls hmeas hI11 hFm11 hL11_ hi hla ha11 hCR11 hW hL hl; exact absurd hmeas (Nat.not_lt_zero _)
    | succ fuel ih_11 =>
      intro S11 i la H locs ls hmeas hI11 hFm11 hL11_ hi hla ha11 hCR11 hW hL hl
      refine lv_iload_n hx hb dX1_takePairs_11 rfl (lv_at hl 0 rfl) ?_
      refine lv_sipush (v := iv 30000) hx hb dX1_takePairs_12 (by decide) ?_
      refine r_icmp_gt (tgt := 103) hx hb ⟨(by omega), (by omega)⟩ ⟨(by omega), (by omega)⟩ dX1_takePairs_15 (by decide) (fun c_5 => ?_) (fun c_5 => ?_)
      · refine lv_aload_n hx hb dX1_takePairs_103 rfl (lv_at hl 2 rfl) ?_
        refine g_X1_12 Cx hW (k := 188) (by decide) rfl (v := .ref (G.2.2.1 + 189)) (rf_188_0 hI11) dX1_takePairs_104 ?_
        have q_6 : 0 ≤ S11.1 189 3 ∧ S11.1 189 3 ≤ 1000000000 := hI11.fi 189 3 4 (by decide) rfl
        refine sBv (sV (As := []) (rest := []) (k := 189) Cx (s_X4_advance l G S11  hI11 (by omega)) (c_X1_119 Cx rfl rfl (rmk_ok (by omega) (by decide))) hW (by decide) rfl rfl rfl hl.1 rfl (Nat.le_of_ble_eq_true rfl) dX1_takePairs_107 ⟨Nat.le_of_ble_eq_true rfl, Nat.le_of_ble_eq_true rfl⟩) hL (fun u_7 H locs k_8 hW hL => ?_)
        obtain ⟨iu_7, fu_7, xu_7⟩ := k_8
        have F_9 := hFm11.trans (fu_7.to (p1_sub rfl))
        have F_10 := hL11_.trans (fu_7.to (p1_sub rfl))
        have at_u_7 : u_7.1 189 3 = S11.1 189 3 + 1 := by rw [xu_7]; exact uF_on
        have cr_11 : CR G u_7 := by rw [xu_7]; exact hCR11.F (by decide)
        refine lv_iconst (v := iv 1) hx hb dX1_takePairs_110 (by decide) ?_
        have q_12 : 0 ≤ u_7.1 189 3 ∧ u_7.1 189 3 ≤ 1000000000 := iu_7.fi 189 3 4 (by decide) rfl
        exact sZret Cx hr hlk hW hL (by omega) ⟨iu_7, F_9, ⟨cr_11, (by omega), (by omega)⟩⟩ dX1_takePairs_111
      · refine lv_aload_n hx hb dX1_takePairs_18 rfl (lv_at hl 2 rfl) ?_
        refine g_X1_12 Cx hW (k := 188) (by decide) rfl (v := .ref (G.2.2.1 + 189)) (rf_188_0 hI11) dX1_takePairs_19 ?_
        have q_13 : 0 ≤ S11.1 189 3 ∧ S11.1 189 3 ≤ 1000000000 := hI11.fi 189 3 4 (by decide) rfl
        have q_14 : 0 ≤ S11.1 189 2 ∧ S11.1 189 2 ≤ 30001 := hI11.fi 189 2 4 (by decide) rfl
        refine sBi (sV (As := []) (rest := []) (k := 189) Cx (s_X4_kind l G S11  hI11) (c_X1_109 Cx rfl rfl (rmk_ok (by omega) (by decide))) hW (by decide) rfl rfl rfl hl.1 rfl (Nat.le_of_ble_eq_true rfl) dX1_takePairs_22 ⟨Nat.le_of_ble_eq_true rfl, Nat.le_of_ble_eq_true rfl⟩) hL (fun r_17 u_15 H locs k_16 hW hL => ?_)
        obtain ⟨eu_15, xu_15⟩ := k_16
        rw [eu_15] at hW
        refine lv_iconst (v := iv 2) hx hb dX1_takePairs_25 (by decide) ?_
        refine r_icmp_ne (tgt := 103) hx hb ⟨(by omega), (by omega)⟩ ⟨(by omega), (by omega)⟩ dX1_takePairs_26 (by decide) (fun c_18 => ?_) (fun c_18 => ?_)
        · refine lv_aload_n hx hb dX1_takePairs_103 rfl (lv_at hl 2 rfl) ?_
          refine g_X1_12 Cx hW (k := 188) (by decide) rfl (v := .ref (G.2.2.1 + 189)) (rf_188_0 hI11) dX1_takePairs_104 ?_
          refine sBv (sV (As := []) (rest := []) (k := 189) Cx (s_X4_advance l G S11  hI11 (by omega)) (c_X1_119 Cx rfl rfl (rmk_ok (by omega) (by decide))) hW (by decide) rfl rfl rfl hl.1 rfl (Nat.le_of_ble_eq_true rfl) dX1_takePairs_107 ⟨Nat.le_of_ble_eq_true rfl, Nat.le_of_ble_eq_true rfl⟩) hL (fun u_19 H locs k_20 hW hL => ?_)
          obtain ⟨iu_19, fu_19, xu_19⟩ := k_20
          have F_21 := hFm11.trans (fu_19.to (p1_sub rfl))
          have F_22 := hL11_.trans (fu_19.to (p1_sub rfl))
          have at_u_19 : u_19.1 189 3 = S11.1 189 3 + 1 := by rw [xu_19]; exact uF_on
          have cr_23 : CR G u_19 := by rw [xu_19]; exact hCR11.F (by decide)
          refine lv_iconst (v := iv 1) hx hb dX1_takePairs_110 (by decide) ?_
          have q_24 : 0 ≤ u_19.1 189 3 ∧ u_19.1 189 3 ≤ 1000000000 := iu_19.fi 189 3 4 (by decide) rfl
          exact sZret Cx hr hlk hW hL (by omega) ⟨iu_19, F_21, ⟨cr_23, (by omega), (by omega)⟩⟩ dX1_takePairs_111
        · refine lv_aload_n hx hb dX1_takePairs_29 rfl (lv_at hl 2 rfl) ?_
          refine g_X1_12 Cx hW (k := 188) (by decide) rfl (v := .ref (G.2.2.1 + 189)) (rf_188_0 hI11) dX1_takePairs_30 ?_
          refine sBi (sV (As := []) (rest := []) (k := 189) Cx (s_X4_takeCount l G S11  hI11 hCR11 (by omega)) (c_X1_203 Cx rfl rfl (rmk_ok (by omega) (by decide))) hW (by decide) rfl rfl rfl hl.1 rfl (Nat.le_of_ble_eq_true rfl) dX1_takePairs_33 ⟨Nat.le_of_ble_eq_true rfl, Nat.le_of_ble_eq_true rfl⟩) hL (fun r_27 u_25 H locs k_26 hW hL => ?_)
          obtain ⟨iu_25, fu_25, xu_25⟩ := k_26
          have F_28 := hFm11.trans (fu_25.to (p1_sub rfl))
          have F_29 := hL11_.trans (fu_25.to (p1_sub rfl))
          have cr_30 : CR G u_25 := xu_25.1
          refine lv_istore_n (lv' := [(3, .int (iv r_27)), (2, .int (iv i)), (1, .int (iv la)), (0, .ref (G.2.2.1 + 188))]) hx hb dX1_takePairs_36 rfl hl (by decide) rfl (fun ls hl => ?_)
          refine lv_aload_n hx hb dX1_takePairs_37 rfl (lv_at hl 3 rfl) ?_
          refine g_X1_12 Cx hW (k := 188) (by decide) rfl (v := .ref (G.2.2.1 + 189)) (rf_188_0 iu_25) dX1_takePairs_38 ?_
          have q_31 : 0 ≤ u_25.1 189 3 ∧ u_25.1 189 3 ≤ 1000000000 := iu_25.fi 189 3 4 (by decide) rfl
          refine sBv (sV (As := []) (rest := []) (k := 189) Cx (s_X4_advance l G u_25  iu_25 (by omega)) (c_X1_119 Cx rfl rfl (rmk_ok (by omega) (by decide))) hW (by decide) rfl rfl rfl hl.1 rfl (Nat.le_of_ble_eq_true rfl) dX1_takePairs_41 ⟨Nat.le_of_ble_eq_true rfl, Nat.le_of_ble_eq_true rfl⟩) hL (fun u_32 H locs k_33 hW hL => ?_)
          obtain ⟨iu_32, fu_32, xu_32⟩ := k_33
          have F_34 := F_28.trans (fu_32.to (p1_sub rfl))
          have F_35 := F_29.trans (fu_32.to (p1_sub rfl))
          have at_u_32 : u_32.1 189 3 = u_25.1 189 3 + 1 := by rw [xu_32]; exact uF_on
          have cr_36 : CR G u_32 := by rw [xu_32]; exact cr_30.F (by decide)
          refine lv_aload_n hx hb dX1_takePairs_44 rfl (lv_at hl 3 rfl) ?_
          refine g_X1_12 Cx hW (k := 188) (by decide) rfl (v := .ref (G.2.2.1 + 189)) (rf_188_0 iu_32) dX1_takePairs_45 ?_
          refine lv_aload_n hx hb dX1_takePairs_48 rfl (lv_at hl 3 rfl) ?_
          refine g_X1_48 Cx hW (k := 188) (by decide) rfl (v := .ref (G.2.2.1 + 219)) (rf_188_8 iu_32) dX1_takePairs_49 ?_
          have q_37 : 0 ≤ u_32.1 189 3 ∧ u_32.1 189 3 ≤ 1000000000 := iu_32.fi 189 3 4 (by decide) rfl
          refine sBv (sV (As := [.ref (G.2.2.1 + 219)]) (rest := []) (k := 189) Cx (s_X4_takeNumber_219 l G u_32  iu_32 cr_36 (by omega)) (c_X1_126 Cx rfl rfl (rmk_ok (by omega) (by decide))) hW (by decide) rfl rfl rfl hl.1 rfl (Nat.le_of_ble_eq_true rfl) dX1_takePairs_52 ⟨Nat.le_of_ble_eq_true rfl, Nat.le_of_ble_eq_true rfl⟩) hL (fun u_38 H locs k_39 hW hL => ?_)
          obtain ⟨iu_38, fu_38, xu_38⟩ := k_39
          have F_40 := F_34.trans (fu_38.to (pRg_sub rfl rfl rfl))
          have F_41 := F_35.trans (fu_38.to (pRg_sub rfl rfl rfl))
          have cr_42 : CR G u_38 := xu_38.1
          refine lv_iload_n hx hb dX1_takePairs_55 rfl (lv_at hl 0 rfl) ?_
          refine lv_iload_n hx hb dX1_takePairs_56 rfl (lv_at hl 2 rfl) ?_
          refine r_icmp_le (tgt := 81) hx hb ⟨(by omega), (by omega)⟩ ⟨(by omega), (by omega)⟩ dX1_takePairs_57 (by decide) (fun c_43 => ?_) (fun c_43 => ?_)
          · refine lv_iconst (v := iv 0) hx hb dX1_takePairs_81 (by decide) ?_
            have q_44 : 0 ≤ u_38.1 189 3 ∧ u_38.1 189 3 ≤ 1000000000 := iu_38.fi 189 3 4 (by decide) rfl
            exact sZret Cx hr hlk hW hL (by omega) ⟨iu_38, F_40, ⟨cr_42, (by omega), (by omega)⟩⟩ dX1_takePairs_82
          · refine lv_iload_n hx hb dX1_takePairs_60 rfl (lv_at hl 0 rfl) ?_
            refine lv_aload_n hx hb dX1_takePairs_61 rfl (lv_at hl 3 rfl) ?_
            refine g_X1_21 Cx hW (k := 188) (by decide) rfl (v := .ref (G.2.2.1 + 193)) (rf_188_1 iu_38) dX1_takePairs_62 ?_
            have q_45 : 0 ≤ S.1 193 9 ∧ S.1 193 9 ≤ 40 := hI.fi 193 9 6 (by decide) rfl
            have lk_46 : u_38.1 193 9 = S.1 193 9 := ((fu_38 193 rfl).1 9).trans (((fu_32 193 rfl).1 9).trans (((fu_25 193 rfl).1 9).trans (((hL11_ 193 rfl).1 9).trans ((fu_1 193 rfl).1 9))))
            refine sBi (sV (As := []) (rest := [.int (iv r_27)]) (k := 193) Cx (s_X6_count_193 l G u_38  iu_38) (c_X1_209 Cx rfl rfl (rmk_ok (by omega) (by decide))) hW (by decide) rfl rfl rfl hl.1 rfl (Nat.le_of_ble_eq_true rfl) dX1_takePairs_65 ⟨Nat.le_of_ble_eq_true rfl, Nat.le_of_ble_eq_true rfl⟩) hL (fun r_49 u_47 H locs k_48 hW hL => ?_)
            obtain ⟨eu_47, xu_47⟩ := k_48
            rw [eu_47] at hW
            refine r_icmp_gt (tgt := 81) hx hb ⟨(by omega), (by omega)⟩ ⟨(by omega), (by omega)⟩ dX1_takePairs_68 (by decide) (fun c_50 => ?_) (fun c_50 => ?_)
            · refine lv_iconst (v := iv 0) hx hb dX1_takePairs_81 (by decide) ?_
              have q_51 : 0 ≤ u_38.1 189 3 ∧ u_38.1 189 3 ≤ 1000000000 := iu_38.fi 189 3 4 (by decide) rfl
              exact sZret Cx hr hlk hW hL (by omega) ⟨iu_38, F_40, ⟨cr_42, (by omega), (by omega)⟩⟩ dX1_takePairs_82
            · refine lv_aload_n hx hb dX1_takePairs_71 rfl (lv_at hl 3 rfl) ?_
              refine g_X1_48 Cx hW (k := 188) (by decide) rfl (v := .ref (G.2.2.1 + 219)) (rf_188_8 iu_38) dX1_takePairs_72 ?_
              have q_52 : (-1) ≤ u_38.1 219 2 ∧ u_38.1 219 2 ≤ 1 := iu_38.fi 219 2 0 (by decide) rfl
              refine g_X1_181 Cx hW (k := 219) (by decide) rfl (v := u_38.1 219 2) rfl dX1_takePairs_75 ?_
              refine r_if_ge (tgt := 83) hx hb ⟨(by omega), (by omega)⟩ dX1_takePairs_78 (by decide) (fun c_53 => ?_) (fun c_53 => ?_)
              · refine lv_aload_n hx hb dX1_takePairs_83 rfl (lv_at hl 3 rfl) ?_
                refine g_X1_21 Cx hW (k := 188) (by decide) rfl (v := .ref (G.2.2.1 + 193)) (rf_188_1 iu_38) dX1_takePairs_84 ?_
                refine lv_iload_n hx hb dX1_takePairs_87 rfl (lv_at hl 0 rfl) ?_
                refine lv_aload_n hx hb dX1_takePairs_88 rfl (lv_at hl 3 rfl) ?_
                refine g_X1_48 Cx hW (k := 188) (by decide) rfl (v := .ref (G.2.2.1 + 219)) (rf_188_8 iu_38) dX1_takePairs_89 ?_
                have q_54 : 0 ≤ u_38.1 219 1 ∧ u_38.1 219 1 ≤ 32 := iu_38.fi 219 1 0 (by decide) rfl
                refine sBv (sV (As := [.int (iv r_27), .ref (G.2.2.1 + 219)]) (rest := []) (k := 193) Cx (s_X6_setFactor_193 l G u_38 (k := r_27) (v := 219) iu_38 rfl (by omega) (by omega)) (c_X1_238 Cx rfl rfl (rmk_ok (by omega) (by decide))) hW (by decide) rfl rfl rfl hl.1 rfl (Nat.le_of_ble_eq_true rfl) dX1_takePairs_92 ⟨Nat.le_of_ble_eq_true rfl, Nat.le_of_ble_eq_true rfl⟩) hL (fun u_55 H locs k_56 hW hL => ?_)
                obtain ⟨iu_55, fu_55⟩ := k_56
                have F_57 := F_40.trans (fu_55.to (p1_sub rfl))
                have F_58 := F_41.trans (fu_55.to (p1_sub rfl))
                have cr_59 : CR G u_55 := cr_42.fr fu_55 rfl rfl rfl rfl
                refine lv_iload_n hx hb dX1_takePairs_95 rfl (lv_at hl 0 rfl) ?_
                refine lv_istore_n (lv' := [(1, .int (iv r_27)), (3, .int (iv r_27)), (2, .int (iv i)), (0, .ref (G.2.2.1 + 188))]) hx hb dX1_takePairs_96 rfl hl (by decide) rfl (fun ls hl => ?_)
                refine lv_iinc (v := iv (i + 1)) (lv' := [(2, .int (iv (i + 1))), (1, .int (iv r_27)), (3, .int (iv r_27)), (0, .ref (G.2.2.1 + 188))]) hx hb dX1_takePairs_97 hl (k := 2) rfl ((Int32.ofInt_add _ _).symm) (by decide) rfl (fun ls hl => ?_)
                refine lv_goto (tgt := 11) hx hb dX1_takePairs_100 (by decide) ?_
                have q_60 : 0 ≤ u_38.1 189 3 ∧ u_38.1 189 3 ≤ 1000000000 := iu_38.fi 189 3 4 (by decide) rfl
                have lk_61 : u_55.1 189 3 = u_38.1 189 3 := (fu_55 189 rfl).1 3
                exact ih_11 u_55 (i + 1) r_27 _ _ _ (by omega) iu_55 F_57 F_58 (by omega) (by omega) (by omega) cr_59 hW hL (lv_sub hl [0, 1, 3] rfl)
              · refine lv_iconst (v := iv 0) hx hb dX1_takePairs_81 (by decide) ?_
                have q_62 : 0 ≤ u_38.1 189 3 ∧ u_38.1 189 3 ≤ 1000000000 := iu_38.fi 189 3 4 (by decide) rfl
                exact sZret Cx hr hlk hW hL (by omega) ⟨iu_38, F_40, ⟨cr_42, (by omega), (by omega)⟩⟩ dX1_takePairs_82
  have q_63 : 0 ≤ S.1 189 3 ∧ S.1 189 3 ≤ 1000000000 := hI.fi 189 3 4 (by decide) rfl
  have lk_64 : u_1.1 189 3 = S.1 189 3 := (fu_1 189 rfl).1 3
  exact loop_11 (_ + 1) u_1 0 0 _ _ _ (Nat.lt_succ_self _) iu_1 F_3 Fr.rf (by omega) (by omega) (by omega) cr_4 hW hL (lv_sub hl [0, 1, 2] rfl)

set_option maxRecDepth 100000 in
set_option maxHeartbeats 4000000 in
theorem s_X1_isFarkas (l : Launch) (G : sG) (S : sS)  (hI : cX G S 0 0 0) : Met l yX1_isFarkas (.code yX1_isFarkas cX1_isFarkas 2 (some .boolean) :: tb) (rmk 5 0 0) (sPc G 294 S [.ref (G.2.2.1 + 188)]) (sQi G 294 (fun r u => cX G u 0 0 0 ∧ Fr S u pN ∧ (0 ≤ r ∧ r ≤ 1))) 0 0 (sF G) := by
  refine sEnter (by decide) (Nat.le_of_ble_eq_true rfl) ?_
  intro p e s m args below meth c Cx hr hlk hnm hW ls hl
  have Cx : sC G p m c cX1_isFarkas 2 s args RX1 := Cx
  obtain ⟨hx, hb, hml, hown, hts⟩ := id Cx.1
  have hL : sL G [] := sL_nil
  have hl : lv_has ls 2 [(0, .ref (G.2.2.1 + 188))] := hl
  have hW0 := hW
  refine lv_iconst (v := iv 1) hx hb dX1_isFarkas_0 (by decide) ?_
  refine lv_istore_n (lv' := [(1, .int (iv 1)), (0, .ref (G.2.2.1 + 188))]) hx hb dX1_isFarkas_1 rfl hl (by decide) rfl (fun ls hl => ?_)
  have loop_2 : ∀ (fuel : Nat) (S2 : sS) (j : Int) (H : Heap) (locs : List Loc) (ls : Array Slot), (13 - j).toNat < fuel → (cX G S2 0 0 0) → (Fr S S2 pN) → (Fr S S2 pN) → (1 ≤ j ∧ j ≤ 13) → sW G 294 S2 H → sL G locs → lv_has ls 2 [(1, .int (iv j)), (0, .ref (G.2.2.1 + 188))] → W p l e (rmk 5 0 0) s m args below meth c H locs 0 0 (MQ below (sQi G 294 (fun r u => cX G u 0 0 0 ∧ Fr S u pN ∧ (0 ≤ r ∧ r ≤ 1))) args s 0 0 (sF G)) (F0 m 2 ls []) := by
    intro fuel
    induction fuel with
    | zero => intro S2 j H locs ls hmeas hI2 hFm2 hL2_ hj hW hL hl; exact absurd hmeas (Nat.not_lt_zero _)
    | succ fuel ih_2 =>
      intro S2 j H locs ls hmeas hI2 hFm2 hL2_ hj hW hL hl
      refine lv_iload_n hx hb dX1_isFarkas_2 rfl (lv_at hl 0 rfl) ?_
      refine lv_aload_n hx hb dX1_isFarkas_3 rfl (lv_at hl 1 rfl) ?_
      obtain ⟨o_1, mo_1, eo_1⟩ := hI.rm.2.2.2.1
      refine g_X1_69 Cx hW (k := 188) (by decide) rfl (v := .ref (G.2.2.1 + o_1)) (((hL2_ 188 rfl).2.2.2 15).trans eo_1) dX1_isFarkas_4 ?_
      have q_2 : 0 ≤ S.1 o_1 2 ∧ S.1 o_1 2 ≤ 12 := hI.fi o_1 2 3 (mdl_k mo_1) mo_1.1
      refine g_X1_84 Cx hW (k := o_1) (mdl_l mo_1) mo_1.1 (v := S.1 o_1 2) ((hL2_ o_1 (mdl_pN mo_1).1).1 2) dX1_isFarkas_7 ?_
      refine r_icmp_gt (tgt := 43) hx hb ⟨(by omega), (by omega)⟩ ⟨(by omega), (by omega)⟩ dX1_isFarkas_10 (by decide) (fun c_3 => ?_) (fun c_3 => ?_)
      · refine lv_aload_n hx hb dX1_isFarkas_43 rfl (lv_at hl 1 rfl) ?_
        refine g_X1_21 Cx hW (k := 188) (by decide) rfl (v := .ref (G.2.2.1 + 193)) (rf_188_1 hI2) dX1_isFarkas_44 ?_
        refine lv_iconst (v := iv 0) hx hb dX1_isFarkas_47 (by decide) ?_
        refine lv_aload_n hx hb dX1_isFarkas_48 rfl (lv_at hl 1 rfl) ?_
        refine g_X1_42 Cx hW (k := 188) (by decide) rfl (v := .ref (G.2.2.1 + 215)) (rf_188_6 hI2) dX1_isFarkas_49 ?_
        refine sBv (sV (As := [.int (iv 0), .ref (G.2.2.1 + 215)]) (rest := []) (k := 193) Cx (s_X6_combine_193_215 l G S2 (j := 0) hI2 (by omega)) (c_X1_242 Cx rfl rfl (rmk_ok (by omega) (by decide))) hW (by decide) rfl rfl rfl hl.1 rfl (Nat.le_of_ble_eq_true rfl) dX1_isFarkas_52 ⟨Nat.le_of_ble_eq_true rfl, Nat.le_of_ble_eq_true rfl⟩) hL (fun u_4 H locs k_5 hW hL => ?_)
        obtain ⟨iu_4, fu_4, xu_4⟩ := k_5
        have F_6 := hFm2.trans (fu_4.to (pK_sub rgN_193 rfl rfl))
        have F_7 := hL2_.trans (fu_4.to (pK_sub rgN_193 rfl rfl))
        refine lv_aload_n hx hb dX1_isFarkas_55 rfl (lv_at hl 1 rfl) ?_
        refine g_X1_42 Cx hW (k := 188) (by decide) rfl (v := .ref (G.2.2.1 + 215)) (rf_188_6 iu_4) dX1_isFarkas_56 ?_
        have q_8 : (-1) ≤ u_4.1 215 2 ∧ u_4.1 215 2 ≤ 1 := iu_4.fi 215 2 0 (by decide) rfl
        refine g_X1_181 Cx hW (k := 215) (by decide) rfl (v := u_4.1 215 2) rfl dX1_isFarkas_59 ?_
        refine r_if_ge (tgt := 69) hx hb ⟨(by omega), (by omega)⟩ dX1_isFarkas_62 (by decide) (fun c_9 => ?_) (fun c_9 => ?_)
        · refine lv_iconst (v := iv 0) hx hb dX1_isFarkas_69 (by decide) ?_
          exact sZret Cx hr hlk hW hL (by omega) ⟨iu_4, F_6, (by omega)⟩ dX1_isFarkas_70
        · refine lv_iconst (v := iv 1) hx hb dX1_isFarkas_65 (by decide) ?_
          refine lv_goto (tgt := 70) hx hb dX1_isFarkas_66 (by decide) ?_
          exact sZret Cx hr hlk hW hL (by omega) ⟨iu_4, F_6, (by omega)⟩ dX1_isFarkas_70
      · refine lv_aload_n hx hb dX1_isFarkas_13 rfl (lv_at hl 1 rfl) ?_
        refine g_X1_21 Cx hW (k := 188) (by decide) rfl (v := .ref (G.2.2.1 + 193)) (rf_188_1 hI2) dX1_isFarkas_14 ?_
        refine lv_iload_n hx hb dX1_isFarkas_17 rfl (lv_at hl 0 rfl) ?_
        refine lv_aload_n hx hb dX1_isFarkas_18 rfl (lv_at hl 1 rfl) ?_
        refine g_X1_42 Cx hW (k := 188) (by decide) rfl (v := .ref (G.2.2.1 + 215)) (rf_188_6 hI2) dX1_isFarkas_19 ?_
        refine sBv (sV (As := [.int (iv j), .ref (G.2.2.1 + 215)]) (rest := []) (k := 193) Cx (s_X6_combine_193_215 l G S2 (j := j) hI2 (by omega)) (c_X1_242 Cx rfl rfl (rmk_ok (by omega) (by decide))) hW (by decide) rfl rfl rfl hl.1 rfl (Nat.le_of_ble_eq_true rfl) dX1_isFarkas_22 ⟨Nat.le_of_ble_eq_true rfl, Nat.le_of_ble_eq_true rfl⟩) hL (fun u_10 H locs k_11 hW hL => ?_)
        obtain ⟨iu_10, fu_10, xu_10⟩ := k_11
        have F_12 := hFm2.trans (fu_10.to (pK_sub rgN_193 rfl rfl))
        have F_13 := hL2_.trans (fu_10.to (pK_sub rgN_193 rfl rfl))
        refine lv_aload_n hx hb dX1_isFarkas_25 rfl (lv_at hl 1 rfl) ?_
        refine g_X1_42 Cx hW (k := 188) (by decide) rfl (v := .ref (G.2.2.1 + 215)) (rf_188_6 iu_10) dX1_isFarkas_26 ?_
        have q_14 : (-1) ≤ u_10.1 215 2 ∧ u_10.1 215 2 ≤ 1 := iu_10.fi 215 2 0 (by decide) rfl
        refine g_X1_181 Cx hW (k := 215) (by decide) rfl (v := u_10.1 215 2) rfl dX1_isFarkas_29 ?_
        refine r_if_ge (tgt := 37) hx hb ⟨(by omega), (by omega)⟩ dX1_isFarkas_32 (by decide) (fun c_15 => ?_) (fun c_15 => ?_)
        · refine lv_iinc (v := iv (j + 1)) (lv' := [(1, .int (iv (j + 1))), (0, .ref (G.2.2.1 + 188))]) hx hb dX1_isFarkas_37 hl (k := 0) rfl ((Int32.ofInt_add _ _).symm) (by decide) rfl (fun ls hl => ?_)
          refine lv_goto (tgt := 2) hx hb dX1_isFarkas_40 (by decide) ?_
          exact ih_2 u_10 (j + 1) _ _ _ (by omega) iu_10 F_12 F_13 (by omega) hW hL (lv_sub hl [0, 1] rfl)
        · refine lv_iconst (v := iv 0) hx hb dX1_isFarkas_35 (by decide) ?_
          exact sZret Cx hr hlk hW hL (by omega) ⟨iu_10, F_12, (by omega)⟩ dX1_isFarkas_36
  exact loop_2 (_ + 1) S 1 _ _ _ (Nat.lt_succ_self _) hI (Fr.rf : Fr S S pN) Fr.rf (by omega) hW hL (lv_sub hl [0, 1] rfl)

set_option maxRecDepth 100000 in
set_option maxHeartbeats 4000000 in
theorem s_X1_isBound (l : Launch) (G : sG) (S : sS)  (hI : cX G S 0 0 0) (hq : S.1 213 1 ≤ 7) : Met l yX1_isBound (.code yX1_isBound cX1_isBound 2 (some .boolean) :: tb) (rmk 5 0 0) (sPc G 294 S [.ref (G.2.2.1 + 188)]) (sQi G 294 (fun r u => cX G u 0 0 0 ∧ Fr S u pN ∧ (0 ≤ r ∧ r ≤ 1))) 0 0 (sF G) := by
  refine sEnter (by decide) (Nat.le_of_ble_eq_true rfl) ?_
  intro p e s m args below meth c Cx hr hlk hnm hW ls hl
  have Cx : sC G p m c cX1_isBound 2 s args RX1 := Cx
  obtain ⟨hx, hb, hml, hown, hts⟩ := id Cx.1
  have hL : sL G [] := sL_nil
  have hl : lv_has ls 2 [(0, .ref (G.2.2.1 + 188))] := hl
  have hW0 := hW
  refine lv_iconst (v := iv 1) hx hb dX1_isBound_0 (by decide) ?_
  refine lv_istore_n (lv' := [(1, .int (iv 1)), (0, .ref (G.2.2.1 + 188))]) hx hb dX1_isBound_1 rfl hl (by decide) rfl (fun ls hl => ?_)
  have loop_2 : ∀ (fuel : Nat) (S2 : sS) (j : Int) (H : Heap) (locs : List Loc) (ls : Array Slot), (13 - j).toNat < fuel → (cX G S2 0 0 0) → (Fr S S2 pN) → (Fr S S2 pN) → (1 ≤ j ∧ j ≤ 13) → (S2.1 213 1 ≤ 7) → sW G 294 S2 H → sL G locs → lv_has ls 2 [(1, .int (iv j)), (0, .ref (G.2.2.1 + 188))] → W p l e (rmk 5 0 0) s m args below meth c H locs 0 0 (MQ below (sQi G 294 (fun r u => cX G u 0 0 0 ∧ Fr S u pN ∧ (0 ≤ r ∧ r ≤ 1))) args s 0 0 (sF G)) (F0 m 2 ls []) := by
    intro fuel
    induction fuel with
    | zero => intro S2 j H locs ls hmeas hI2 hFm2 hL2_ hj hq2 hW hL hl; exact absurd hmeas (Nat.not_lt_zero _)
    | succ fuel ih_2 =>
      intro S2 j H locs ls hmeas hI2 hFm2 hL2_ hj hq2 hW hL hl
      refine lv_iload_n hx hb dX1_isBound_2 rfl (lv_at hl 0 rfl) ?_
      refine lv_aload_n hx hb dX1_isBound_3 rfl (lv_at hl 1 rfl) ?_
      obtain ⟨o_1, mo_1, eo_1⟩ := hI.rm.2.2.2.1
      refine g_X1_69 Cx hW (k := 188) (by decide) rfl (v := .ref (G.2.2.1 + o_1)) (((hL2_ 188 rfl).2.2.2 15).trans eo_1) dX1_isBound_4 ?_
      have q_2 : 0 ≤ S.1 o_1 2 ∧ S.1 o_1 2 ≤ 12 := hI.fi o_1 2 3 (mdl_k mo_1) mo_1.1
      refine g_X1_84 Cx hW (k := o_1) (mdl_l mo_1) mo_1.1 (v := S.1 o_1 2) ((hL2_ o_1 (mdl_pN mo_1).1).1 2) dX1_isBound_7 ?_
      refine r_icmp_gt (tgt := 75) hx hb ⟨(by omega), (by omega)⟩ ⟨(by omega), (by omega)⟩ dX1_isBound_10 (by decide) (fun c_3 => ?_) (fun c_3 => ?_)
      · refine lv_aload_n hx hb dX1_isBound_75 rfl (lv_at hl 1 rfl) ?_
        refine g_X1_21 Cx hW (k := 188) (by decide) rfl (v := .ref (G.2.2.1 + 193)) (rf_188_1 hI2) dX1_isBound_76 ?_
        refine lv_iconst (v := iv 0) hx hb dX1_isBound_79 (by decide) ?_
        refine lv_aload_n hx hb dX1_isBound_80 rfl (lv_at hl 1 rfl) ?_
        refine g_X1_42 Cx hW (k := 188) (by decide) rfl (v := .ref (G.2.2.1 + 215)) (rf_188_6 hI2) dX1_isBound_81 ?_
        refine sBv (sV (As := [.int (iv 0), .ref (G.2.2.1 + 215)]) (rest := []) (k := 193) Cx (s_X6_combine_193_215 l G S2 (j := 0) hI2 (by omega)) (c_X1_242 Cx rfl rfl (rmk_ok (by omega) (by decide))) hW (by decide) rfl rfl rfl hl.1 rfl (Nat.le_of_ble_eq_true rfl) dX1_isBound_84 ⟨Nat.le_of_ble_eq_true rfl, Nat.le_of_ble_eq_true rfl⟩) hL (fun u_4 H locs k_5 hW hL => ?_)
        obtain ⟨iu_4, fu_4, xu_4⟩ := k_5
        have F_6 := hFm2.trans (fu_4.to (pK_sub rgN_193 rfl rfl))
        have F_7 := hL2_.trans (fu_4.to (pK_sub rgN_193 rfl rfl))
        refine lv_aload_n hx hb dX1_isBound_87 rfl (lv_at hl 1 rfl) ?_
        refine g_X1_21 Cx hW (k := 188) (by decide) rfl (v := .ref (G.2.2.1 + 193)) (rf_188_1 iu_4) dX1_isBound_88 ?_
        refine lv_iconst (v := iv 0) hx hb dX1_isBound_91 (by decide) ?_
        refine lv_iconst (v := iv 0) hx hb dX1_isBound_92 (by decide) ?_
        refine lv_aload_n hx hb dX1_isBound_93 rfl (lv_at hl 1 rfl) ?_
        refine g_X1_45 Cx hW (k := 188) (by decide) rfl (v := .ref (G.2.2.1 + 217)) (rf_188_7 iu_4) dX1_isBound_94 ?_
        refine sBv (sV (As := [.int (iv 0), .int (iv 0), .ref (G.2.2.1 + 217)]) (rest := []) (k := 193) Cx (s_X6_number_193 l G u_4 (k := 0) (j := 0) (v := 217) iu_4 rfl (by omega) (by omega)) (c_X1_160 Cx rfl rfl (rmk_ok (by omega) (by decide))) hW (by decide) rfl rfl rfl hl.1 rfl (Nat.le_of_ble_eq_true rfl) dX1_isBound_97 ⟨Nat.le_of_ble_eq_true rfl, Nat.le_of_ble_eq_true rfl⟩) hL (fun u_8 H locs k_9 hW hL => ?_)
        obtain ⟨iu_8, fu_8, xu_8⟩ := k_9
        have F_10 := F_6.trans (fu_8.to (pB_sub rfl rfl))
        have F_11 := F_7.trans (fu_8.to (pB_sub rfl rfl))
        refine lv_aload_n hx hb dX1_isBound_100 rfl (lv_at hl 1 rfl) ?_
        refine g_X1_51 Cx hW (k := 188) (by decide) rfl (v := .ref (G.2.2.1 + 221)) (rf_188_9 iu_8) dX1_isBound_101 ?_
        refine lv_aload_n hx hb dX1_isBound_104 rfl (lv_at hl 1 rfl) ?_
        refine g_X1_39 Cx hW (k := 188) (by decide) rfl (v := .ref (G.2.2.1 + 213)) (rf_188_5 iu_8) dX1_isBound_105 ?_
        refine lv_aload_n hx hb dX1_isBound_108 rfl (lv_at hl 1 rfl) ?_
        refine g_X1_45 Cx hW (k := 188) (by decide) rfl (v := .ref (G.2.2.1 + 217)) (rf_188_7 iu_8) dX1_isBound_109 ?_
        have q_12 : 0 ≤ S2.1 213 1 ∧ S2.1 213 1 ≤ 32 := hI2.fi 213 1 0 (by decide) rfl
        have lk_13 : u_8.1 213 1 = S2.1 213 1 := ((fu_8 213 rfl).1 1).trans ((fu_4 213 rfl).1 1)
        have q_14 : 0 ≤ u_8.1 217 1 ∧ u_8.1 217 1 ≤ 32 := iu_8.fi 217 1 0 (by decide) rfl
        refine sBv (sV (As := [.ref (G.2.2.1 + 213), .ref (G.2.2.1 + 217)]) (rest := []) (k := 221) Cx (s_X0_product l G u_8 (o := 221) (a := 213) (b := 217) iu_8 rfl rfl rfl (show (221 : Nat) ≠ 213 by decide) (show (221 : Nat) ≠ 217 by decide)) (c_X1_163 Cx rfl rfl (rmk_ok (by omega) (by decide))) hW (by decide) rfl rfl rfl hl.1 rfl (Nat.le_of_ble_eq_true rfl) dX1_isBound_112 ⟨Nat.le_of_ble_eq_true rfl, Nat.le_of_ble_eq_true rfl⟩) hL (fun u_15 H locs k_16 hW hL => ?_)
        obtain ⟨iu_15, fu_15, xu_15⟩ := k_16
        have F_17 := F_10.trans (fu_15.to (pB_sub rfl rfl))
        have F_18 := F_11.trans (fu_15.to (pB_sub rfl rfl))
        refine lv_aload_n hx hb dX1_isBound_115 rfl (lv_at hl 1 rfl) ?_
        refine g_X1_42 Cx hW (k := 188) (by decide) rfl (v := .ref (G.2.2.1 + 215)) (rf_188_6 iu_15) dX1_isBound_116 ?_
        refine lv_aload_n hx hb dX1_isBound_119 rfl (lv_at hl 1 rfl) ?_
        refine g_X1_51 Cx hW (k := 188) (by decide) rfl (v := .ref (G.2.2.1 + 221)) (rf_188_9 iu_15) dX1_isBound_120 ?_
        refine lv_iconst (v := iv 1) hx hb dX1_isBound_123 (by decide) ?_
        have q_19 : 0 ≤ u_15.1 221 1 ∧ u_15.1 221 1 ≤ 32 := iu_15.fi 221 1 0 (by decide) rfl
        have q_20 : 0 ≤ u_4.1 215 1 ∧ u_4.1 215 1 ≤ 32 := iu_4.fi 215 1 0 (by decide) rfl
        have lk_21 : u_15.1 215 1 = u_4.1 215 1 := ((fu_15 215 rfl).1 1).trans ((fu_8 215 rfl).1 1)
        have q_22 : (-1) ≤ u_4.1 215 2 ∧ u_4.1 215 2 ≤ 1 := iu_4.fi 215 2 0 (by decide) rfl
        have lk_23 : u_15.1 215 2 = u_4.1 215 2 := ((fu_15 215 rfl).1 2).trans ((fu_8 215 rfl).1 2)
        have q_24 : (-1) ≤ u_15.1 221 2 ∧ u_15.1 221 2 ≤ 1 := iu_15.fi 221 2 0 (by decide) rfl
        refine sBv (sV (As := [.ref (G.2.2.1 + 221), .int (iv 1)]) (rest := []) (k := 215) Cx (t_X0_add_p l G u_15 (o := 215) (a := 221) (n := 14) (t := 40) iu_15 rfl rfl (show (215 : Nat) ≠ 221 by decide) (by omega) (fun q => by have e : u_15.2.1 216 14 = u_4.2.1 216 14 := ((fu_15 216 rfl).2.1 14).trans ((fu_8 216 rfl).2.1 14); rw [e]; exact xu_4.2 (by omega))) (c_X1_166 Cx rfl rfl (rmk_ok (by omega) (by decide))) hW (by decide) rfl rfl rfl hl.1 rfl (Nat.le_of_ble_eq_true rfl) dX1_isBound_124 ⟨Nat.le_of_ble_eq_true rfl, Nat.le_of_ble_eq_true rfl⟩) hL (fun u_25 H locs k_26 hW hL => ?_)
        obtain ⟨iu_25, fu_25, xu_25⟩ := k_26
        have F_27 := F_17.trans (fu_25.to (pB_sub rfl rfl))
        have F_28 := F_18.trans (fu_25.to (pB_sub rfl rfl))
        refine lv_aload_n hx hb dX1_isBound_127 rfl (lv_at hl 1 rfl) ?_
        refine g_X1_69 Cx hW (k := 188) (by decide) rfl (v := .ref (G.2.2.1 + o_1)) ((((fu_25 188 rfl).2.2.2 15).trans (((fu_15 188 rfl).2.2.2 15).trans (((fu_8 188 rfl).2.2.2 15).trans (((fu_4 188 rfl).2.2.2 15).trans ((hL2_ 188 rfl).2.2.2 15))))).trans eo_1) dX1_isBound_128 ?_
        refine sBi (sV (As := []) (rest := []) (k := o_1) Cx (s_X3_isGoalWhole l G u_25 (o := o_1) iu_25 mo_1) (c_X1_245 Cx rfl rfl (rmk_ok (by omega) (by decide))) hW (mdl_l mo_1) mo_1.1 rfl rfl hl.1 rfl (Nat.le_of_ble_eq_true rfl) dX1_isBound_131 ⟨Nat.le_of_ble_eq_true rfl, Nat.le_of_ble_eq_true rfl⟩) hL (fun r_31 u_29 H locs k_30 hW hL => ?_)
        obtain ⟨eu_29, xu_29⟩ := k_30
        rw [eu_29] at hW
        refine r_if_eq (tgt := 191) hx hb ⟨(by omega), (by omega)⟩ dX1_isBound_134 (by decide) (fun c_32 => ?_) (fun c_32 => ?_)
        · refine lv_aload_n hx hb dX1_isBound_191 rfl (lv_at hl 1 rfl) ?_
          refine g_X1_51 Cx hW (k := 188) (by decide) rfl (v := .ref (G.2.2.1 + 221)) (rf_188_9 iu_25) dX1_isBound_192 ?_
          refine lv_aload_n hx hb dX1_isBound_195 rfl (lv_at hl 1 rfl) ?_
          refine g_X1_42 Cx hW (k := 188) (by decide) rfl (v := .ref (G.2.2.1 + 215)) (rf_188_6 iu_25) dX1_isBound_196 ?_
          refine lv_aload_n hx hb dX1_isBound_199 rfl (lv_at hl 1 rfl) ?_
          refine g_X1_36 Cx hW (k := 188) (by decide) rfl (v := .ref (G.2.2.1 + 211)) (rf_188_4 iu_25) dX1_isBound_200 ?_
          have q_33 : 0 ≤ u_25.1 215 1 ∧ u_25.1 215 1 ≤ 32 := iu_25.fi 215 1 0 (by decide) rfl
          have q_34 : 0 ≤ S2.1 211 1 ∧ S2.1 211 1 ≤ 32 := hI2.fi 211 1 0 (by decide) rfl
          have lk_35 : u_25.1 211 1 = S2.1 211 1 := ((fu_25 211 rfl).1 1).trans (((fu_15 211 rfl).1 1).trans (((fu_8 211 rfl).1 1).trans ((fu_4 211 rfl).1 1)))
          refine sBv (sV (As := [.ref (G.2.2.1 + 215), .ref (G.2.2.1 + 211)]) (rest := []) (k := 221) Cx (s_X0_product l G u_25 (o := 221) (a := 215) (b := 211) iu_25 rfl rfl rfl (show (221 : Nat) ≠ 215 by decide) (show (221 : Nat) ≠ 211 by decide)) (c_X1_163 Cx rfl rfl (rmk_ok (by omega) (by decide))) hW (by decide) rfl rfl rfl hl.1 rfl (Nat.le_of_ble_eq_true rfl) dX1_isBound_203 ⟨Nat.le_of_ble_eq_true rfl, Nat.le_of_ble_eq_true rfl⟩) hL (fun u_36 H locs k_37 hW hL => ?_)
          obtain ⟨iu_36, fu_36, xu_36⟩ := k_37
          have F_38 := F_27.trans (fu_36.to (pB_sub rfl rfl))
          have F_39 := F_28.trans (fu_36.to (pB_sub rfl rfl))
          refine lv_aload_n hx hb dX1_isBound_206 rfl (lv_at hl 1 rfl) ?_
          refine g_X1_45 Cx hW (k := 188) (by decide) rfl (v := .ref (G.2.2.1 + 217)) (rf_188_7 iu_36) dX1_isBound_207 ?_
          refine lv_aload_n hx hb dX1_isBound_210 rfl (lv_at hl 1 rfl) ?_
          refine g_X1_32 Cx hW (k := 188) (by decide) rfl (v := .ref (G.2.2.1 + 209)) (rf_188_3 iu_36) dX1_isBound_211 ?_
          refine lv_aload_n hx hb dX1_isBound_214 rfl (lv_at hl 1 rfl) ?_
          refine g_X1_39 Cx hW (k := 188) (by decide) rfl (v := .ref (G.2.2.1 + 213)) (rf_188_5 iu_36) dX1_isBound_215 ?_
          have q_40 : 0 ≤ S2.1 209 1 ∧ S2.1 209 1 ≤ 32 := hI2.fi 209 1 0 (by decide) rfl
          have lk_41 : u_36.1 209 1 = S2.1 209 1 := ((fu_36 209 rfl).1 1).trans (((fu_25 209 rfl).1 1).trans (((fu_15 209 rfl).1 1).trans (((fu_8 209 rfl).1 1).trans ((fu_4 209 rfl).1 1))))
          have lk_42 : u_36.1 213 1 = S2.1 213 1 := ((fu_36 213 rfl).1 1).trans (((fu_25 213 rfl).1 1).trans (((fu_15 213 rfl).1 1).trans (((fu_8 213 rfl).1 1).trans ((fu_4 213 rfl).1 1))))
          refine sBv (sV (As := [.ref (G.2.2.1 + 209), .ref (G.2.2.1 + 213)]) (rest := []) (k := 217) Cx (s_X0_product l G u_36 (o := 217) (a := 209) (b := 213) iu_36 rfl rfl rfl (show (217 : Nat) ≠ 209 by decide) (show (217 : Nat) ≠ 213 by decide)) (c_X1_163 Cx rfl rfl (rmk_ok (by omega) (by decide))) hW (by decide) rfl rfl rfl hl.1 rfl (Nat.le_of_ble_eq_true rfl) dX1_isBound_218 ⟨Nat.le_of_ble_eq_true rfl, Nat.le_of_ble_eq_true rfl⟩) hL (fun u_43 H locs k_44 hW hL => ?_)
          obtain ⟨iu_43, fu_43, xu_43⟩ := k_44
          have F_45 := F_38.trans (fu_43.to (pB_sub rfl rfl))
          have F_46 := F_39.trans (fu_43.to (pB_sub rfl rfl))
          refine lv_aload_n hx hb dX1_isBound_221 rfl (lv_at hl 1 rfl) ?_
          refine g_X1_51 Cx hW (k := 188) (by decide) rfl (v := .ref (G.2.2.1 + 221)) (rf_188_9 iu_43) dX1_isBound_222 ?_
          refine lv_aload_n hx hb dX1_isBound_225 rfl (lv_at hl 1 rfl) ?_
          refine g_X1_45 Cx hW (k := 188) (by decide) rfl (v := .ref (G.2.2.1 + 217)) (rf_188_7 iu_43) dX1_isBound_226 ?_
          refine sBi (sV (As := [.ref (G.2.2.1 + 217)]) (rest := []) (k := 221) Cx (s_X0_compareWith l G u_43 (o := 221) (a := 217) iu_43 rfl rfl) (c_X1_177 Cx rfl rfl (rmk_ok (by omega) (by decide))) hW (by decide) rfl rfl rfl hl.1 rfl (Nat.le_of_ble_eq_true rfl) dX1_isBound_229 ⟨Nat.le_of_ble_eq_true rfl, Nat.le_of_ble_eq_true rfl⟩) hL (fun r_49 u_47 H locs k_48 hW hL => ?_)
          obtain ⟨eu_47, xu_47⟩ := k_48
          rw [eu_47] at hW
          refine r_if_gt (tgt := 239) hx hb ⟨(by omega), (by omega)⟩ dX1_isBound_232 (by decide) (fun c_50 => ?_) (fun c_50 => ?_)
          · refine lv_iconst (v := iv 0) hx hb dX1_isBound_239 (by decide) ?_
            exact sZret Cx hr hlk hW hL (by omega) ⟨iu_43, F_45, (by omega)⟩ dX1_isBound_240
          · refine lv_iconst (v := iv 1) hx hb dX1_isBound_235 (by decide) ?_
            refine lv_goto (tgt := 240) hx hb dX1_isBound_236 (by decide) ?_
            exact sZret Cx hr hlk hW hL (by omega) ⟨iu_43, F_45, (by omega)⟩ dX1_isBound_240
        · refine lv_aload_n hx hb dX1_isBound_137 rfl (lv_at hl 1 rfl) ?_
          refine g_X1_42 Cx hW (k := 188) (by decide) rfl (v := .ref (G.2.2.1 + 215)) (rf_188_6 iu_25) dX1_isBound_138 ?_
          refine lv_aload_n hx hb dX1_isBound_141 rfl (lv_at hl 1 rfl) ?_
          refine g_X1_39 Cx hW (k := 188) (by decide) rfl (v := .ref (G.2.2.1 + 213)) (rf_188_5 iu_25) dX1_isBound_142 ?_
          refine lv_aload_n hx hb dX1_isBound_145 rfl (lv_at hl 1 rfl) ?_
          refine g_X1_45 Cx hW (k := 188) (by decide) rfl (v := .ref (G.2.2.1 + 217)) (rf_188_7 iu_25) dX1_isBound_146 ?_
          refine lv_aload_n hx hb dX1_isBound_149 rfl (lv_at hl 1 rfl) ?_
          refine g_X1_54 Cx hW (k := 188) (by decide) rfl (v := .ref (G.2.2.1 + 223)) (rf_188_10 iu_25) dX1_isBound_150 ?_
          have q_51 : 0 ≤ u_25.1 215 1 ∧ u_25.1 215 1 ≤ 32 := iu_25.fi 215 1 0 (by decide) rfl
          have lk_52 : u_25.1 213 1 = S2.1 213 1 := ((fu_25 213 rfl).1 1).trans (((fu_15 213 rfl).1 1).trans (((fu_8 213 rfl).1 1).trans ((fu_4 213 rfl).1 1)))
          have q_53 : (-1) ≤ u_25.1 215 2 ∧ u_25.1 215 2 ≤ 1 := iu_25.fi 215 2 0 (by decide) rfl
          have q_54 : (-1) ≤ S2.1 213 2 ∧ S2.1 213 2 ≤ 1 := hI2.fi 213 2 0 (by decide) rfl
          have lk_55 : u_25.1 213 2 = S2.1 213 2 := ((fu_25 213 rfl).1 2).trans (((fu_15 213 rfl).1 2).trans (((fu_8 213 rfl).1 2).trans ((fu_4 213 rfl).1 2)))
          refine sBv (sV (As := [.ref (G.2.2.1 + 213), .ref (G.2.2.1 + 217), .ref (G.2.2.1 + 223)]) (rest := []) (k := 215) Cx (s_X0_divide l G u_25 (o := 215) (b := 213) (q := 217) (h := 223) (n := 16) iu_25 rfl rfl rfl rfl (show (215 : Nat) ≠ 213 by decide) (show (215 : Nat) ≠ 217 by decide) (show (215 : Nat) ≠ 223 by decide) (show (213 : Nat) ≠ 217 by decide) (show (213 : Nat) ≠ 223 by decide) (show (217 : Nat) ≠ 223 by decide) (by omega)) (c_X1_187 Cx rfl rfl (rmk_ok (by omega) (by decide))) hW (by decide) rfl rfl rfl hl.1 rfl (Nat.le_of_ble_eq_true rfl) dX1_isBound_153 ⟨Nat.le_of_ble_eq_true rfl, Nat.le_of_ble_eq_true rfl⟩) hL (fun u_56 H locs k_57 hW hL => ?_)
          obtain ⟨iu_56, fu_56, xu_56⟩ := k_57
          have F_58 := F_27.trans (fu_56.to (pD_sub (pB_sub rfl rfl) (pB_sub rfl rfl) (pB_sub rfl rfl)))
          have F_59 := F_28.trans (fu_56.to (pD_sub (pB_sub rfl rfl) (pB_sub rfl rfl) (pB_sub rfl rfl)))
          refine lv_aload_n hx hb dX1_isBound_156 rfl (lv_at hl 1 rfl) ?_
          refine g_X1_51 Cx hW (k := 188) (by decide) rfl (v := .ref (G.2.2.1 + 221)) (rf_188_9 iu_56) dX1_isBound_157 ?_
          refine lv_aload_n hx hb dX1_isBound_160 rfl (lv_at hl 1 rfl) ?_
          refine g_X1_45 Cx hW (k := 188) (by decide) rfl (v := .ref (G.2.2.1 + 217)) (rf_188_7 iu_56) dX1_isBound_161 ?_
          refine lv_aload_n hx hb dX1_isBound_164 rfl (lv_at hl 1 rfl) ?_
          refine g_X1_36 Cx hW (k := 188) (by decide) rfl (v := .ref (G.2.2.1 + 211)) (rf_188_4 iu_56) dX1_isBound_165 ?_
          have q_60 : 0 ≤ u_56.1 217 1 ∧ u_56.1 217 1 ≤ 32 := iu_56.fi 217 1 0 (by decide) rfl
          have q_61 : 0 ≤ S2.1 211 1 ∧ S2.1 211 1 ≤ 32 := hI2.fi 211 1 0 (by decide) rfl
          have lk_62 : u_56.1 211 1 = S2.1 211 1 := ((fu_56 211 rfl).1 1).trans (((fu_25 211 rfl).1 1).trans (((fu_15 211 rfl).1 1).trans (((fu_8 211 rfl).1 1).trans ((fu_4 211 rfl).1 1))))
          refine sBv (sV (As := [.ref (G.2.2.1 + 217), .ref (G.2.2.1 + 211)]) (rest := []) (k := 221) Cx (s_X0_product l G u_56 (o := 221) (a := 217) (b := 211) iu_56 rfl rfl rfl (show (221 : Nat) ≠ 217 by decide) (show (221 : Nat) ≠ 211 by decide)) (c_X1_163 Cx rfl rfl (rmk_ok (by omega) (by decide))) hW (by decide) rfl rfl rfl hl.1 rfl (Nat.le_of_ble_eq_true rfl) dX1_isBound_168 ⟨Nat.le_of_ble_eq_true rfl, Nat.le_of_ble_eq_true rfl⟩) hL (fun u_63 H locs k_64 hW hL => ?_)
          obtain ⟨iu_63, fu_63, xu_63⟩ := k_64
          have F_65 := F_58.trans (fu_63.to (pB_sub rfl rfl))
          have F_66 := F_59.trans (fu_63.to (pB_sub rfl rfl))
          refine lv_aload_n hx hb dX1_isBound_171 rfl (lv_at hl 1 rfl) ?_
          refine g_X1_51 Cx hW (k := 188) (by decide) rfl (v := .ref (G.2.2.1 + 221)) (rf_188_9 iu_63) dX1_isBound_172 ?_
          refine lv_aload_n hx hb dX1_isBound_175 rfl (lv_at hl 1 rfl) ?_
          refine g_X1_32 Cx hW (k := 188) (by decide) rfl (v := .ref (G.2.2.1 + 209)) (rf_188_3 iu_63) dX1_isBound_176 ?_
          refine sBi (sV (As := [.ref (G.2.2.1 + 209)]) (rest := []) (k := 221) Cx (s_X0_compareWith l G u_63 (o := 221) (a := 209) iu_63 rfl rfl) (c_X1_177 Cx rfl rfl (rmk_ok (by omega) (by decide))) hW (by decide) rfl rfl rfl hl.1 rfl (Nat.le_of_ble_eq_true rfl) dX1_isBound_179 ⟨Nat.le_of_ble_eq_true rfl, Nat.le_of_ble_eq_true rfl⟩) hL (fun r_69 u_67 H locs k_68 hW hL => ?_)
          obtain ⟨eu_67, xu_67⟩ := k_68
          rw [eu_67] at hW
          refine r_if_gt (tgt := 189) hx hb ⟨(by omega), (by omega)⟩ dX1_isBound_182 (by decide) (fun c_70 => ?_) (fun c_70 => ?_)
          · refine lv_iconst (v := iv 0) hx hb dX1_isBound_189 (by decide) ?_
            exact sZret Cx hr hlk hW hL (by omega) ⟨iu_63, F_65, (by omega)⟩ dX1_isBound_190
          · refine lv_iconst (v := iv 1) hx hb dX1_isBound_185 (by decide) ?_
            refine lv_goto (tgt := 190) hx hb dX1_isBound_186 (by decide) ?_
            exact sZret Cx hr hlk hW hL (by omega) ⟨iu_63, F_65, (by omega)⟩ dX1_isBound_190
      · refine lv_aload_n hx hb dX1_isBound_13 rfl (lv_at hl 1 rfl) ?_
        refine g_X1_21 Cx hW (k := 188) (by decide) rfl (v := .ref (G.2.2.1 + 193)) (rf_188_1 hI2) dX1_isBound_14 ?_
        refine lv_iload_n hx hb dX1_isBound_17 rfl (lv_at hl 0 rfl) ?_
        refine lv_aload_n hx hb dX1_isBound_18 rfl (lv_at hl 1 rfl) ?_
        refine g_X1_42 Cx hW (k := 188) (by decide) rfl (v := .ref (G.2.2.1 + 215)) (rf_188_6 hI2) dX1_isBound_19 ?_
        refine sBv (sV (As := [.int (iv j), .ref (G.2.2.1 + 215)]) (rest := []) (k := 193) Cx (s_X6_combine_193_215 l G S2 (j := j) hI2 (by omega)) (c_X1_242 Cx rfl rfl (rmk_ok (by omega) (by decide))) hW (by decide) rfl rfl rfl hl.1 rfl (Nat.le_of_ble_eq_true rfl) dX1_isBound_22 ⟨Nat.le_of_ble_eq_true rfl, Nat.le_of_ble_eq_true rfl⟩) hL (fun u_71 H locs k_72 hW hL => ?_)
        obtain ⟨iu_71, fu_71, xu_71⟩ := k_72
        have F_73 := hFm2.trans (fu_71.to (pK_sub rgN_193 rfl rfl))
        have F_74 := hL2_.trans (fu_71.to (pK_sub rgN_193 rfl rfl))
        refine lv_aload_n hx hb dX1_isBound_25 rfl (lv_at hl 1 rfl) ?_
        refine g_X1_21 Cx hW (k := 188) (by decide) rfl (v := .ref (G.2.2.1 + 193)) (rf_188_1 iu_71) dX1_isBound_26 ?_
        refine lv_iconst (v := iv 0) hx hb dX1_isBound_29 (by decide) ?_
        refine lv_iload_n hx hb dX1_isBound_30 rfl (lv_at hl 0 rfl) ?_
        refine lv_aload_n hx hb dX1_isBound_31 rfl (lv_at hl 1 rfl) ?_
        refine g_X1_45 Cx hW (k := 188) (by decide) rfl (v := .ref (G.2.2.1 + 217)) (rf_188_7 iu_71) dX1_isBound_32 ?_
        refine sBv (sV (As := [.int (iv 0), .int (iv j), .ref (G.2.2.1 + 217)]) (rest := []) (k := 193) Cx (s_X6_number_193 l G u_71 (k := 0) (j := j) (v := 217) iu_71 rfl (by omega) (by omega)) (c_X1_160 Cx rfl rfl (rmk_ok (by omega) (by decide))) hW (by decide) rfl rfl rfl hl.1 rfl (Nat.le_of_ble_eq_true rfl) dX1_isBound_35 ⟨Nat.le_of_ble_eq_true rfl, Nat.le_of_ble_eq_true rfl⟩) hL (fun u_75 H locs k_76 hW hL => ?_)
        obtain ⟨iu_75, fu_75, xu_75⟩ := k_76
        have F_77 := F_73.trans (fu_75.to (pB_sub rfl rfl))
        have F_78 := F_74.trans (fu_75.to (pB_sub rfl rfl))
        refine lv_aload_n hx hb dX1_isBound_38 rfl (lv_at hl 1 rfl) ?_
        refine g_X1_51 Cx hW (k := 188) (by decide) rfl (v := .ref (G.2.2.1 + 221)) (rf_188_9 iu_75) dX1_isBound_39 ?_
        refine lv_aload_n hx hb dX1_isBound_42 rfl (lv_at hl 1 rfl) ?_
        refine g_X1_39 Cx hW (k := 188) (by decide) rfl (v := .ref (G.2.2.1 + 213)) (rf_188_5 iu_75) dX1_isBound_43 ?_
        refine lv_aload_n hx hb dX1_isBound_46 rfl (lv_at hl 1 rfl) ?_
        refine g_X1_45 Cx hW (k := 188) (by decide) rfl (v := .ref (G.2.2.1 + 217)) (rf_188_7 iu_75) dX1_isBound_47 ?_
        have q_79 : 0 ≤ S2.1 213 1 ∧ S2.1 213 1 ≤ 32 := hI2.fi 213 1 0 (by decide) rfl
        have lk_80 : u_75.1 213 1 = S2.1 213 1 := ((fu_75 213 rfl).1 1).trans ((fu_71 213 rfl).1 1)
        have q_81 : 0 ≤ u_75.1 217 1 ∧ u_75.1 217 1 ≤ 32 := iu_75.fi 217 1 0 (by decide) rfl
        refine sBv (sV (As := [.ref (G.2.2.1 + 213), .ref (G.2.2.1 + 217)]) (rest := []) (k := 221) Cx (s_X0_product l G u_75 (o := 221) (a := 213) (b := 217) iu_75 rfl rfl rfl (show (221 : Nat) ≠ 213 by decide) (show (221 : Nat) ≠ 217 by decide)) (c_X1_163 Cx rfl rfl (rmk_ok (by omega) (by decide))) hW (by decide) rfl rfl rfl hl.1 rfl (Nat.le_of_ble_eq_true rfl) dX1_isBound_50 ⟨Nat.le_of_ble_eq_true rfl, Nat.le_of_ble_eq_true rfl⟩) hL (fun u_82 H locs k_83 hW hL => ?_)
        obtain ⟨iu_82, fu_82, xu_82⟩ := k_83
        have F_84 := F_77.trans (fu_82.to (pB_sub rfl rfl))
        have F_85 := F_78.trans (fu_82.to (pB_sub rfl rfl))
        refine lv_aload_n hx hb dX1_isBound_53 rfl (lv_at hl 1 rfl) ?_
        refine g_X1_42 Cx hW (k := 188) (by decide) rfl (v := .ref (G.2.2.1 + 215)) (rf_188_6 iu_82) dX1_isBound_54 ?_
        refine lv_aload_n hx hb dX1_isBound_57 rfl (lv_at hl 1 rfl) ?_
        refine g_X1_51 Cx hW (k := 188) (by decide) rfl (v := .ref (G.2.2.1 + 221)) (rf_188_9 iu_82) dX1_isBound_58 ?_
        refine sBi (sV (As := [.ref (G.2.2.1 + 221)]) (rest := []) (k := 215) Cx (s_X0_compareWith l G u_82 (o := 215) (a := 221) iu_82 rfl rfl) (c_X1_177 Cx rfl rfl (rmk_ok (by omega) (by decide))) hW (by decide) rfl rfl rfl hl.1 rfl (Nat.le_of_ble_eq_true rfl) dX1_isBound_61 ⟨Nat.le_of_ble_eq_true rfl, Nat.le_of_ble_eq_true rfl⟩) hL (fun r_88 u_86 H locs k_87 hW hL => ?_)
        obtain ⟨eu_86, xu_86⟩ := k_87
        rw [eu_86] at hW
        refine r_if_ge (tgt := 69) hx hb ⟨(by omega), (by omega)⟩ dX1_isBound_64 (by decide) (fun c_89 => ?_) (fun c_89 => ?_)
        · refine lv_iinc (v := iv (j + 1)) (lv' := [(1, .int (iv (j + 1))), (0, .ref (G.2.2.1 + 188))]) hx hb dX1_isBound_69 hl (k := 0) rfl ((Int32.ofInt_add _ _).symm) (by decide) rfl (fun ls hl => ?_)
          refine lv_goto (tgt := 2) hx hb dX1_isBound_72 (by decide) ?_
          have lk_90 : u_82.1 213 1 = S2.1 213 1 := ((fu_82 213 rfl).1 1).trans (((fu_75 213 rfl).1 1).trans ((fu_71 213 rfl).1 1))
          exact ih_2 u_82 (j + 1) _ _ _ (by omega) iu_82 F_84 F_85 (by omega) (by omega) hW hL (lv_sub hl [0, 1] rfl)
        · refine lv_iconst (v := iv 0) hx hb dX1_isBound_67 (by decide) ?_
          exact sZret Cx hr hlk hW hL (by omega) ⟨iu_82, F_84, (by omega)⟩ dX1_isBound_68
  have q_91 : 0 ≤ S.1 213 1 ∧ S.1 213 1 ≤ 32 := hI.fi 213 1 0 (by decide) rfl
  exact loop_2 (_ + 1) S 1 _ _ _ (Nat.lt_succ_self _) hI (Fr.rf : Fr S S pN) Fr.rf (by omega) (by omega) hW hL (lv_sub hl [0, 1] rfl)

set_option maxRecDepth 100000 in
set_option maxHeartbeats 4000000 in
theorem s_X1_pairTree (l : Launch) (G : sG) (S : sS) {wd hv : Int} (hI : cX G S 0 0 0) (hwd : -2147483648 ≤ wd ∧ wd ≤ 2147483647) (hhv : 0 ≤ hv ∧ hv ≤ 1) (hCR : CR G S) (hat : S.1 189 3 ≤ 999800000) : Met l yX1_pairTree (.code yX1_pairTree cX1_pairTree 3 (some .int) :: tb) (rmk 6 0 0) (sPc G 294 S [.ref (G.2.2.1 + 188), .int (iv wd), .int (iv hv)]) (sQi G 294 (fun r u => cX G u 0 0 0 ∧ Fr S u pE ∧ (CR G u ∧ u.1 189 3 ≤ S.1 189 3 + 90020 ∧ 0 ≤ r ∧ r ≤ 6))) 0 0 (sF G) := by
  refine sEnter (by decide) (Nat.le_of_ble_eq_true rfl) ?_
  intro p e s m args below meth c Cx hr hlk hnm hW ls hl
  have Cx : sC G p m c cX1_pairTree 3 s args RX1 := Cx
  obtain ⟨hx, hb, hml, hown, hts⟩ := id Cx.1
  have hL : sL G [] := sL_nil
  have hl : lv_has ls 3 [(0, .ref (G.2.2.1 + 188)), (1, .int (iv wd)), (2, .int (iv hv))] := hl
  have hW0 := hW
  have hat0 : 0 ≤ S.1 189 3 ∧ S.1 189 3 ≤ 1000000000 := hI.fi 189 3 4 (by decide) rfl
  refine lv_aload_n hx hb dX1_pairTree_0 rfl (lv_at hl 0 rfl) ?_
  refine g_X1_12 Cx hW (k := 188) (by decide) rfl (v := .ref (G.2.2.1 + 189)) (rf_188_0 hI) dX1_pairTree_1 ?_
  refine lv_aload_n hx hb dX1_pairTree_4 rfl (lv_at hl 0 rfl) ?_
  refine g_X1_39 Cx hW (k := 188) (by decide) rfl (v := .ref (G.2.2.1 + 213)) (rf_188_5 hI) dX1_pairTree_5 ?_
  have q_1 : 0 ≤ S.1 189 3 ∧ S.1 189 3 ≤ 1000000000 := hI.fi 189 3 4 (by decide) rfl
  refine sBv (sV (As := [.ref (G.2.2.1 + 213)]) (rest := []) (k := 189) Cx (s_X4_takeNumber_213 l G S  hI hCR (by omega)) (c_X1_126 Cx rfl rfl (rmk_ok (by omega) (by decide))) hW (by decide) rfl rfl rfl hl.1 rfl (Nat.le_of_ble_eq_true rfl) dX1_pairTree_8 ⟨Nat.le_of_ble_eq_true rfl, Nat.le_of_ble_eq_true rfl⟩) hL (fun u_2 H locs k_3 hW hL => ?_)
  obtain ⟨iu_2, fu_2, xu_2⟩ := k_3
  have F_4 := (Fr.rf : Fr S S pE).trans (fu_2.to (pRg_sub rfl rfl rfl))
  have cr_5 : CR G u_2 := xu_2.1
  refine lv_aload_n hx hb dX1_pairTree_11 rfl (lv_at hl 0 rfl) ?_
  have q_6 : 0 ≤ u_2.1 189 3 ∧ u_2.1 189 3 ≤ 1000000000 := iu_2.fi 189 3 4 (by decide) rfl
  refine sBi (sV (As := []) (rest := []) (k := 188) Cx (s_X1_takePairs l G u_2  iu_2 cr_5 (by omega)) (c_X1_219 Cx rfl rfl (rmk_ok (by omega) (by decide))) hW (by decide) rfl rfl rfl hl.1 rfl (Nat.le_of_ble_eq_true rfl) dX1_pairTree_12 ⟨Nat.le_of_ble_eq_true rfl, Nat.le_of_ble_eq_true rfl⟩) hL (fun r_9 u_7 H locs k_8 hW hL => ?_)
  obtain ⟨iu_7, fu_7, xu_7⟩ := k_8
  have F_10 := F_4.trans (fu_7.to pTq_E)
  have cr_11 : CR G u_7 := xu_7.1
  refine r_if_ne (tgt := 20) hx hb ⟨(by omega), (by omega)⟩ dX1_pairTree_15 (by decide) (fun c_12 => ?_) (fun c_12 => ?_)
  · refine lv_iload_n hx hb dX1_pairTree_20 rfl (lv_at hl 1 rfl) ?_
    refine lv_bipush (v := iv 13) hx hb dX1_pairTree_21 (by decide) ?_
    refine r_icmp_ne (tgt := 59) hx hb ⟨(by omega), (by omega)⟩ ⟨(by omega), (by omega)⟩ dX1_pairTree_23 (by decide) (fun c_13 => ?_) (fun c_13 => ?_)
    · refine lv_iload_n hx hb dX1_pairTree_59 rfl (lv_at hl 1 rfl) ?_
      refine lv_bipush (v := iv 15) hx hb dX1_pairTree_60 (by decide) ?_
      refine r_icmp_ne (tgt := 78) hx hb ⟨(by omega), (by omega)⟩ ⟨(by omega), (by omega)⟩ dX1_pairTree_62 (by decide) (fun c_14 => ?_) (fun c_14 => ?_)
      · refine lv_iload_n hx hb dX1_pairTree_78 rfl (lv_at hl 2 rfl) ?_
        refine r_if_eq (tgt := 93) hx hb ⟨(by omega), (by omega)⟩ dX1_pairTree_79 (by decide) (fun c_15 => ?_) (fun c_15 => ?_)
        · refine lv_iconst (v := iv 4) hx hb dX1_pairTree_93 (by decide) ?_
          have q_16 : 0 ≤ u_7.1 189 3 ∧ u_7.1 189 3 ≤ 1000000000 := iu_7.fi 189 3 4 (by decide) rfl
          exact sIret Cx hr hlk hW hL ⟨iu_7, F_10, ⟨cr_11, (by omega), (by omega)⟩⟩ dX1_pairTree_94
        · refine lv_aload_n hx hb dX1_pairTree_82 rfl (lv_at hl 0 rfl) ?_
          have q_17 : 0 ≤ u_2.1 213 1 ∧ u_2.1 213 1 ≤ 32 := iu_2.fi 213 1 0 (by decide) rfl
          have lk_18 : u_7.1 213 1 = u_2.1 213 1 := (fu_7 213 rfl).1 1
          refine sBi (sV (As := []) (rest := []) (k := 188) Cx (s_X1_isBound l G u_7  iu_7 (by omega)) (c_X1_232 Cx rfl rfl (rmk_ok (by omega) (by decide))) hW (by decide) rfl rfl rfl hl.1 rfl (Nat.le_of_ble_eq_true rfl) dX1_pairTree_83 ⟨Nat.le_of_ble_eq_true rfl, Nat.le_of_ble_eq_true rfl⟩) hL (fun r_21 u_19 H locs k_20 hW hL => ?_)
          obtain ⟨iu_19, fu_19, xu_19⟩ := k_20
          have F_22 := F_10.trans (fu_19.to (fun k h => pW_E k (pN_W k h)))
          have cr_23 : CR G u_19 := cr_11.fr fu_19 rfl rfl rfl rfl
          refine r_if_eq (tgt := 93) hx hb ⟨(by omega), (by omega)⟩ dX1_pairTree_86 (by decide) (fun c_24 => ?_) (fun c_24 => ?_)
          · refine lv_iconst (v := iv 4) hx hb dX1_pairTree_93 (by decide) ?_
            have q_25 : 0 ≤ u_7.1 189 3 ∧ u_7.1 189 3 ≤ 1000000000 := iu_7.fi 189 3 4 (by decide) rfl
            have lk_26 : u_19.1 189 3 = u_7.1 189 3 := (fu_19 189 rfl).1 3
            exact sIret Cx hr hlk hW hL ⟨iu_19, F_22, ⟨cr_23, (by omega), (by omega)⟩⟩ dX1_pairTree_94
          · refine lv_iconst (v := iv 0) hx hb dX1_pairTree_89 (by decide) ?_
            refine lv_goto (tgt := 94) hx hb dX1_pairTree_90 (by decide) ?_
            have q_27 : 0 ≤ u_7.1 189 3 ∧ u_7.1 189 3 ≤ 1000000000 := iu_7.fi 189 3 4 (by decide) rfl
            have lk_28 : u_19.1 189 3 = u_7.1 189 3 := (fu_19 189 rfl).1 3
            exact sIret Cx hr hlk hW hL ⟨iu_19, F_22, ⟨cr_23, (by omega), (by omega)⟩⟩ dX1_pairTree_94
      · refine lv_aload_n hx hb dX1_pairTree_65 rfl (lv_at hl 0 rfl) ?_
        refine sBi (sV (As := []) (rest := []) (k := 188) Cx (s_X1_isFarkas l G u_7  iu_7) (c_X1_229 Cx rfl rfl (rmk_ok (by omega) (by decide))) hW (by decide) rfl rfl rfl hl.1 rfl (Nat.le_of_ble_eq_true rfl) dX1_pairTree_66 ⟨Nat.le_of_ble_eq_true rfl, Nat.le_of_ble_eq_true rfl⟩) hL (fun r_31 u_29 H locs k_30 hW hL => ?_)
        obtain ⟨iu_29, fu_29, xu_29⟩ := k_30
        have F_32 := F_10.trans (fu_29.to (fun k h => pW_E k (pN_W k h)))
        have cr_33 : CR G u_29 := cr_11.fr fu_29 rfl rfl rfl rfl
        refine r_if_eq (tgt := 76) hx hb ⟨(by omega), (by omega)⟩ dX1_pairTree_69 (by decide) (fun c_34 => ?_) (fun c_34 => ?_)
        · refine lv_iconst (v := iv 4) hx hb dX1_pairTree_76 (by decide) ?_
          have q_35 : 0 ≤ u_7.1 189 3 ∧ u_7.1 189 3 ≤ 1000000000 := iu_7.fi 189 3 4 (by decide) rfl
          have lk_36 : u_29.1 189 3 = u_7.1 189 3 := (fu_29 189 rfl).1 3
          exact sIret Cx hr hlk hW hL ⟨iu_29, F_32, ⟨cr_33, (by omega), (by omega)⟩⟩ dX1_pairTree_77
        · refine lv_iconst (v := iv 0) hx hb dX1_pairTree_72 (by decide) ?_
          refine lv_goto (tgt := 77) hx hb dX1_pairTree_73 (by decide) ?_
          have q_37 : 0 ≤ u_7.1 189 3 ∧ u_7.1 189 3 ≤ 1000000000 := iu_7.fi 189 3 4 (by decide) rfl
          have lk_38 : u_29.1 189 3 = u_7.1 189 3 := (fu_29 189 rfl).1 3
          exact sIret Cx hr hlk hW hL ⟨iu_29, F_32, ⟨cr_33, (by omega), (by omega)⟩⟩ dX1_pairTree_77
    · refine lv_aload_n hx hb dX1_pairTree_26 rfl (lv_at hl 0 rfl) ?_
      obtain ⟨o_39, mo_39, eo_39⟩ := hI.rm.2.2.2.1
      refine g_X1_69 Cx hW (k := 188) (by decide) rfl (v := .ref (G.2.2.1 + o_39)) ((((fu_7 188 rfl).2.2.2 15).trans ((fu_2 188 rfl).2.2.2 15)).trans eo_39) dX1_pairTree_27 ?_
      refine sBi (sV (As := []) (rest := []) (k := o_39) Cx (s_X3_isAllWhole l G u_7 (o := o_39) iu_7 mo_39) (c_X1_222 Cx rfl rfl (rmk_ok (by omega) (by decide))) hW (mdl_l mo_39) mo_39.1 rfl rfl hl.1 rfl (Nat.le_of_ble_eq_true rfl) dX1_pairTree_30 ⟨Nat.le_of_ble_eq_true rfl, Nat.le_of_ble_eq_true rfl⟩) hL (fun r_42 u_40 H locs k_41 hW hL => ?_)
      obtain ⟨eu_40, xu_40⟩ := k_41
      rw [eu_40] at hW
      refine r_if_ne (tgt := 38) hx hb ⟨(by omega), (by omega)⟩ dX1_pairTree_33 (by decide) (fun c_43 => ?_) (fun c_43 => ?_)
      · refine lv_aload_n hx hb dX1_pairTree_38 rfl (lv_at hl 0 rfl) ?_
        refine g_X1_21 Cx hW (k := 188) (by decide) rfl (v := .ref (G.2.2.1 + 193)) (rf_188_1 iu_7) dX1_pairTree_39 ?_
        refine lv_aload_n hx hb dX1_pairTree_42 rfl (lv_at hl 0 rfl) ?_
        refine g_X1_39 Cx hW (k := 188) (by decide) rfl (v := .ref (G.2.2.1 + 213)) (rf_188_5 iu_7) dX1_pairTree_43 ?_
        have q_44 : 0 ≤ u_2.1 213 1 ∧ u_2.1 213 1 ≤ 32 := iu_2.fi 213 1 0 (by decide) rfl
        have lk_45 : u_7.1 213 1 = u_2.1 213 1 := (fu_7 213 rfl).1 1
        refine sBi (sV (As := [.ref (G.2.2.1 + 213)]) (rest := []) (k := 193) Cx (s_X6_addCut_193 l G u_7  iu_7 (by omega)) (c_X1_225 Cx rfl rfl (rmk_ok (by omega) (by decide))) hW (by decide) rfl rfl rfl hl.1 rfl (Nat.le_of_ble_eq_true rfl) dX1_pairTree_46 ⟨Nat.le_of_ble_eq_true rfl, Nat.le_of_ble_eq_true rfl⟩) hL (fun r_48 u_46 H locs k_47 hW hL => ?_)
        obtain ⟨iu_46, fu_46, xu_46⟩ := k_47
        have F_49 := F_10.trans (fu_46.to pW_E)
        have cr_50 : CR G u_46 := cr_11.fr fu_46 rfl rfl rfl rfl
        refine r_if_eq (tgt := 56) hx hb ⟨(by omega), (by omega)⟩ dX1_pairTree_49 (by decide) (fun c_51 => ?_) (fun c_51 => ?_)
        · refine lv_bipush (v := iv 6) hx hb dX1_pairTree_56 (by decide) ?_
          have q_52 : 0 ≤ u_7.1 189 3 ∧ u_7.1 189 3 ≤ 1000000000 := iu_7.fi 189 3 4 (by decide) rfl
          have lk_53 : u_46.1 189 3 = u_7.1 189 3 := (fu_46 189 rfl).1 3
          exact sIret Cx hr hlk hW hL ⟨iu_46, F_49, ⟨cr_50, (by omega), (by omega)⟩⟩ dX1_pairTree_58
        · refine lv_iconst (v := iv 0) hx hb dX1_pairTree_52 (by decide) ?_
          refine lv_goto (tgt := 58) hx hb dX1_pairTree_53 (by decide) ?_
          have q_54 : 0 ≤ u_7.1 189 3 ∧ u_7.1 189 3 ≤ 1000000000 := iu_7.fi 189 3 4 (by decide) rfl
          have lk_55 : u_46.1 189 3 = u_7.1 189 3 := (fu_46 189 rfl).1 3
          exact sIret Cx hr hlk hW hL ⟨iu_46, F_49, ⟨cr_50, (by omega), (by omega)⟩⟩ dX1_pairTree_58
      · refine lv_iconst (v := iv 4) hx hb dX1_pairTree_36 (by decide) ?_
        have q_56 : 0 ≤ u_7.1 189 3 ∧ u_7.1 189 3 ≤ 1000000000 := iu_7.fi 189 3 4 (by decide) rfl
        exact sIret Cx hr hlk hW hL ⟨iu_7, F_10, ⟨cr_11, (by omega), (by omega)⟩⟩ dX1_pairTree_37
  · refine lv_iconst (v := iv 4) hx hb dX1_pairTree_18 (by decide) ?_
    have q_57 : 0 ≤ u_7.1 189 3 ∧ u_7.1 189 3 ≤ 1000000000 := iu_7.fi 189 3 4 (by decide) rfl
    exact sIret Cx hr hlk hW hL ⟨iu_7, F_10, ⟨cr_11, (by omega), (by omega)⟩⟩ dX1_pairTree_19

set_option maxRecDepth 100000 in
set_option maxHeartbeats 4000000 in
theorem s_X1_branch (l : Launch) (G : sG) (S : sS)  (hI : cX G S 0 0 0) (hCR : CR G S) (hat : S.1 189 3 ≤ 999900000) : Met l yX1_branch (.code yX1_branch cX1_branch 2 (some .int) :: tb) (rmk 5 0 0) (sPc G 294 S [.ref (G.2.2.1 + 188)]) (sQi G 294 (fun r u => cX G u 0 0 0 ∧ Fr S u pE ∧ (CR G u ∧ u.1 189 3 ≤ S.1 189 3 + 2 ∧ 0 ≤ r ∧ r ≤ 6))) 0 0 (sF G) := by
  refine sEnter (by decide) (Nat.le_of_ble_eq_true rfl) ?_
  intro p e s m args below meth c Cx hr hlk hnm hW ls hl
  have Cx : sC G p m c cX1_branch 2 s args RX1 := Cx
  obtain ⟨hx, hb, hml, hown, hts⟩ := id Cx.1
  have hL : sL G [] := sL_nil
  have hl : lv_has ls 2 [(0, .ref (G.2.2.1 + 188))] := hl
  have hW0 := hW
  have hat0 : 0 ≤ S.1 189 3 ∧ S.1 189 3 ≤ 1000000000 := hI.fi 189 3 4 (by decide) rfl
  refine lv_aload_n hx hb dX1_branch_0 rfl (lv_at hl 0 rfl) ?_
  refine g_X1_12 Cx hW (k := 188) (by decide) rfl (v := .ref (G.2.2.1 + 189)) (rf_188_0 hI) dX1_branch_1 ?_
  have q_1 : 0 ≤ S.1 189 3 ∧ S.1 189 3 ≤ 1000000000 := hI.fi 189 3 4 (by decide) rfl
  refine sBi (sV (As := []) (rest := []) (k := 189) Cx (s_X4_takeCount l G S  hI hCR (by omega)) (c_X1_203 Cx rfl rfl (rmk_ok (by omega) (by decide))) hW (by decide) rfl rfl rfl hl.1 rfl (Nat.le_of_ble_eq_true rfl) dX1_branch_4 ⟨Nat.le_of_ble_eq_true rfl, Nat.le_of_ble_eq_true rfl⟩) hL (fun r_4 u_2 H locs k_3 hW hL => ?_)
  obtain ⟨iu_2, fu_2, xu_2⟩ := k_3
  have F_5 := (Fr.rf : Fr S S pE).trans (fu_2.to (fun k h => pRd_E k (p189_Rd k h)))
  have cr_6 : CR G u_2 := xu_2.1
  refine lv_istore_n (lv' := [(1, .int (iv r_4)), (0, .ref (G.2.2.1 + 188))]) hx hb dX1_branch_7 rfl hl (by decide) rfl (fun ls hl => ?_)
  refine lv_aload_n hx hb dX1_branch_8 rfl (lv_at hl 1 rfl) ?_
  refine g_X1_12 Cx hW (k := 188) (by decide) rfl (v := .ref (G.2.2.1 + 189)) (rf_188_0 iu_2) dX1_branch_9 ?_
  refine lv_aload_n hx hb dX1_branch_12 rfl (lv_at hl 1 rfl) ?_
  refine g_X1_48 Cx hW (k := 188) (by decide) rfl (v := .ref (G.2.2.1 + 219)) (rf_188_8 iu_2) dX1_branch_13 ?_
  have q_7 : 0 ≤ u_2.1 189 3 ∧ u_2.1 189 3 ≤ 1000000000 := iu_2.fi 189 3 4 (by decide) rfl
  refine sBv (sV (As := [.ref (G.2.2.1 + 219)]) (rest := []) (k := 189) Cx (s_X4_takeNumber_219 l G u_2  iu_2 cr_6 (by omega)) (c_X1_126 Cx rfl rfl (rmk_ok (by omega) (by decide))) hW (by decide) rfl rfl rfl hl.1 rfl (Nat.le_of_ble_eq_true rfl) dX1_branch_16 ⟨Nat.le_of_ble_eq_true rfl, Nat.le_of_ble_eq_true rfl⟩) hL (fun u_8 H locs k_9 hW hL => ?_)
  obtain ⟨iu_8, fu_8, xu_8⟩ := k_9
  have F_10 := F_5.trans (fu_8.to (pRg_sub rfl rfl rfl))
  have cr_11 : CR G u_8 := xu_8.1
  refine lv_aload_n hx hb dX1_branch_19 rfl (lv_at hl 1 rfl) ?_
  obtain ⟨o_12, mo_12, eo_12⟩ := hI.rm.2.2.2.1
  refine g_X1_69 Cx hW (k := 188) (by decide) rfl (v := .ref (G.2.2.1 + o_12)) ((((fu_8 188 rfl).2.2.2 15).trans ((fu_2 188 rfl).2.2.2 15)).trans eo_12) dX1_branch_20 ?_
  refine lv_iload_n hx hb dX1_branch_23 rfl (lv_at hl 0 rfl) ?_
  have q_13 : 0 ≤ u_8.1 o_12 2 ∧ u_8.1 o_12 2 ≤ 12 := iu_8.fi o_12 2 3 (mdl_k mo_12) mo_12.1
  refine sBi (sV (As := [.int (iv r_4)]) (rest := []) (k := o_12) Cx (s_X3_isWhole l G u_8 (o := o_12) (j := r_4) iu_8 mo_12 (by omega)) (c_X1_184 Cx rfl rfl (rmk_ok (by omega) (by decide))) hW (mdl_l mo_12) mo_12.1 rfl rfl hl.1 rfl (Nat.le_of_ble_eq_true rfl) dX1_branch_24 ⟨Nat.le_of_ble_eq_true rfl, Nat.le_of_ble_eq_true rfl⟩) hL (fun r_16 u_14 H locs k_15 hW hL => ?_)
  obtain ⟨eu_14, xu_14⟩ := k_15
  rw [eu_14] at hW
  refine r_if_ne (tgt := 32) hx hb ⟨(by omega), (by omega)⟩ dX1_branch_27 (by decide) (fun c_17 => ?_) (fun c_17 => ?_)
  · refine lv_aload_n hx hb dX1_branch_32 rfl (lv_at hl 1 rfl) ?_
    refine g_X1_21 Cx hW (k := 188) (by decide) rfl (v := .ref (G.2.2.1 + 193)) (rf_188_1 iu_8) dX1_branch_33 ?_
    have q_18 : 0 ≤ S.1 193 9 ∧ S.1 193 9 ≤ 40 := hI.fi 193 9 6 (by decide) rfl
    have lk_19 : u_8.1 193 9 = S.1 193 9 := ((fu_8 193 rfl).1 9).trans ((fu_2 193 rfl).1 9)
    refine sBi (sV (As := []) (rest := []) (k := 193) Cx (s_X6_isFull_193 l G u_8  iu_8) (c_X1_206 Cx rfl rfl (rmk_ok (by omega) (by decide))) hW (by decide) rfl rfl rfl hl.1 rfl (Nat.le_of_ble_eq_true rfl) dX1_branch_36 ⟨Nat.le_of_ble_eq_true rfl, Nat.le_of_ble_eq_true rfl⟩) hL (fun r_22 u_20 H locs k_21 hW hL => ?_)
    obtain ⟨eu_20, xu_20⟩ := k_21
    rw [eu_20] at hW
    refine r_if_ne (tgt := 51) hx hb ⟨(by omega), (by omega)⟩ dX1_branch_39 (by decide) (fun c_23 => ?_) (fun c_23 => ?_)
    · refine lv_bipush (v := iv 6) hx hb dX1_branch_51 (by decide) ?_
      have q_24 : 0 ≤ u_8.1 189 3 ∧ u_8.1 189 3 ≤ 1000000000 := iu_8.fi 189 3 4 (by decide) rfl
      exact sIret Cx hr hlk hW hL ⟨iu_8, F_10, ⟨cr_11, (by omega), (by omega)⟩⟩ dX1_branch_53
    · refine lv_aload_n hx hb dX1_branch_42 rfl (lv_at hl 1 rfl) ?_
      have q_25 : 0 ≤ S.1 188 14 ∧ S.1 188 14 ≤ 40 := hI.fi 188 14 1 (by decide) rfl
      refine g_X1_103 Cx hW (k := 188) (by decide) rfl (v := S.1 188 14) (((fu_8 188 rfl).1 14).trans ((fu_2 188 rfl).1 14)) dX1_branch_43 ?_
      refine lv_bipush (v := iv 40) hx hb dX1_branch_46 (by decide) ?_
      refine r_icmp_lt (tgt := 54) hx hb ⟨(by omega), (by omega)⟩ ⟨(by omega), (by omega)⟩ dX1_branch_48 (by decide) (fun c_26 => ?_) (fun c_26 => ?_)
      · refine lv_aload_n hx hb dX1_branch_54 rfl (lv_at hl 1 rfl) ?_
        refine g_X1_57 Cx hW (k := 188) (by decide) rfl (v := .ref (G.2.2.1 + 225)) (rf_188_11 iu_8) dX1_branch_55 ?_
        refine lv_aload_n hx hb dX1_branch_58 rfl (lv_at hl 1 rfl) ?_
        refine g_X1_103 Cx hW (k := 188) (by decide) rfl (v := S.1 188 14) (((fu_8 188 rfl).1 14).trans ((fu_2 188 rfl).1 14)) dX1_branch_59 ?_
        refine lv_aload_n hx hb dX1_branch_62 rfl (lv_at hl 1 rfl) ?_
        refine g_X1_21 Cx hW (k := 188) (by decide) rfl (v := .ref (G.2.2.1 + 193)) (rf_188_1 iu_8) dX1_branch_63 ?_
        refine sBi (sV (As := []) (rest := [.int (iv (S.1 188 14)), .ref (G.2.2.1 + 225)]) (k := 193) Cx (s_X6_count_193 l G u_8  iu_8) (c_X1_209 Cx rfl rfl (rmk_ok (by omega) (by decide))) hW (by decide) rfl rfl rfl hl.1 rfl (Nat.le_of_ble_eq_true rfl) dX1_branch_66 ⟨Nat.le_of_ble_eq_true rfl, Nat.le_of_ble_eq_true rfl⟩) hL (fun r_29 u_27 H locs k_28 hW hL => ?_)
        obtain ⟨eu_27, xu_27⟩ := k_28
        rw [eu_27] at hW
        refine rIast Cx hW hL (k := 225) (by decide) rfl (by decide) (by omega) (by omega) dX1_branch_69 (fun H locs hW hL => ?_)
        have F_30 : Fr S (uA u_8 225 (S.1 188 14) r_29) pE := F_10.A rfl
        have i_31 : cX G (uA u_8 225 (S.1 188 14) r_29) 0 0 0 := iu_8.A (by decide) (by decide) (by decide) (show 0 ≤ r_29 ∧ r_29 ≤ 40 from ⟨by omega, by omega⟩)
        have cr_32 : CR G (uA u_8 225 (S.1 188 14) r_29) := cr_11.A (by decide) (by decide)
        refine lv_aload_n hx hb dX1_branch_70 rfl (lv_at hl 1 rfl) ?_
        refine g_X1_60 Cx hW (k := 188) (by decide) rfl (v := .ref (G.2.2.1 + 226)) (rf_188_12 i_31) dX1_branch_71 ?_
        refine lv_aload_n hx hb dX1_branch_74 rfl (lv_at hl 1 rfl) ?_
        refine g_X1_103 Cx hW (k := 188) (by decide) rfl (v := S.1 188 14) ((uA_f).trans (((fu_8 188 rfl).1 14).trans ((fu_2 188 rfl).1 14))) dX1_branch_75 ?_
        refine lv_iload_n hx hb dX1_branch_78 rfl (lv_at hl 0 rfl) ?_
        refine rIast Cx hW hL (k := 226) (by decide) rfl (by decide) (by omega) (by omega) dX1_branch_79 (fun H locs hW hL => ?_)
        have F_33 : Fr S (uA (uA u_8 225 (S.1 188 14) r_29) 226 (S.1 188 14) r_4) pE := F_30.A rfl
        have i_34 : cX G (uA (uA u_8 225 (S.1 188 14) r_29) 226 (S.1 188 14) r_4) 0 0 0 := i_31.A (by decide) (by decide) (by decide) (show (-2147483648) ≤ r_4 ∧ r_4 ≤ 2147483647 from ⟨by omega, by omega⟩)
        have cr_35 : CR G (uA (uA u_8 225 (S.1 188 14) r_29) 226 (S.1 188 14) r_4) := cr_32.A (by decide) (by decide)
        refine lv_aload_n hx hb dX1_branch_80 rfl (lv_at hl 1 rfl) ?_
        refine g_X1_48 Cx hW (k := 188) (by decide) rfl (v := .ref (G.2.2.1 + 219)) (rf_188_8 i_34) dX1_branch_81 ?_
        refine lv_aload_n hx hb dX1_branch_84 rfl (lv_at hl 1 rfl) ?_
        refine g_X1_63 Cx hW (k := 188) (by decide) rfl (v := .ref (G.2.2.1 + 227)) (rf_188_13 i_34) dX1_branch_85 ?_
        refine lv_aload_n hx hb dX1_branch_88 rfl (lv_at hl 1 rfl) ?_
        refine g_X1_103 Cx hW (k := 188) (by decide) rfl (v := S.1 188 14) ((uA_f).trans ((uA_f).trans (((fu_8 188 rfl).1 14).trans ((fu_2 188 rfl).1 14)))) dX1_branch_89 ?_
        refine lv_bipush (v := iv 8) hx hb dX1_branch_92 (by decide) ?_
        refine r_imul hx hb dX1_branch_94 ?_
        have q_36 : 0 ≤ u_8.1 219 1 ∧ u_8.1 219 1 ≤ 32 := iu_8.fi 219 1 0 (by decide) rfl
        have lk_37 : (uA (uA u_8 225 (S.1 188 14) r_29) 226 (S.1 188 14) r_4).1 219 1 = u_8.1 219 1 := (uA_f).trans (uA_f)
        have q_38 : (-1) ≤ u_8.1 219 2 ∧ u_8.1 219 2 ≤ 1 := iu_8.fi 219 2 0 (by decide) rfl
        have lk_39 : (uA (uA u_8 225 (S.1 188 14) r_29) 226 (S.1 188 14) r_4).1 219 2 = u_8.1 219 2 := (uA_f).trans (uA_f)
        refine sBv (sV (As := [.ref (G.2.2.1 + 227), .int (iv ((S.1 188 14) * 8))]) (rest := []) (k := 219) Cx (s_X0_save l G (uA (uA u_8 225 (S.1 188 14) r_29) 226 (S.1 188 14) r_4) (o := 219) (k := 227) (a := (S.1 188 14) * 8) (N := 328) i_34 rfl ⟨by decide, rfl, by decide, rfl, rfl, rfl⟩ (by omega) (show _ ≤ (7 : Int) ∧ (_ → _ ≤ (999999 : Int)) from ⟨(by omega), fun q => by have e : (uA (uA u_8 225 (S.1 188 14) r_29) 226 (S.1 188 14) r_4).2.1 220 6 = u_8.2.1 220 6 := (uA_ne (fun h => absurd h.1 (by decide))).trans (uA_ne (fun h => absurd h.1 (by decide))); rw [e]; exact xu_8.2.2.2 (by omega)⟩) (fun q _ => by rcases q with q | q <;> exact absurd q (by decide))) (c_X1_149 Cx rfl rfl (rmk_ok (by omega) (by decide))) hW (by decide) rfl rfl rfl hl.1 rfl (Nat.le_of_ble_eq_true rfl) dX1_branch_95 ⟨Nat.le_of_ble_eq_true rfl, Nat.le_of_ble_eq_true rfl⟩) hL (fun u_40 H locs k_41 hW hL => ?_)
        obtain ⟨iu_40, fu_40⟩ := k_41
        have F_42 := F_33.trans (fu_40.to (p1_sub rfl))
        have cr_43 : CR G u_40 := cr_35.fr fu_40 rfl rfl rfl rfl
        refine lv_aload_n hx hb dX1_branch_98 rfl (lv_at hl 1 rfl) ?_
        refine lv_dup hx hb dX1_branch_99 rfl ?_
        refine g_X1_103 Cx hW (k := 188) (by decide) rfl (v := S.1 188 14) (((fu_40 188 rfl).1 14).trans ((uA_f).trans ((uA_f).trans (((fu_8 188 rfl).1 14).trans ((fu_2 188 rfl).1 14))))) dX1_branch_100 ?_
        refine lv_iconst (v := iv 1) hx hb dX1_branch_103 (by decide) ?_
        refine r_iadd hx hb dX1_branch_104 ?_
        refine p_X1_103 Cx hW hL (k := 188) (by decide) rfl dX1_branch_105 (fun H locs hW hL => ?_)
        have F_44 : Fr S (uF u_40 188 14 ((S.1 188 14) + 1)) pE := F_42.F rfl
        have i_45 : cX G (uF u_40 188 14 ((S.1 188 14) + 1)) 0 0 0 := iu_40.F rfl rfl (show 0 ≤ (S.1 188 14) + 1 ∧ (S.1 188 14) + 1 ≤ 40 from ⟨by omega, by omega⟩)
        have cr_46 : CR G (uF u_40 188 14 ((S.1 188 14) + 1)) := cr_43.F (by decide)
        refine lv_aload_n hx hb dX1_branch_108 rfl (lv_at hl 1 rfl) ?_
        refine g_X1_21 Cx hW (k := 188) (by decide) rfl (v := .ref (G.2.2.1 + 193)) (rf_188_1 i_45) dX1_branch_109 ?_
        refine lv_iload_n hx hb dX1_branch_112 rfl (lv_at hl 0 rfl) ?_
        refine lv_aload_n hx hb dX1_branch_113 rfl (lv_at hl 1 rfl) ?_
        refine g_X1_48 Cx hW (k := 188) (by decide) rfl (v := .ref (G.2.2.1 + 219)) (rf_188_8 i_45) dX1_branch_114 ?_
        refine lv_iconst (v := iv 0) hx hb dX1_branch_117 (by decide) ?_
        have lk_47 : (uF u_40 188 14 ((S.1 188 14) + 1)).1 219 1 = u_8.1 219 1 := (uF_ne (fun h => absurd h.2 (by decide))).trans (((fu_40 219 rfl).1 1).trans ((uA_f).trans (uA_f)))
        refine sBv (sV (As := [.int (iv r_4), .ref (G.2.2.1 + 219), .int (iv 0)]) (rest := []) (k := 193) Cx (s_X6_addLimit_193 l G (uF u_40 188 14 ((S.1 188 14) + 1)) (z := r_4) (ab := 0) i_45 (by omega) (by omega) (by omega) (fun q => by have e : (uF u_40 188 14 ((S.1 188 14) + 1)).2.1 220 6 = u_8.2.1 220 6 := (uF_a).trans (((fu_40 220 rfl).2.1 6).trans ((uA_ne (fun h => absurd h.1 (by decide))).trans (uA_ne (fun h => absurd h.1 (by decide))))); rw [e]; exact xu_8.2.2.2 (by omega))) (c_X1_212 Cx rfl rfl (rmk_ok (by omega) (by decide))) hW (by decide) rfl rfl rfl hl.1 rfl (Nat.le_of_ble_eq_true rfl) dX1_branch_118 ⟨Nat.le_of_ble_eq_true rfl, Nat.le_of_ble_eq_true rfl⟩) hL (fun u_48 H locs k_49 hW hL => ?_)
        obtain ⟨iu_48, fu_48⟩ := k_49
        have F_50 := F_44.trans (fu_48.to pW_E)
        have cr_51 : CR G u_48 := cr_46.fr fu_48 rfl rfl rfl rfl
        refine lv_iconst (v := iv 0) hx hb dX1_branch_121 (by decide) ?_
        have q_52 : 0 ≤ u_8.1 189 3 ∧ u_8.1 189 3 ≤ 1000000000 := iu_8.fi 189 3 4 (by decide) rfl
        have lk_53 : u_48.1 189 3 = u_8.1 189 3 := ((fu_48 189 rfl).1 3).trans ((uF_ne (fun h => absurd h.2 (by decide))).trans (((fu_40 189 rfl).1 3).trans ((uA_f).trans (uA_f))))
        exact sIret Cx hr hlk hW hL ⟨iu_48, F_50, ⟨cr_51, (by omega), (by omega)⟩⟩ dX1_branch_122
      · refine lv_bipush (v := iv 6) hx hb dX1_branch_51 (by decide) ?_
        have q_54 : 0 ≤ u_8.1 189 3 ∧ u_8.1 189 3 ≤ 1000000000 := iu_8.fi 189 3 4 (by decide) rfl
        exact sIret Cx hr hlk hW hL ⟨iu_8, F_10, ⟨cr_11, (by omega), (by omega)⟩⟩ dX1_branch_53
  · refine lv_iconst (v := iv 4) hx hb dX1_branch_30 (by decide) ?_
    have q_55 : 0 ≤ u_8.1 189 3 ∧ u_8.1 189 3 ≤ 1000000000 := iu_8.fi 189 3 4 (by decide) rfl
    exact sIret Cx hr hlk hW hL ⟨iu_8, F_10, ⟨cr_11, (by omega), (by omega)⟩⟩ dX1_branch_31

set_option maxRecDepth 100000 in
set_option maxHeartbeats 4000000 in
theorem s_X1_beginSecondTree (l : Launch) (G : sG) (S : sS)  (hI : cX G S 0 0 0) (hCR : CR G S) (hwt : 1 ≤ S.1 188 14) : Met l yX1_beginSecondTree (.code yX1_beginSecondTree cX1_beginSecondTree 1 none :: tb) (rmk 5 0 0) (sPc G 294 S [.ref (G.2.2.1 + 188)]) (sQv G 294 (fun u => cX G u 0 0 0 ∧ Fr S u pE ∧ (CR G u ∧ u.1 189 3 ≤ S.1 189 3 + 0))) 0 0 (sF G) := by
  refine sEnter (by decide) (Nat.le_of_ble_eq_true rfl) ?_
  intro p e s m args below meth c Cx hr hlk hnm hW ls hl
  have Cx : sC G p m c cX1_beginSecondTree 1 s args RX1 := Cx
  obtain ⟨hx, hb, hml, hown, hts⟩ := id Cx.1
  have hL : sL G [] := sL_nil
  have hl : lv_has ls 1 [(0, .ref (G.2.2.1 + 188))] := hl
  have hW0 := hW
  refine lv_aload_n hx hb dX1_beginSecondTree_0 rfl (lv_at hl 0 rfl) ?_
  refine lv_dup hx hb dX1_beginSecondTree_1 rfl ?_
  have q_1 : 0 ≤ S.1 188 14 ∧ S.1 188 14 ≤ 40 := hI.fi 188 14 1 (by decide) rfl
  refine g_X1_103 Cx hW (k := 188) (by decide) rfl (v := S.1 188 14) rfl dX1_beginSecondTree_2 ?_
  refine lv_iconst (v := iv 1) hx hb dX1_beginSecondTree_5 (by decide) ?_
  refine r_isub hx hb dX1_beginSecondTree_6 ?_
  refine p_X1_103 Cx hW hL (k := 188) (by decide) rfl dX1_beginSecondTree_7 (fun H locs hW hL => ?_)
  have F_2 : Fr S (uF S 188 14 ((S.1 188 14) - 1)) pE := (Fr.rf : Fr S S pE).F rfl
  have i_3 : cX G (uF S 188 14 ((S.1 188 14) - 1)) 0 0 0 := hI.F rfl rfl (show 0 ≤ (S.1 188 14) - 1 ∧ (S.1 188 14) - 1 ≤ 40 from ⟨by omega, by omega⟩)
  have cr_4 : CR G (uF S 188 14 ((S.1 188 14) - 1)) := hCR.F (by decide)
  refine lv_aload_n hx hb dX1_beginSecondTree_10 rfl (lv_at hl 0 rfl) ?_
  refine g_X1_21 Cx hW (k := 188) (by decide) rfl (v := .ref (G.2.2.1 + 193)) (rf_188_1 i_3) dX1_beginSecondTree_11 ?_
  refine lv_aload_n hx hb dX1_beginSecondTree_14 rfl (lv_at hl 0 rfl) ?_
  refine g_X1_57 Cx hW (k := 188) (by decide) rfl (v := .ref (G.2.2.1 + 225)) (rf_188_11 i_3) dX1_beginSecondTree_15 ?_
  refine lv_aload_n hx hb dX1_beginSecondTree_18 rfl (lv_at hl 0 rfl) ?_
  refine g_X1_103 Cx hW (k := 188) (by decide) rfl (v := (S.1 188 14) - 1) uF_on dX1_beginSecondTree_19 ?_
  refine rIald Cx hW (k := 225) (by decide) rfl (by decide) (by omega) (by omega) dX1_beginSecondTree_22 ?_
  have q_5 : 0 ≤ S.2.1 225 ((S.1 188 14) - 1) ∧ S.2.1 225 ((S.1 188 14) - 1) ≤ 40 := hI.ai 225 ((S.1 188 14) - 1) (by decide)
  refine r_i (b := S.2.1 225 ((S.1 188 14) - 1)) uF_a ?_
  refine sBv (sV (As := [.int (iv (S.2.1 225 ((S.1 188 14) - 1)))]) (rest := []) (k := 193) Cx (s_X6_keep_193 l G (uF S 188 14 ((S.1 188 14) - 1)) (k := S.2.1 225 ((S.1 188 14) - 1)) i_3 (by omega)) (c_X1_216 Cx rfl rfl (rmk_ok (by omega) (by decide))) hW (by decide) rfl rfl rfl hl.1 rfl (Nat.le_of_ble_eq_true rfl) dX1_beginSecondTree_23 ⟨Nat.le_of_ble_eq_true rfl, Nat.le_of_ble_eq_true rfl⟩) hL (fun u_6 H locs k_7 hW hL => ?_)
  obtain ⟨iu_6, fu_6⟩ := k_7
  have F_8 := F_2.trans (fu_6.to pW_E)
  have cr_9 : CR G u_6 := cr_4.fr fu_6 rfl rfl rfl rfl
  refine lv_aload_n hx hb dX1_beginSecondTree_26 rfl (lv_at hl 0 rfl) ?_
  refine g_X1_48 Cx hW (k := 188) (by decide) rfl (v := .ref (G.2.2.1 + 219)) (rf_188_8 iu_6) dX1_beginSecondTree_27 ?_
  refine lv_aload_n hx hb dX1_beginSecondTree_30 rfl (lv_at hl 0 rfl) ?_
  refine g_X1_63 Cx hW (k := 188) (by decide) rfl (v := .ref (G.2.2.1 + 227)) (rf_188_13 iu_6) dX1_beginSecondTree_31 ?_
  refine lv_aload_n hx hb dX1_beginSecondTree_34 rfl (lv_at hl 0 rfl) ?_
  refine g_X1_103 Cx hW (k := 188) (by decide) rfl (v := (S.1 188 14) - 1) (((fu_6 188 rfl).1 14).trans (uF_on)) dX1_beginSecondTree_35 ?_
  refine lv_bipush (v := iv 8) hx hb dX1_beginSecondTree_38 (by decide) ?_
  refine r_imul hx hb dX1_beginSecondTree_40 ?_
  refine sBv (sV (As := [.ref (G.2.2.1 + 227), .int (iv (((S.1 188 14) - 1) * 8))]) (rest := []) (k := 219) Cx (s_X0_load l G u_6 (o := 219) (k := 227) (a := ((S.1 188 14) - 1) * 8) (N := 328) iu_6 rfl ⟨by decide, rfl, by decide, rfl, rfl, rfl⟩ (by omega)) (c_X1_157 Cx rfl rfl (rmk_ok (by omega) (by decide))) hW (by decide) rfl rfl rfl hl.1 rfl (Nat.le_of_ble_eq_true rfl) dX1_beginSecondTree_41 ⟨Nat.le_of_ble_eq_true rfl, Nat.le_of_ble_eq_true rfl⟩) hL (fun u_10 H locs k_11 hW hL => ?_)
  obtain ⟨iu_10, fu_10, xu_10⟩ := k_11
  have F_12 := F_8.trans (fu_10.to (pB_sub rfl rfl))
  have yu_10 : u_10.1 219 1 ≤ 7 := xu_10.1
  have cr_13 : CR G u_10 := cr_9.fr fu_10 rfl rfl rfl rfl
  refine lv_aload_n hx hb dX1_beginSecondTree_44 rfl (lv_at hl 0 rfl) ?_
  refine g_X1_21 Cx hW (k := 188) (by decide) rfl (v := .ref (G.2.2.1 + 193)) (rf_188_1 iu_10) dX1_beginSecondTree_45 ?_
  refine lv_aload_n hx hb dX1_beginSecondTree_48 rfl (lv_at hl 0 rfl) ?_
  refine g_X1_60 Cx hW (k := 188) (by decide) rfl (v := .ref (G.2.2.1 + 226)) (rf_188_12 iu_10) dX1_beginSecondTree_49 ?_
  refine lv_aload_n hx hb dX1_beginSecondTree_52 rfl (lv_at hl 0 rfl) ?_
  refine g_X1_103 Cx hW (k := 188) (by decide) rfl (v := (S.1 188 14) - 1) (((fu_10 188 rfl).1 14).trans (((fu_6 188 rfl).1 14).trans (uF_on))) dX1_beginSecondTree_53 ?_
  refine rIald Cx hW (k := 226) (by decide) rfl (by decide) (by omega) (by omega) dX1_beginSecondTree_56 ?_
  have q_14 : (-2147483648) ≤ S.2.1 226 ((S.1 188 14) - 1) ∧ S.2.1 226 ((S.1 188 14) - 1) ≤ 2147483647 := hI.ai 226 ((S.1 188 14) - 1) (by decide)
  refine r_i (b := S.2.1 226 ((S.1 188 14) - 1)) (((fu_10 226 rfl).2.1 ((S.1 188 14) - 1)).trans (((fu_6 226 rfl).2.1 ((S.1 188 14) - 1)).trans (uF_a))) ?_
  refine lv_aload_n hx hb dX1_beginSecondTree_57 rfl (lv_at hl 0 rfl) ?_
  refine g_X1_48 Cx hW (k := 188) (by decide) rfl (v := .ref (G.2.2.1 + 219)) (rf_188_8 iu_10) dX1_beginSecondTree_58 ?_
  refine lv_iconst (v := iv 1) hx hb dX1_beginSecondTree_61 (by decide) ?_
  have q_15 : 0 ≤ u_10.1 219 1 ∧ u_10.1 219 1 ≤ 32 := iu_10.fi 219 1 0 (by decide) rfl
  refine sBv (sV (As := [.int (iv (S.2.1 226 ((S.1 188 14) - 1))), .ref (G.2.2.1 + 219), .int (iv 1)]) (rest := []) (k := 193) Cx (s_X6_addLimit_193 l G u_10 (z := S.2.1 226 ((S.1 188 14) - 1)) (ab := 1) iu_10 (by omega) (by omega) (by omega) (fun q => by have e := xu_10.2.1 (by omega); exact e)) (c_X1_212 Cx rfl rfl (rmk_ok (by omega) (by decide))) hW (by decide) rfl rfl rfl hl.1 rfl (Nat.le_of_ble_eq_true rfl) dX1_beginSecondTree_62 ⟨Nat.le_of_ble_eq_true rfl, Nat.le_of_ble_eq_true rfl⟩) hL (fun u_16 H locs k_17 hW hL => ?_)
  obtain ⟨iu_16, fu_16⟩ := k_17
  have F_18 := F_12.trans (fu_16.to pW_E)
  have cr_19 : CR G u_16 := cr_13.fr fu_16 rfl rfl rfl rfl
  have q_20 : 0 ≤ S.1 189 3 ∧ S.1 189 3 ≤ 1000000000 := hI.fi 189 3 4 (by decide) rfl
  have lk_21 : u_16.1 189 3 = S.1 189 3 := ((fu_16 189 rfl).1 3).trans (((fu_10 189 rfl).1 3).trans (((fu_6 189 rfl).1 3).trans (uF_ne (fun h => absurd h.2 (by decide)))))
  exact sVret Cx hr hlk hW hL ⟨iu_16, F_18, ⟨cr_19, (by omega)⟩⟩ dX1_beginSecondTree_65

set_option maxRecDepth 100000 in
set_option maxHeartbeats 4000000 in
theorem s_X1_holdTrees (l : Launch) (G : sG) (S : sS) {hv : Int} (hI : cX G S 0 0 0) (hhv : 0 ≤ hv ∧ hv ≤ 1) (hCR : CR G S) (hat : S.1 189 3 ≤ 1000) : Met l yX1_holdTrees (.code yX1_holdTrees cX1_holdTrees 6 (some .boolean) :: tb) (rmk 7 0 0) (sPc G 294 S [.ref (G.2.2.1 + 188), .int (iv hv)]) (sQi G 294 (fun r u => cX G u 0 0 0 ∧ Fr S u pE ∧ (CR G u ∧ 0 ≤ r ∧ r ≤ 1))) 0 0 (sF G) := by
  refine sEnter (by decide) (Nat.le_of_ble_eq_true rfl) ?_
  intro p e s m args below meth c Cx hr hlk hnm hW ls hl
  have Cx : sC G p m c cX1_holdTrees 6 s args RX1 := Cx
  obtain ⟨hx, hb, hml, hown, hts⟩ := id Cx.1
  have hL : sL G [] := sL_nil
  have hl : lv_has ls 6 [(0, .ref (G.2.2.1 + 188)), (1, .int (iv hv))] := hl
  have hW0 := hW
  have hat0 : 0 ≤ S.1 189 3 ∧ S.1 189 3 ≤ 1000000000 := hI.fi 189 3 4 (by decide) rfl
  refine lv_iconst (v := iv 1) hx hb dX1_holdTrees_0 (by decide) ?_
  refine lv_istore_n (lv' := [(2, .int (iv 1)), (0, .ref (G.2.2.1 + 188)), (1, .int (iv hv))]) hx hb dX1_holdTrees_1 rfl hl (by decide) rfl (fun ls hl => ?_)
  have loop_2 : ∀ (fuel : Nat) (S2 : sS) (tr : Int) (H : Heap) (locs : List Loc) (ls : Array Slot), (3001 - tr).toNat < fuel → (cX G S2 0 0 0) → (Fr S S2 pE) → (Fr S S2 pE) → (1 ≤ tr ∧ tr ≤ 3001) → (S2.1 189 3 ≤ S.1 189 3 + 90021 * (tr - 1)) → (CR G S2) → sW G 294 S2 H → sL G locs → lv_has ls 6 [(2, .int (iv tr)), (0, .ref (G.2.2.1 + 188)), (1, .int (iv hv))] → W p l e (rmk 7 0 0) s m args below meth c H locs 0 0 (MQ below (sQi G 294 (fun r u => cX G u 0 0 0 ∧ Fr S u pE ∧ (CR G u ∧ 0 ≤ r ∧ r ≤ 1))) args s 0 0 (sF G)) (F0 m 2 ls []) := by
    intro fuel
    induction fuel with
    | zero => intro S2 tr H locs ls hmeas hI2 hFm2 hL2_ htr ha2 hCR2 hW hL hl; exact absurd hmeas (Nat.not_lt_zero _)
    | succ fuel ih_2 =>
      intro S2 tr H locs ls hmeas hI2 hFm2 hL2_ htr ha2 hCR2 hW hL hl
      refine lv_iload_n hx hb dX1_holdTrees_2 rfl (lv_at hl 0 rfl) ?_
      refine lv_sipush (v := iv 3000) hx hb dX1_holdTrees_3 (by decide) ?_
      refine r_icmp_gt (tgt := 99) hx hb ⟨(by omega), (by omega)⟩ ⟨(by omega), (by omega)⟩ dX1_holdTrees_6 (by decide) (fun c_1 => ?_) (fun c_1 => ?_)
      · refine lv_aload_n hx hb dX1_holdTrees_99 rfl (lv_at hl 1 rfl) ?_
        refine lv_bipush (v := iv 6) hx hb dX1_holdTrees_100 (by decide) ?_
        refine lv_aload_n hx hb dX1_holdTrees_102 rfl (lv_at hl 1 rfl) ?_
        refine g_X1_12 Cx hW (k := 188) (by decide) rfl (v := .ref (G.2.2.1 + 189)) (rf_188_0 hI2) dX1_holdTrees_103 ?_
        have q_2 : 0 ≤ S2.1 189 3 ∧ S2.1 189 3 ≤ 1000000000 := hI2.fi 189 3 4 (by decide) rfl
        have q_3 : 0 ≤ S2.1 189 2 ∧ S2.1 189 2 ≤ 30001 := hI2.fi 189 2 4 (by decide) rfl
        refine sBi (sV (As := []) (rest := [.int (iv 6), .ref (G.2.2.1 + 188)]) (k := 189) Cx (s_X4_start l G S2  hI2) (c_X1_91 Cx rfl rfl (rmk_ok (by omega) (by decide))) hW (by decide) rfl rfl rfl hl.1 rfl (Nat.le_of_ble_eq_true rfl) dX1_holdTrees_106 ⟨Nat.le_of_ble_eq_true rfl, Nat.le_of_ble_eq_true rfl⟩) hL (fun r_6 u_4 H locs k_5 hW hL => ?_)
        obtain ⟨eu_4, xu_4⟩ := k_5
        rw [eu_4] at hW
        refine sBi (sV (As := [.int (iv 6), .int (iv r_6)]) (rest := []) (k := 188) Cx (s_X1_fail l G S2 (kn := 6) (wh := r_6) hI2 (by omega) (by omega)) (c_X1_95 Cx rfl rfl (rmk_ok (by omega) (by decide))) hW (by decide) rfl rfl rfl hl.1 rfl (Nat.le_of_ble_eq_true rfl) dX1_holdTrees_109 ⟨Nat.le_of_ble_eq_true rfl, Nat.le_of_ble_eq_true rfl⟩) hL (fun r_9 u_7 H locs k_8 hW hL => ?_)
        obtain ⟨iu_7, fu_7, xu_7⟩ := k_8
        have F_10 := hFm2.trans (fu_7.to (p1_sub rfl))
        have F_11 := hL2_.trans (fu_7.to (p1_sub rfl))
        have cr_12 : CR G u_7 := hCR2.fr fu_7 rfl rfl rfl rfl
        exact sZret Cx hr hlk hW hL (by omega) ⟨iu_7, F_10, ⟨cr_12, (by omega)⟩⟩ dX1_holdTrees_112
      · refine lv_aload_n hx hb dX1_holdTrees_9 rfl (lv_at hl 1 rfl) ?_
        refine g_X1_12 Cx hW (k := 188) (by decide) rfl (v := .ref (G.2.2.1 + 189)) (rf_188_0 hI2) dX1_holdTrees_10 ?_
        have q_13 : 0 ≤ S2.1 189 3 ∧ S2.1 189 3 ≤ 1000000000 := hI2.fi 189 3 4 (by decide) rfl
        have q_14 : 0 ≤ S2.1 189 2 ∧ S2.1 189 2 ≤ 30001 := hI2.fi 189 2 4 (by decide) rfl
        refine sBi (sV (As := []) (rest := []) (k := 189) Cx (s_X4_kind l G S2  hI2) (c_X1_109 Cx rfl rfl (rmk_ok (by omega) (by decide))) hW (by decide) rfl rfl rfl hl.1 rfl (Nat.le_of_ble_eq_true rfl) dX1_holdTrees_13 ⟨Nat.le_of_ble_eq_true rfl, Nat.le_of_ble_eq_true rfl⟩) hL (fun r_17 u_15 H locs k_16 hW hL => ?_)
        obtain ⟨eu_15, xu_15⟩ := k_16
        rw [eu_15] at hW
        refine lv_istore_n (lv' := [(3, .int (iv r_17)), (2, .int (iv tr)), (0, .ref (G.2.2.1 + 188)), (1, .int (iv hv))]) hx hb dX1_holdTrees_16 rfl hl (by decide) rfl (fun ls hl => ?_)
        refine lv_aload_n hx hb dX1_holdTrees_17 rfl (lv_at hl 2 rfl) ?_
        refine g_X1_12 Cx hW (k := 188) (by decide) rfl (v := .ref (G.2.2.1 + 189)) (rf_188_0 hI2) dX1_holdTrees_18 ?_
        refine sBi (sV (As := []) (rest := []) (k := 189) Cx (s_X4_start l G S2  hI2) (c_X1_91 Cx rfl rfl (rmk_ok (by omega) (by decide))) hW (by decide) rfl rfl rfl hl.1 rfl (Nat.le_of_ble_eq_true rfl) dX1_holdTrees_21 ⟨Nat.le_of_ble_eq_true rfl, Nat.le_of_ble_eq_true rfl⟩) hL (fun r_20 u_18 H locs k_19 hW hL => ?_)
        obtain ⟨eu_18, xu_18⟩ := k_19
        rw [eu_18] at hW
        refine lv_istore (lv' := [(4, .int (iv r_20)), (3, .int (iv r_17)), (2, .int (iv tr)), (0, .ref (G.2.2.1 + 188)), (1, .int (iv hv))]) hx hb dX1_holdTrees_24 hl (by decide) rfl (fun ls hl => ?_)
        refine lv_aload_n hx hb dX1_holdTrees_26 rfl (lv_at hl 3 rfl) ?_
        refine g_X1_12 Cx hW (k := 188) (by decide) rfl (v := .ref (G.2.2.1 + 189)) (rf_188_0 hI2) dX1_holdTrees_27 ?_
        refine sBv (sV (As := []) (rest := []) (k := 189) Cx (s_X4_advance l G S2  hI2 (by omega)) (c_X1_119 Cx rfl rfl (rmk_ok (by omega) (by decide))) hW (by decide) rfl rfl rfl hl.1 rfl (Nat.le_of_ble_eq_true rfl) dX1_holdTrees_30 ⟨Nat.le_of_ble_eq_true rfl, Nat.le_of_ble_eq_true rfl⟩) hL (fun u_21 H locs k_22 hW hL => ?_)
        obtain ⟨iu_21, fu_21, xu_21⟩ := k_22
        have F_23 := hFm2.trans (fu_21.to (fun k h => pRd_E k (p189_Rd k h)))
        have F_24 := hL2_.trans (fu_21.to (fun k h => pRd_E k (p189_Rd k h)))
        have at_u_21 : u_21.1 189 3 = S2.1 189 3 + 1 := by rw [xu_21]; exact uF_on
        have cr_25 : CR G u_21 := by rw [xu_21]; exact hCR2.F (by decide)
        have join_52 : ∀ (S52 : sS) (bd : Int) (H : Heap) (locs : List Loc) (ls : Array Slot), (cX G S52 0 0 0) → (Fr S S52 pE) → (Fr S S52 pE) → (Fr u_21 S52 pE) → (0 ≤ bd ∧ bd ≤ 6) → (S52.1 189 3 ≤ S.1 189 3 + 90021 * tr) → (CR G S52) → sW G 294 S52 H → sL G locs → lv_has ls 6 [(4, .int (iv r_20)), (3, .int (iv r_17)), (2, .int (iv tr)), (0, .ref (G.2.2.1 + 188)), (1, .int (iv hv))] → W p l e (rmk 7 0 0) s m args below meth c H locs 0 0 (MQ below (sQi G 294 (fun r u => cX G u 0 0 0 ∧ Fr S u pE ∧ (CR G u ∧ 0 ≤ r ∧ r ≤ 1))) args s 0 0 (sF G)) (F0 m 52 ls [.int (iv bd)]) := by
          intro S52 bd H locs ls hI52 hFm52 hFL252 hL52_ hbd ha52 hCR52 hW hL hl
          refine lv_istore (lv' := [(5, .int (iv bd)), (4, .int (iv r_20)), (3, .int (iv r_17)), (2, .int (iv tr)), (0, .ref (G.2.2.1 + 188)), (1, .int (iv hv))]) hx hb dX1_holdTrees_52 hl (by decide) rfl (fun ls hl => ?_)
          refine lv_iload hx hb dX1_holdTrees_54 (lv_at hl 0 rfl) ?_
          refine r_if_eq (tgt := 68) hx hb ⟨(by omega), (by omega)⟩ dX1_holdTrees_56 (by decide) (fun c_26 => ?_) (fun c_26 => ?_)
          · have join_93 : ∀ (S93 : sS)  (H : Heap) (locs : List Loc) (ls : Array Slot), (cX G S93 0 0 0) → (Fr S S93 pE) → (Fr S S93 pE) → (Fr u_21 S93 pE) → (Fr S52 S93 pE) → (S93.1 189 3 ≤ S.1 189 3 + 90021 * tr) → (CR G S93) → sW G 294 S93 H → sL G locs → lv_has ls 6 [(5, .int (iv bd)), (4, .int (iv r_20)), (3, .int (iv r_17)), (2, .int (iv tr)), (0, .ref (G.2.2.1 + 188)), (1, .int (iv hv))] → W p l e (rmk 7 0 0) s m args below meth c H locs 0 0 (MQ below (sQi G 294 (fun r u => cX G u 0 0 0 ∧ Fr S u pE ∧ (CR G u ∧ 0 ≤ r ∧ r ≤ 1))) args s 0 0 (sF G)) (F0 m 93 ls []) := by
              intro S93  H locs ls hI93 hFm93 hFL293 hFL5293 hL93_ ha93 hCR93 hW hL hl
              refine lv_iinc (v := iv (tr + 1)) (lv' := [(2, .int (iv (tr + 1))), (5, .int (iv bd)), (4, .int (iv r_20)), (3, .int (iv r_17)), (0, .ref (G.2.2.1 + 188)), (1, .int (iv hv))]) hx hb dX1_holdTrees_93 hl (k := 3) rfl ((Int32.ofInt_add _ _).symm) (by decide) rfl (fun ls hl => ?_)
              refine lv_goto (tgt := 2) hx hb dX1_holdTrees_96 (by decide) ?_
              have q_27 : 0 ≤ S93.1 189 3 ∧ S93.1 189 3 ≤ 1000000000 := hI93.fi 189 3 4 (by decide) rfl
              exact ih_2 S93 (tr + 1) _ _ _ (by omega) hI93 hFm93 hFL293 (by omega) (by omega) hCR93 hW hL (lv_sub hl [0, 4, 5] rfl)
            refine lv_iload_n hx hb dX1_holdTrees_68 rfl (lv_at hl 2 rfl) ?_
            refine lv_bipush (v := iv 14) hx hb dX1_holdTrees_69 (by decide) ?_
            refine r_icmp_eq (tgt := 80) hx hb ⟨(by omega), (by omega)⟩ ⟨(by omega), (by omega)⟩ dX1_holdTrees_71 (by decide) (fun c_28 => ?_) (fun c_28 => ?_)
            · refine lv_aload_n hx hb dX1_holdTrees_80 rfl (lv_at hl 4 rfl) ?_
              have q_29 : 0 ≤ S52.1 188 14 ∧ S52.1 188 14 ≤ 40 := hI52.fi 188 14 1 (by decide) rfl
              refine g_X1_103 Cx hW (k := 188) (by decide) rfl (v := S52.1 188 14) rfl dX1_holdTrees_81 ?_
              refine r_if_ne (tgt := 89) hx hb ⟨(by omega), (by omega)⟩ dX1_holdTrees_84 (by decide) (fun c_30 => ?_) (fun c_30 => ?_)
              · refine lv_aload_n hx hb dX1_holdTrees_89 rfl (lv_at hl 4 rfl) ?_
                have q_31 : 0 ≤ S52.1 189 3 ∧ S52.1 189 3 ≤ 1000000000 := hI52.fi 189 3 4 (by decide) rfl
                refine sBv (sV (As := []) (rest := []) (k := 188) Cx (s_X1_beginSecondTree l G S52  hI52 hCR52 (by omega)) (c_X1_200 Cx rfl rfl (rmk_ok (by omega) (by decide))) hW (by decide) rfl rfl rfl hl.1 rfl (Nat.le_of_ble_eq_true rfl) dX1_holdTrees_90 ⟨Nat.le_of_ble_eq_true rfl, Nat.le_of_ble_eq_true rfl⟩) hL (fun u_32 H locs k_33 hW hL => ?_)
                obtain ⟨iu_32, fu_32, xu_32⟩ := k_33
                have F_34 := hFm52.trans fu_32
                have F_35 := hFL252.trans fu_32
                have F_36 := hL52_.trans fu_32
                have F_37 := (Fr.rf : Fr S52 S52 pE).trans fu_32
                have cr_38 : CR G u_32 := xu_32.1
                have q_39 : 0 ≤ u_32.1 189 3 ∧ u_32.1 189 3 ≤ 1000000000 := iu_32.fi 189 3 4 (by decide) rfl
                exact join_93 u_32  _ _ _ iu_32 F_34 F_35 F_36 F_37 (by omega) cr_38 hW hL (lv_sub hl [0, 1, 2, 3, 4, 5] rfl)
              · refine lv_iconst (v := iv 1) hx hb dX1_holdTrees_87 (by decide) ?_
                exact sZret Cx hr hlk hW hL (by omega) ⟨hI52, hFm52, ⟨hCR52, (by omega)⟩⟩ dX1_holdTrees_88
            · refine lv_iload_n hx hb dX1_holdTrees_74 rfl (lv_at hl 2 rfl) ?_
              refine lv_bipush (v := iv 15) hx hb dX1_holdTrees_75 (by decide) ?_
              refine r_icmp_ne (tgt := 93) hx hb ⟨(by omega), (by omega)⟩ ⟨(by omega), (by omega)⟩ dX1_holdTrees_77 (by decide) (fun c_40 => ?_) (fun c_40 => ?_)
              · have q_41 : 0 ≤ S52.1 189 3 ∧ S52.1 189 3 ≤ 1000000000 := hI52.fi 189 3 4 (by decide) rfl
                exact join_93 S52  _ _ _ hI52 hFm52 hFL252 hL52_ (Fr.rf : Fr S52 S52 pE) (by omega) hCR52 hW hL (lv_sub hl [0, 1, 2, 3, 4, 5] rfl)
              · refine lv_aload_n hx hb dX1_holdTrees_80 rfl (lv_at hl 4 rfl) ?_
                have q_42 : 0 ≤ S52.1 188 14 ∧ S52.1 188 14 ≤ 40 := hI52.fi 188 14 1 (by decide) rfl
                refine g_X1_103 Cx hW (k := 188) (by decide) rfl (v := S52.1 188 14) rfl dX1_holdTrees_81 ?_
                refine r_if_ne (tgt := 89) hx hb ⟨(by omega), (by omega)⟩ dX1_holdTrees_84 (by decide) (fun c_43 => ?_) (fun c_43 => ?_)
                · refine lv_aload_n hx hb dX1_holdTrees_89 rfl (lv_at hl 4 rfl) ?_
                  have q_44 : 0 ≤ S52.1 189 3 ∧ S52.1 189 3 ≤ 1000000000 := hI52.fi 189 3 4 (by decide) rfl
                  refine sBv (sV (As := []) (rest := []) (k := 188) Cx (s_X1_beginSecondTree l G S52  hI52 hCR52 (by omega)) (c_X1_200 Cx rfl rfl (rmk_ok (by omega) (by decide))) hW (by decide) rfl rfl rfl hl.1 rfl (Nat.le_of_ble_eq_true rfl) dX1_holdTrees_90 ⟨Nat.le_of_ble_eq_true rfl, Nat.le_of_ble_eq_true rfl⟩) hL (fun u_45 H locs k_46 hW hL => ?_)
                  obtain ⟨iu_45, fu_45, xu_45⟩ := k_46
                  have F_47 := hFm52.trans fu_45
                  have F_48 := hFL252.trans fu_45
                  have F_49 := hL52_.trans fu_45
                  have F_50 := (Fr.rf : Fr S52 S52 pE).trans fu_45
                  have cr_51 : CR G u_45 := xu_45.1
                  have q_52 : 0 ≤ u_45.1 189 3 ∧ u_45.1 189 3 ≤ 1000000000 := iu_45.fi 189 3 4 (by decide) rfl
                  exact join_93 u_45  _ _ _ iu_45 F_47 F_48 F_49 F_50 (by omega) cr_51 hW hL (lv_sub hl [0, 1, 2, 3, 4, 5] rfl)
                · refine lv_iconst (v := iv 1) hx hb dX1_holdTrees_87 (by decide) ?_
                  exact sZret Cx hr hlk hW hL (by omega) ⟨hI52, hFm52, ⟨hCR52, (by omega)⟩⟩ dX1_holdTrees_88
          · refine lv_aload_n hx hb dX1_holdTrees_59 rfl (lv_at hl 4 rfl) ?_
            refine lv_iload hx hb dX1_holdTrees_60 (lv_at hl 0 rfl) ?_
            refine lv_iload hx hb dX1_holdTrees_62 (lv_at hl 1 rfl) ?_
            refine sBi (sV (As := [.int (iv bd), .int (iv r_20)]) (rest := []) (k := 188) Cx (s_X1_fail l G S52 (kn := bd) (wh := r_20) hI52 (by omega) (by omega)) (c_X1_95 Cx rfl rfl (rmk_ok (by omega) (by decide))) hW (by decide) rfl rfl rfl hl.1 rfl (Nat.le_of_ble_eq_true rfl) dX1_holdTrees_64 ⟨Nat.le_of_ble_eq_true rfl, Nat.le_of_ble_eq_true rfl⟩) hL (fun r_55 u_53 H locs k_54 hW hL => ?_)
            obtain ⟨iu_53, fu_53, xu_53⟩ := k_54
            have F_56 := hFm52.trans (fu_53.to (p1_sub rfl))
            have F_57 := hFL252.trans (fu_53.to (p1_sub rfl))
            have F_58 := hL52_.trans (fu_53.to (p1_sub rfl))
            have cr_59 : CR G u_53 := hCR52.fr fu_53 rfl rfl rfl rfl
            exact sZret Cx hr hlk hW hL (by omega) ⟨iu_53, F_56, ⟨cr_59, (by omega)⟩⟩ dX1_holdTrees_67
        refine lv_iload_n hx hb dX1_holdTrees_33 rfl (lv_at hl 1 rfl) ?_
        refine lv_bipush (v := iv 12) hx hb dX1_holdTrees_34 (by decide) ?_
        refine r_icmp_ne (tgt := 46) hx hb ⟨(by omega), (by omega)⟩ ⟨(by omega), (by omega)⟩ dX1_holdTrees_36 (by decide) (fun c_60 => ?_) (fun c_60 => ?_)
        · refine lv_aload_n hx hb dX1_holdTrees_46 rfl (lv_at hl 3 rfl) ?_
          refine lv_iload_n hx hb dX1_holdTrees_47 rfl (lv_at hl 1 rfl) ?_
          refine lv_iload_n hx hb dX1_holdTrees_48 rfl (lv_at hl 4 rfl) ?_
          have q_61 : 0 ≤ u_21.1 189 3 ∧ u_21.1 189 3 ≤ 1000000000 := iu_21.fi 189 3 4 (by decide) rfl
          refine sBi (sV (As := [.int (iv r_17), .int (iv hv)]) (rest := []) (k := 188) Cx (s_X1_pairTree l G u_21 (wd := r_17) (hv := hv) iu_21 (by omega) (by omega) cr_25 (by omega)) (c_X1_196 Cx rfl rfl (rmk_ok (by omega) (by decide))) hW (by decide) rfl rfl rfl hl.1 rfl (Nat.le_of_ble_eq_true rfl) dX1_holdTrees_49 ⟨Nat.le_of_ble_eq_true rfl, Nat.le_of_ble_eq_true rfl⟩) hL (fun r_64 u_62 H locs k_63 hW hL => ?_)
          obtain ⟨iu_62, fu_62, xu_62⟩ := k_63
          have F_65 := F_23.trans fu_62
          have F_66 := F_24.trans fu_62
          have F_67 := (Fr.rf : Fr u_21 u_21 pE).trans fu_62
          have cr_68 : CR G u_62 := xu_62.1
          have q_69 : 0 ≤ u_62.1 189 3 ∧ u_62.1 189 3 ≤ 1000000000 := iu_62.fi 189 3 4 (by decide) rfl
          exact join_52 u_62 r_64 _ _ _ iu_62 F_65 F_66 F_67 (by omega) (by omega) cr_68 hW hL (lv_sub hl [0, 1, 2, 3, 4] rfl)
        · refine lv_aload_n hx hb dX1_holdTrees_39 rfl (lv_at hl 3 rfl) ?_
          have q_70 : 0 ≤ u_21.1 189 3 ∧ u_21.1 189 3 ≤ 1000000000 := iu_21.fi 189 3 4 (by decide) rfl
          refine sBi (sV (As := []) (rest := []) (k := 188) Cx (s_X1_branch l G u_21  iu_21 cr_25 (by omega)) (c_X1_193 Cx rfl rfl (rmk_ok (by omega) (by decide))) hW (by decide) rfl rfl rfl hl.1 rfl (Nat.le_of_ble_eq_true rfl) dX1_holdTrees_40 ⟨Nat.le_of_ble_eq_true rfl, Nat.le_of_ble_eq_true rfl⟩) hL (fun r_73 u_71 H locs k_72 hW hL => ?_)
          obtain ⟨iu_71, fu_71, xu_71⟩ := k_72
          have F_74 := F_23.trans fu_71
          have F_75 := F_24.trans fu_71
          have F_76 := (Fr.rf : Fr u_21 u_21 pE).trans fu_71
          have cr_77 : CR G u_71 := xu_71.1
          refine lv_goto (tgt := 52) hx hb dX1_holdTrees_43 (by decide) ?_
          have q_78 : 0 ≤ u_71.1 189 3 ∧ u_71.1 189 3 ≤ 1000000000 := iu_71.fi 189 3 4 (by decide) rfl
          exact join_52 u_71 r_73 _ _ _ iu_71 F_74 F_75 F_76 (by omega) (by omega) cr_77 hW hL (lv_sub hl [0, 1, 2, 3, 4] rfl)
  have q_79 : 0 ≤ S.1 189 3 ∧ S.1 189 3 ≤ 1000000000 := hI.fi 189 3 4 (by decide) rfl
  exact loop_2 (_ + 1) S 1 _ _ _ (Nat.lt_succ_self _) hI (Fr.rf : Fr S S pE) Fr.rf (by omega) (by omega) hCR hW hL (lv_sub hl [0, 1, 2] rfl)

set_option maxRecDepth 100000 in
set_option maxHeartbeats 4000000 in
theorem s_X1_holdOptimal (l : Launch) (G : sG) (S : sS)  (hI : cX G S 0 0 0) (hCR : CR G S) (hat : S.1 189 3 ≤ 100) : Met l yX1_holdOptimal (.code yX1_holdOptimal cX1_holdOptimal 3 (some .boolean) :: tb) (rmk 6 0 0) (sPc G 294 S [.ref (G.2.2.1 + 188)]) (sQi G 294 (fun r u => cX G u 0 0 0 ∧ Fr S u pE ∧ (CR G u ∧ u.1 189 3 ≤ S.1 189 3 + 40 ∧ 0 ≤ r ∧ r ≤ 1))) 0 0 (sF G) := by
  refine sEnter (by decide) (Nat.le_of_ble_eq_true rfl) ?_
  intro p e s m args below meth c Cx hr hlk hnm hW ls hl
  have Cx : sC G p m c cX1_holdOptimal 3 s args RX1 := Cx
  obtain ⟨hx, hb, hml, hown, hts⟩ := id Cx.1
  have hL : sL G [] := sL_nil
  have hl : lv_has ls 3 [(0, .ref (G.2.2.1 + 188))] := hl
  have hW0 := hW
  have hat0 : 0 ≤ S.1 189 3 ∧ S.1 189 3 ≤ 1000000000 := hI.fi 189 3 4 (by decide) rfl
  refine lv_aload_n hx hb dX1_holdOptimal_0 rfl (lv_at hl 0 rfl) ?_
  refine g_X1_12 Cx hW (k := 188) (by decide) rfl (v := .ref (G.2.2.1 + 189)) (rf_188_0 hI) dX1_holdOptimal_1 ?_
  have q_1 : 0 ≤ S.1 189 3 ∧ S.1 189 3 ≤ 1000000000 := hI.fi 189 3 4 (by decide) rfl
  have q_2 : 0 ≤ S.1 189 2 ∧ S.1 189 2 ≤ 30001 := hI.fi 189 2 4 (by decide) rfl
  refine sBi (sV (As := []) (rest := []) (k := 189) Cx (s_X4_start l G S  hI) (c_X1_91 Cx rfl rfl (rmk_ok (by omega) (by decide))) hW (by decide) rfl rfl rfl hl.1 rfl (Nat.le_of_ble_eq_true rfl) dX1_holdOptimal_4 ⟨Nat.le_of_ble_eq_true rfl, Nat.le_of_ble_eq_true rfl⟩) hL (fun r_5 u_3 H locs k_4 hW hL => ?_)
  obtain ⟨eu_3, xu_3⟩ := k_4
  rw [eu_3] at hW
  refine lv_istore_n (lv' := [(1, .int (iv r_5)), (0, .ref (G.2.2.1 + 188))]) hx hb dX1_holdOptimal_7 rfl hl (by decide) rfl (fun ls hl => ?_)
  refine lv_aload_n hx hb dX1_holdOptimal_8 rfl (lv_at hl 1 rfl) ?_
  refine g_X1_12 Cx hW (k := 188) (by decide) rfl (v := .ref (G.2.2.1 + 189)) (rf_188_0 hI) dX1_holdOptimal_9 ?_
  refine sBv (sV (As := []) (rest := []) (k := 189) Cx (s_X4_advance l G S  hI (by omega)) (c_X1_119 Cx rfl rfl (rmk_ok (by omega) (by decide))) hW (by decide) rfl rfl rfl hl.1 rfl (Nat.le_of_ble_eq_true rfl) dX1_holdOptimal_12 ⟨Nat.le_of_ble_eq_true rfl, Nat.le_of_ble_eq_true rfl⟩) hL (fun u_6 H locs k_7 hW hL => ?_)
  obtain ⟨iu_6, fu_6, xu_6⟩ := k_7
  have F_8 := (Fr.rf : Fr S S pE).trans (fu_6.to (fun k h => pRd_E k (p189_Rd k h)))
  have at_u_6 : u_6.1 189 3 = S.1 189 3 + 1 := by rw [xu_6]; exact uF_on
  have cr_9 : CR G u_6 := by rw [xu_6]; exact hCR.F (by decide)
  refine lv_aload_n hx hb dX1_holdOptimal_15 rfl (lv_at hl 1 rfl) ?_
  refine g_X1_12 Cx hW (k := 188) (by decide) rfl (v := .ref (G.2.2.1 + 189)) (rf_188_0 iu_6) dX1_holdOptimal_16 ?_
  refine lv_aload_n hx hb dX1_holdOptimal_19 rfl (lv_at hl 1 rfl) ?_
  refine g_X1_32 Cx hW (k := 188) (by decide) rfl (v := .ref (G.2.2.1 + 209)) (rf_188_3 iu_6) dX1_holdOptimal_20 ?_
  have q_10 : 0 ≤ u_6.1 189 3 ∧ u_6.1 189 3 ≤ 1000000000 := iu_6.fi 189 3 4 (by decide) rfl
  refine sBv (sV (As := [.ref (G.2.2.1 + 209)]) (rest := []) (k := 189) Cx (s_X4_takeNumber_209 l G u_6  iu_6 cr_9 (by omega)) (c_X1_126 Cx rfl rfl (rmk_ok (by omega) (by decide))) hW (by decide) rfl rfl rfl hl.1 rfl (Nat.le_of_ble_eq_true rfl) dX1_holdOptimal_23 ⟨Nat.le_of_ble_eq_true rfl, Nat.le_of_ble_eq_true rfl⟩) hL (fun u_11 H locs k_12 hW hL => ?_)
  obtain ⟨iu_11, fu_11, xu_11⟩ := k_12
  have F_13 := F_8.trans (fu_11.to (pRg_sub rfl rfl rfl))
  have cr_14 : CR G u_11 := xu_11.1
  refine lv_aload_n hx hb dX1_holdOptimal_26 rfl (lv_at hl 1 rfl) ?_
  refine g_X1_12 Cx hW (k := 188) (by decide) rfl (v := .ref (G.2.2.1 + 189)) (rf_188_0 iu_11) dX1_holdOptimal_27 ?_
  have q_15 : 0 ≤ u_11.1 189 3 ∧ u_11.1 189 3 ≤ 1000000000 := iu_11.fi 189 3 4 (by decide) rfl
  refine sBv (sV (As := []) (rest := []) (k := 189) Cx (s_X4_advance l G u_11  iu_11 (by omega)) (c_X1_119 Cx rfl rfl (rmk_ok (by omega) (by decide))) hW (by decide) rfl rfl rfl hl.1 rfl (Nat.le_of_ble_eq_true rfl) dX1_holdOptimal_30 ⟨Nat.le_of_ble_eq_true rfl, Nat.le_of_ble_eq_true rfl⟩) hL (fun u_16 H locs k_17 hW hL => ?_)
  obtain ⟨iu_16, fu_16, xu_16⟩ := k_17
  have F_18 := F_13.trans (fu_16.to (fun k h => pRd_E k (p189_Rd k h)))
  have at_u_16 : u_16.1 189 3 = u_11.1 189 3 + 1 := by rw [xu_16]; exact uF_on
  have cr_19 : CR G u_16 := by rw [xu_16]; exact cr_14.F (by decide)
  refine lv_aload_n hx hb dX1_holdOptimal_33 rfl (lv_at hl 1 rfl) ?_
  refine g_X1_12 Cx hW (k := 188) (by decide) rfl (v := .ref (G.2.2.1 + 189)) (rf_188_0 iu_16) dX1_holdOptimal_34 ?_
  refine lv_aload_n hx hb dX1_holdOptimal_37 rfl (lv_at hl 1 rfl) ?_
  refine g_X1_36 Cx hW (k := 188) (by decide) rfl (v := .ref (G.2.2.1 + 211)) (rf_188_4 iu_16) dX1_holdOptimal_38 ?_
  have q_20 : 0 ≤ u_16.1 189 3 ∧ u_16.1 189 3 ≤ 1000000000 := iu_16.fi 189 3 4 (by decide) rfl
  refine sBv (sV (As := [.ref (G.2.2.1 + 211)]) (rest := []) (k := 189) Cx (s_X4_takeNumber_211 l G u_16  iu_16 cr_19 (by omega)) (c_X1_126 Cx rfl rfl (rmk_ok (by omega) (by decide))) hW (by decide) rfl rfl rfl hl.1 rfl (Nat.le_of_ble_eq_true rfl) dX1_holdOptimal_41 ⟨Nat.le_of_ble_eq_true rfl, Nat.le_of_ble_eq_true rfl⟩) hL (fun u_21 H locs k_22 hW hL => ?_)
  obtain ⟨iu_21, fu_21, xu_21⟩ := k_22
  have F_23 := F_18.trans (fu_21.to (pRg_sub rfl rfl rfl))
  have cr_24 : CR G u_21 := xu_21.1
  have join_61 : ∀ (S61 : sS)  (H : Heap) (locs : List Loc) (ls : Array Slot), (cX G S61 0 0 0) → (Fr S S61 pE) → (Fr u_21 S61 pE) → (S61.1 189 3 ≤ S.1 189 3 + 4) → (CR G S61) → sW G 294 S61 H → sL G locs → lv_has ls 3 [(1, .int (iv r_5)), (0, .ref (G.2.2.1 + 188))] → W p l e (rmk 6 0 0) s m args below meth c H locs 0 0 (MQ below (sQi G 294 (fun r u => cX G u 0 0 0 ∧ Fr S u pE ∧ (CR G u ∧ u.1 189 3 ≤ S.1 189 3 + 40 ∧ 0 ≤ r ∧ r ≤ 1))) args s 0 0 (sF G)) (F0 m 61 ls []) := by
    intro S61  H locs ls hI61 hFm61 hL61_ ha61 hCR61 hW hL hl
    refine lv_aload_n hx hb dX1_holdOptimal_61 rfl (lv_at hl 1 rfl) ?_
    refine g_X1_12 Cx hW (k := 188) (by decide) rfl (v := .ref (G.2.2.1 + 189)) (rf_188_0 hI61) dX1_holdOptimal_62 ?_
    have q_25 : 0 ≤ S61.1 189 3 ∧ S61.1 189 3 ≤ 1000000000 := hI61.fi 189 3 4 (by decide) rfl
    have q_26 : 0 ≤ S61.1 189 2 ∧ S61.1 189 2 ≤ 30001 := hI61.fi 189 2 4 (by decide) rfl
    refine sBi (sV (As := []) (rest := []) (k := 189) Cx (s_X4_start l G S61  hI61) (c_X1_91 Cx rfl rfl (rmk_ok (by omega) (by decide))) hW (by decide) rfl rfl rfl hl.1 rfl (Nat.le_of_ble_eq_true rfl) dX1_holdOptimal_65 ⟨Nat.le_of_ble_eq_true rfl, Nat.le_of_ble_eq_true rfl⟩) hL (fun r_29 u_27 H locs k_28 hW hL => ?_)
    obtain ⟨eu_27, xu_27⟩ := k_28
    rw [eu_27] at hW
    refine lv_istore_n (lv' := [(2, .int (iv r_29)), (1, .int (iv r_5)), (0, .ref (G.2.2.1 + 188))]) hx hb dX1_holdOptimal_68 rfl hl (by decide) rfl (fun ls hl => ?_)
    refine lv_aload_n hx hb dX1_holdOptimal_69 rfl (lv_at hl 2 rfl) ?_
    refine sBv (sV (As := []) (rest := []) (k := 188) Cx (s_X1_takePoint l G S61  hI61 hCR61 (by omega)) (c_X1_137 Cx rfl rfl (rmk_ok (by omega) (by decide))) hW (by decide) rfl rfl rfl hl.1 rfl (Nat.le_of_ble_eq_true rfl) dX1_holdOptimal_70 ⟨Nat.le_of_ble_eq_true rfl, Nat.le_of_ble_eq_true rfl⟩) hL (fun u_30 H locs k_31 hW hL => ?_)
    obtain ⟨iu_30, fu_30, xu_30⟩ := k_31
    have F_32 := hFm61.trans (fu_30.to pTp_E)
    have F_33 := hL61_.trans (fu_30.to pTp_E)
    have cr_34 : CR G u_30 := xu_30.1
    refine lv_aload_n hx hb dX1_holdOptimal_73 rfl (lv_at hl 2 rfl) ?_
    refine sBi (sV (As := []) (rest := []) (k := 188) Cx (s_X1_isValue l G u_30  iu_30) (c_X1_140 Cx rfl rfl (rmk_ok (by omega) (by decide))) hW (by decide) rfl rfl rfl hl.1 rfl (Nat.le_of_ble_eq_true rfl) dX1_holdOptimal_74 ⟨Nat.le_of_ble_eq_true rfl, Nat.le_of_ble_eq_true rfl⟩) hL (fun r_37 u_35 H locs k_36 hW hL => ?_)
    obtain ⟨iu_35, fu_35, xu_35⟩ := k_36
    have F_38 := F_32.trans (fu_35.to (fun k h => pW_E k ((fun k h => pN_W k ((fun k h => pS12_N k (pS8_12 k h)) k h)) k h)))
    have F_39 := F_33.trans (fu_35.to (fun k h => pW_E k ((fun k h => pN_W k ((fun k h => pS12_N k (pS8_12 k h)) k h)) k h)))
    have cr_40 : CR G u_35 := cr_34.fr fu_35 rfl rfl rfl rfl
    refine r_if_ne (tgt := 87) hx hb ⟨(by omega), (by omega)⟩ dX1_holdOptimal_77 (by decide) (fun c_41 => ?_) (fun c_41 => ?_)
    · refine lv_aload_n hx hb dX1_holdOptimal_87 rfl (lv_at hl 2 rfl) ?_
      refine lv_iconst (v := iv 1) hx hb dX1_holdOptimal_88 (by decide) ?_
      refine sBi (sV (As := [.int (iv 1)]) (rest := []) (k := 188) Cx (s_X1_isPoint l G u_35 (mw := 1) iu_35 (by omega)) (c_X1_143 Cx rfl rfl (rmk_ok (by omega) (by decide))) hW (by decide) rfl rfl rfl hl.1 rfl (Nat.le_of_ble_eq_true rfl) dX1_holdOptimal_89 ⟨Nat.le_of_ble_eq_true rfl, Nat.le_of_ble_eq_true rfl⟩) hL (fun r_44 u_42 H locs k_43 hW hL => ?_)
      obtain ⟨iu_42, fu_42, xu_42⟩ := k_43
      have F_45 := F_38.trans (fu_42.to (fun k h => pW_E k ((fun k h => pN_W k (pS12_N k h)) k h)))
      have F_46 := F_39.trans (fu_42.to (fun k h => pW_E k ((fun k h => pN_W k (pS12_N k h)) k h)))
      have cr_47 : CR G u_42 := cr_40.fr fu_42 rfl rfl rfl rfl
      refine r_if_ne (tgt := 104) hx hb ⟨(by omega), (by omega)⟩ dX1_holdOptimal_92 (by decide) (fun c_48 => ?_) (fun c_48 => ?_)
      · refine lv_iconst (v := iv 1) hx hb dX1_holdOptimal_104 (by decide) ?_
        refine lv_goto (tgt := 109) hx hb dX1_holdOptimal_105 (by decide) ?_
        have q_49 : 0 ≤ u_30.1 189 3 ∧ u_30.1 189 3 ≤ 1000000000 := iu_30.fi 189 3 4 (by decide) rfl
        have lk_50 : u_42.1 189 3 = u_30.1 189 3 := ((fu_42 189 rfl).1 3).trans ((fu_35 189 rfl).1 3)
        exact sZret Cx hr hlk hW hL (by omega) ⟨iu_42, F_45, ⟨cr_47, (by omega), (by omega)⟩⟩ dX1_holdOptimal_109
      · refine lv_aload_n hx hb dX1_holdOptimal_95 rfl (lv_at hl 2 rfl) ?_
        refine lv_iconst (v := iv 2) hx hb dX1_holdOptimal_96 (by decide) ?_
        refine lv_iload_n hx hb dX1_holdOptimal_97 rfl (lv_at hl 0 rfl) ?_
        refine sBi (sV (As := [.int (iv 2), .int (iv r_29)]) (rest := []) (k := 188) Cx (s_X1_fail l G u_42 (kn := 2) (wh := r_29) iu_42 (by omega) (by omega)) (c_X1_95 Cx rfl rfl (rmk_ok (by omega) (by decide))) hW (by decide) rfl rfl rfl hl.1 rfl (Nat.le_of_ble_eq_true rfl) dX1_holdOptimal_98 ⟨Nat.le_of_ble_eq_true rfl, Nat.le_of_ble_eq_true rfl⟩) hL (fun r_53 u_51 H locs k_52 hW hL => ?_)
        obtain ⟨iu_51, fu_51, xu_51⟩ := k_52
        have F_54 := F_45.trans (fu_51.to (p1_sub rfl))
        have F_55 := F_46.trans (fu_51.to (p1_sub rfl))
        have cr_56 : CR G u_51 := cr_47.fr fu_51 rfl rfl rfl rfl
        refine r_if_eq (tgt := 108) hx hb ⟨(by omega), (by omega)⟩ dX1_holdOptimal_101 (by decide) (fun c_57 => ?_) (fun c_57 => ?_)
        · refine lv_iconst (v := iv 0) hx hb dX1_holdOptimal_108 (by decide) ?_
          have q_58 : 0 ≤ u_30.1 189 3 ∧ u_30.1 189 3 ≤ 1000000000 := iu_30.fi 189 3 4 (by decide) rfl
          have lk_59 : u_51.1 189 3 = u_30.1 189 3 := ((fu_51 189 rfl).1 3).trans (((fu_42 189 rfl).1 3).trans ((fu_35 189 rfl).1 3))
          exact sZret Cx hr hlk hW hL (by omega) ⟨iu_51, F_54, ⟨cr_56, (by omega), (by omega)⟩⟩ dX1_holdOptimal_109
        · refine lv_iconst (v := iv 1) hx hb dX1_holdOptimal_104 (by decide) ?_
          refine lv_goto (tgt := 109) hx hb dX1_holdOptimal_105 (by decide) ?_
          have q_60 : 0 ≤ u_30.1 189 3 ∧ u_30.1 189 3 ≤ 1000000000 := iu_30.fi 189 3 4 (by decide) rfl
          have lk_61 : u_51.1 189 3 = u_30.1 189 3 := ((fu_51 189 rfl).1 3).trans (((fu_42 189 rfl).1 3).trans ((fu_35 189 rfl).1 3))
          exact sZret Cx hr hlk hW hL (by omega) ⟨iu_51, F_54, ⟨cr_56, (by omega), (by omega)⟩⟩ dX1_holdOptimal_109
    · refine lv_aload_n hx hb dX1_holdOptimal_80 rfl (lv_at hl 2 rfl) ?_
      refine lv_iconst (v := iv 3) hx hb dX1_holdOptimal_81 (by decide) ?_
      refine lv_iload_n hx hb dX1_holdOptimal_82 rfl (lv_at hl 1 rfl) ?_
      refine sBi (sV (As := [.int (iv 3), .int (iv r_5)]) (rest := []) (k := 188) Cx (s_X1_fail l G u_35 (kn := 3) (wh := r_5) iu_35 (by omega) (by omega)) (c_X1_95 Cx rfl rfl (rmk_ok (by omega) (by decide))) hW (by decide) rfl rfl rfl hl.1 rfl (Nat.le_of_ble_eq_true rfl) dX1_holdOptimal_83 ⟨Nat.le_of_ble_eq_true rfl, Nat.le_of_ble_eq_true rfl⟩) hL (fun r_64 u_62 H locs k_63 hW hL => ?_)
      obtain ⟨iu_62, fu_62, xu_62⟩ := k_63
      have F_65 := F_38.trans (fu_62.to (p1_sub rfl))
      have F_66 := F_39.trans (fu_62.to (p1_sub rfl))
      have cr_67 : CR G u_62 := cr_40.fr fu_62 rfl rfl rfl rfl
      have q_68 : 0 ≤ u_30.1 189 3 ∧ u_30.1 189 3 ≤ 1000000000 := iu_30.fi 189 3 4 (by decide) rfl
      have lk_69 : u_62.1 189 3 = u_30.1 189 3 := ((fu_62 189 rfl).1 3).trans ((fu_35 189 rfl).1 3)
      exact sZret Cx hr hlk hW hL (by omega) ⟨iu_62, F_65, ⟨cr_67, (by omega), (by omega)⟩⟩ dX1_holdOptimal_86
  refine lv_aload_n hx hb dX1_holdOptimal_44 rfl (lv_at hl 1 rfl) ?_
  obtain ⟨o_70, mo_70, eo_70⟩ := hI.rm.2.2.2.1
  refine g_X1_69 Cx hW (k := 188) (by decide) rfl (v := .ref (G.2.2.1 + o_70)) ((((fu_21 188 rfl).2.2.2 15).trans (((fu_16 188 rfl).2.2.2 15).trans (((fu_11 188 rfl).2.2.2 15).trans ((fu_6 188 rfl).2.2.2 15)))).trans eo_70) dX1_holdOptimal_45 ?_
  have q_71 : 0 ≤ u_21.1 o_70 4 ∧ u_21.1 o_70 4 ≤ 1 := iu_21.fi o_70 4 3 (mdl_k mo_70) mo_70.1
  refine g_X1_130 Cx hW (k := o_70) (mdl_l mo_70) mo_70.1 (v := u_21.1 o_70 4) rfl dX1_holdOptimal_48 ?_
  refine r_if_ne (tgt := 61) hx hb ⟨(by omega), (by omega)⟩ dX1_holdOptimal_51 (by decide) (fun c_72 => ?_) (fun c_72 => ?_)
  · have q_73 : 0 ≤ u_21.1 189 3 ∧ u_21.1 189 3 ≤ 1000000000 := iu_21.fi 189 3 4 (by decide) rfl
    exact join_61 u_21  _ _ _ iu_21 F_23 (Fr.rf : Fr u_21 u_21 pE) (by omega) cr_24 hW hL (lv_sub hl [0, 1] rfl)
  · refine lv_aload_n hx hb dX1_holdOptimal_54 rfl (lv_at hl 1 rfl) ?_
    refine g_X1_32 Cx hW (k := 188) (by decide) rfl (v := .ref (G.2.2.1 + 209)) (rf_188_3 iu_21) dX1_holdOptimal_55 ?_
    have q_74 : 0 ≤ u_11.1 209 1 ∧ u_11.1 209 1 ≤ 32 := iu_11.fi 209 1 0 (by decide) rfl
    have lk_75 : u_21.1 209 1 = u_11.1 209 1 := ((fu_21 209 rfl).1 1).trans ((fu_16 209 rfl).1 1)
    have q_76 : (-1) ≤ u_11.1 209 2 ∧ u_11.1 209 2 ≤ 1 := iu_11.fi 209 2 0 (by decide) rfl
    have lk_77 : u_21.1 209 2 = u_11.1 209 2 := ((fu_21 209 rfl).1 2).trans ((fu_16 209 rfl).1 2)
    refine sBv (sV (As := []) (rest := []) (k := 209) Cx (s_X0_turn l G u_21 (o := 209) iu_21 rfl) (c_X1_134 Cx rfl rfl (rmk_ok (by omega) (by decide))) hW (by decide) rfl rfl rfl hl.1 rfl (Nat.le_of_ble_eq_true rfl) dX1_holdOptimal_58 ⟨Nat.le_of_ble_eq_true rfl, Nat.le_of_ble_eq_true rfl⟩) hL (fun u_78 H locs k_79 hW hL => ?_)
    obtain ⟨iu_78, fu_78, xu_78⟩ := k_79
    have F_80 := F_23.trans (fu_78.to (pB_sub rfl rfl))
    have F_81 := (Fr.rf : Fr u_21 u_21 pE).trans (fu_78.to (pB_sub rfl rfl))
    have cr_82 : CR G u_78 := cr_24.fr fu_78 rfl rfl rfl rfl
    have q_83 : 0 ≤ u_21.1 189 3 ∧ u_21.1 189 3 ≤ 1000000000 := iu_21.fi 189 3 4 (by decide) rfl
    have lk_84 : u_78.1 189 3 = u_21.1 189 3 := (fu_78 189 rfl).1 3
    exact join_61 u_78  _ _ _ iu_78 F_80 F_81 (by omega) cr_82 hW hL (lv_sub hl [0, 1] rfl)

set_option maxRecDepth 100000 in
set_option maxHeartbeats 4000000 in
theorem s_X1_holdUnbounded (l : Launch) (G : sG) (S : sS)  (hI : cX G S 0 0 0) (hCR : CR G S) (hat : S.1 189 3 ≤ 100) : Met l yX1_holdUnbounded (.code yX1_holdUnbounded cX1_holdUnbounded 3 (some .boolean) :: tb) (rmk 6 0 0) (sPc G 294 S [.ref (G.2.2.1 + 188)]) (sQi G 294 (fun r u => cX G u 0 0 0 ∧ Fr S u pE ∧ (CR G u ∧ u.1 189 3 ≤ S.1 189 3 + 40 ∧ 0 ≤ r ∧ r ≤ 1))) 0 0 (sF G) := by
  refine sEnter (by decide) (Nat.le_of_ble_eq_true rfl) ?_
  intro p e s m args below meth c Cx hr hlk hnm hW ls hl
  have Cx : sC G p m c cX1_holdUnbounded 3 s args RX1 := Cx
  obtain ⟨hx, hb, hml, hown, hts⟩ := id Cx.1
  have hL : sL G [] := sL_nil
  have hl : lv_has ls 3 [(0, .ref (G.2.2.1 + 188))] := hl
  have hW0 := hW
  have hat0 : 0 ≤ S.1 189 3 ∧ S.1 189 3 ≤ 1000000000 := hI.fi 189 3 4 (by decide) rfl
  refine lv_aload_n hx hb dX1_holdUnbounded_0 rfl (lv_at hl 0 rfl) ?_
  refine g_X1_12 Cx hW (k := 188) (by decide) rfl (v := .ref (G.2.2.1 + 189)) (rf_188_0 hI) dX1_holdUnbounded_1 ?_
  have q_1 : 0 ≤ S.1 189 3 ∧ S.1 189 3 ≤ 1000000000 := hI.fi 189 3 4 (by decide) rfl
  refine sBv (sV (As := []) (rest := []) (k := 189) Cx (s_X4_advance l G S  hI (by omega)) (c_X1_119 Cx rfl rfl (rmk_ok (by omega) (by decide))) hW (by decide) rfl rfl rfl hl.1 rfl (Nat.le_of_ble_eq_true rfl) dX1_holdUnbounded_4 ⟨Nat.le_of_ble_eq_true rfl, Nat.le_of_ble_eq_true rfl⟩) hL (fun u_2 H locs k_3 hW hL => ?_)
  obtain ⟨iu_2, fu_2, xu_2⟩ := k_3
  have F_4 := (Fr.rf : Fr S S pE).trans (fu_2.to (fun k h => pRd_E k (p189_Rd k h)))
  have at_u_2 : u_2.1 189 3 = S.1 189 3 + 1 := by rw [xu_2]; exact uF_on
  have cr_5 : CR G u_2 := by rw [xu_2]; exact hCR.F (by decide)
  refine lv_aload_n hx hb dX1_holdUnbounded_7 rfl (lv_at hl 0 rfl) ?_
  refine g_X1_12 Cx hW (k := 188) (by decide) rfl (v := .ref (G.2.2.1 + 189)) (rf_188_0 iu_2) dX1_holdUnbounded_8 ?_
  have q_6 : 0 ≤ u_2.1 189 3 ∧ u_2.1 189 3 ≤ 1000000000 := iu_2.fi 189 3 4 (by decide) rfl
  have q_7 : 0 ≤ u_2.1 189 2 ∧ u_2.1 189 2 ≤ 30001 := iu_2.fi 189 2 4 (by decide) rfl
  refine sBi (sV (As := []) (rest := []) (k := 189) Cx (s_X4_start l G u_2  iu_2) (c_X1_91 Cx rfl rfl (rmk_ok (by omega) (by decide))) hW (by decide) rfl rfl rfl hl.1 rfl (Nat.le_of_ble_eq_true rfl) dX1_holdUnbounded_11 ⟨Nat.le_of_ble_eq_true rfl, Nat.le_of_ble_eq_true rfl⟩) hL (fun r_10 u_8 H locs k_9 hW hL => ?_)
  obtain ⟨eu_8, xu_8⟩ := k_9
  rw [eu_8] at hW
  refine lv_istore_n (lv' := [(1, .int (iv r_10)), (0, .ref (G.2.2.1 + 188))]) hx hb dX1_holdUnbounded_14 rfl hl (by decide) rfl (fun ls hl => ?_)
  refine lv_aload_n hx hb dX1_holdUnbounded_15 rfl (lv_at hl 1 rfl) ?_
  refine sBv (sV (As := []) (rest := []) (k := 188) Cx (s_X1_takePoint l G u_2  iu_2 cr_5 (by omega)) (c_X1_137 Cx rfl rfl (rmk_ok (by omega) (by decide))) hW (by decide) rfl rfl rfl hl.1 rfl (Nat.le_of_ble_eq_true rfl) dX1_holdUnbounded_16 ⟨Nat.le_of_ble_eq_true rfl, Nat.le_of_ble_eq_true rfl⟩) hL (fun u_11 H locs k_12 hW hL => ?_)
  obtain ⟨iu_11, fu_11, xu_11⟩ := k_12
  have F_13 := F_4.trans (fu_11.to pTp_E)
  have cr_14 : CR G u_11 := xu_11.1
  refine lv_aload_n hx hb dX1_holdUnbounded_19 rfl (lv_at hl 1 rfl) ?_
  refine lv_iconst (v := iv 0) hx hb dX1_holdUnbounded_20 (by decide) ?_
  refine sBi (sV (As := [.int (iv 0)]) (rest := []) (k := 188) Cx (s_X1_isPoint l G u_11 (mw := 0) iu_11 (by omega)) (c_X1_143 Cx rfl rfl (rmk_ok (by omega) (by decide))) hW (by decide) rfl rfl rfl hl.1 rfl (Nat.le_of_ble_eq_true rfl) dX1_holdUnbounded_21 ⟨Nat.le_of_ble_eq_true rfl, Nat.le_of_ble_eq_true rfl⟩) hL (fun r_17 u_15 H locs k_16 hW hL => ?_)
  obtain ⟨iu_15, fu_15, xu_15⟩ := k_16
  have F_18 := F_13.trans (fu_15.to (fun k h => pW_E k ((fun k h => pN_W k (pS12_N k h)) k h)))
  have cr_19 : CR G u_15 := cr_14.fr fu_15 rfl rfl rfl rfl
  refine r_if_ne (tgt := 34) hx hb ⟨(by omega), (by omega)⟩ dX1_holdUnbounded_24 (by decide) (fun c_20 => ?_) (fun c_20 => ?_)
  · refine lv_aload_n hx hb dX1_holdUnbounded_34 rfl (lv_at hl 1 rfl) ?_
    refine g_X1_12 Cx hW (k := 188) (by decide) rfl (v := .ref (G.2.2.1 + 189)) (rf_188_0 iu_15) dX1_holdUnbounded_35 ?_
    have q_21 : 0 ≤ u_11.1 189 3 ∧ u_11.1 189 3 ≤ 1000000000 := iu_11.fi 189 3 4 (by decide) rfl
    have lk_22 : u_15.1 189 3 = u_11.1 189 3 := (fu_15 189 rfl).1 3
    have q_23 : 0 ≤ u_11.1 189 2 ∧ u_11.1 189 2 ≤ 30001 := iu_11.fi 189 2 4 (by decide) rfl
    have lk_24 : u_15.1 189 2 = u_11.1 189 2 := (fu_15 189 rfl).1 2
    refine sBi (sV (As := []) (rest := []) (k := 189) Cx (s_X4_start l G u_15  iu_15) (c_X1_91 Cx rfl rfl (rmk_ok (by omega) (by decide))) hW (by decide) rfl rfl rfl hl.1 rfl (Nat.le_of_ble_eq_true rfl) dX1_holdUnbounded_38 ⟨Nat.le_of_ble_eq_true rfl, Nat.le_of_ble_eq_true rfl⟩) hL (fun r_27 u_25 H locs k_26 hW hL => ?_)
    obtain ⟨eu_25, xu_25⟩ := k_26
    rw [eu_25] at hW
    refine lv_istore_n (lv' := [(2, .int (iv r_27)), (1, .int (iv r_10)), (0, .ref (G.2.2.1 + 188))]) hx hb dX1_holdUnbounded_41 rfl hl (by decide) rfl (fun ls hl => ?_)
    refine lv_aload_n hx hb dX1_holdUnbounded_42 rfl (lv_at hl 2 rfl) ?_
    refine sBv (sV (As := []) (rest := []) (k := 188) Cx (s_X1_takePoint l G u_15  iu_15 cr_19 (by omega)) (c_X1_137 Cx rfl rfl (rmk_ok (by omega) (by decide))) hW (by decide) rfl rfl rfl hl.1 rfl (Nat.le_of_ble_eq_true rfl) dX1_holdUnbounded_43 ⟨Nat.le_of_ble_eq_true rfl, Nat.le_of_ble_eq_true rfl⟩) hL (fun u_28 H locs k_29 hW hL => ?_)
    obtain ⟨iu_28, fu_28, xu_28⟩ := k_29
    have F_30 := F_18.trans (fu_28.to pTp_E)
    have cr_31 : CR G u_28 := xu_28.1
    refine lv_aload_n hx hb dX1_holdUnbounded_46 rfl (lv_at hl 2 rfl) ?_
    refine sBi (sV (As := []) (rest := []) (k := 188) Cx (s_X1_isAlong l G u_28  iu_28) (c_X1_146 Cx rfl rfl (rmk_ok (by omega) (by decide))) hW (by decide) rfl rfl rfl hl.1 rfl (Nat.le_of_ble_eq_true rfl) dX1_holdUnbounded_47 ⟨Nat.le_of_ble_eq_true rfl, Nat.le_of_ble_eq_true rfl⟩) hL (fun r_34 u_32 H locs k_33 hW hL => ?_)
    obtain ⟨iu_32, fu_32, xu_32⟩ := k_33
    have F_35 := F_30.trans (fu_32.to (fun k h => pW_E k ((fun k h => pN_W k ((fun k h => pS12_N k (pS8_12 k h)) k h)) k h)))
    have cr_36 : CR G u_32 := cr_31.fr fu_32 rfl rfl rfl rfl
    refine r_if_ne (tgt := 62) hx hb ⟨(by omega), (by omega)⟩ dX1_holdUnbounded_50 (by decide) (fun c_37 => ?_) (fun c_37 => ?_)
    · refine lv_iconst (v := iv 1) hx hb dX1_holdUnbounded_62 (by decide) ?_
      refine lv_goto (tgt := 67) hx hb dX1_holdUnbounded_63 (by decide) ?_
      have q_38 : 0 ≤ u_28.1 189 3 ∧ u_28.1 189 3 ≤ 1000000000 := iu_28.fi 189 3 4 (by decide) rfl
      have lk_39 : u_32.1 189 3 = u_28.1 189 3 := (fu_32 189 rfl).1 3
      exact sZret Cx hr hlk hW hL (by omega) ⟨iu_32, F_35, ⟨cr_36, (by omega), (by omega)⟩⟩ dX1_holdUnbounded_67
    · refine lv_aload_n hx hb dX1_holdUnbounded_53 rfl (lv_at hl 2 rfl) ?_
      refine lv_iconst (v := iv 5) hx hb dX1_holdUnbounded_54 (by decide) ?_
      refine lv_iload_n hx hb dX1_holdUnbounded_55 rfl (lv_at hl 0 rfl) ?_
      refine sBi (sV (As := [.int (iv 5), .int (iv r_27)]) (rest := []) (k := 188) Cx (s_X1_fail l G u_32 (kn := 5) (wh := r_27) iu_32 (by omega) (by omega)) (c_X1_95 Cx rfl rfl (rmk_ok (by omega) (by decide))) hW (by decide) rfl rfl rfl hl.1 rfl (Nat.le_of_ble_eq_true rfl) dX1_holdUnbounded_56 ⟨Nat.le_of_ble_eq_true rfl, Nat.le_of_ble_eq_true rfl⟩) hL (fun r_42 u_40 H locs k_41 hW hL => ?_)
      obtain ⟨iu_40, fu_40, xu_40⟩ := k_41
      have F_43 := F_35.trans (fu_40.to (p1_sub rfl))
      have cr_44 : CR G u_40 := cr_36.fr fu_40 rfl rfl rfl rfl
      refine r_if_eq (tgt := 66) hx hb ⟨(by omega), (by omega)⟩ dX1_holdUnbounded_59 (by decide) (fun c_45 => ?_) (fun c_45 => ?_)
      · refine lv_iconst (v := iv 0) hx hb dX1_holdUnbounded_66 (by decide) ?_
        have q_46 : 0 ≤ u_28.1 189 3 ∧ u_28.1 189 3 ≤ 1000000000 := iu_28.fi 189 3 4 (by decide) rfl
        have lk_47 : u_40.1 189 3 = u_28.1 189 3 := ((fu_40 189 rfl).1 3).trans ((fu_32 189 rfl).1 3)
        exact sZret Cx hr hlk hW hL (by omega) ⟨iu_40, F_43, ⟨cr_44, (by omega), (by omega)⟩⟩ dX1_holdUnbounded_67
      · refine lv_iconst (v := iv 1) hx hb dX1_holdUnbounded_62 (by decide) ?_
        refine lv_goto (tgt := 67) hx hb dX1_holdUnbounded_63 (by decide) ?_
        have q_48 : 0 ≤ u_28.1 189 3 ∧ u_28.1 189 3 ≤ 1000000000 := iu_28.fi 189 3 4 (by decide) rfl
        have lk_49 : u_40.1 189 3 = u_28.1 189 3 := ((fu_40 189 rfl).1 3).trans ((fu_32 189 rfl).1 3)
        exact sZret Cx hr hlk hW hL (by omega) ⟨iu_40, F_43, ⟨cr_44, (by omega), (by omega)⟩⟩ dX1_holdUnbounded_67
  · refine lv_aload_n hx hb dX1_holdUnbounded_27 rfl (lv_at hl 1 rfl) ?_
    refine lv_iconst (v := iv 2) hx hb dX1_holdUnbounded_28 (by decide) ?_
    refine lv_iload_n hx hb dX1_holdUnbounded_29 rfl (lv_at hl 0 rfl) ?_
    refine sBi (sV (As := [.int (iv 2), .int (iv r_10)]) (rest := []) (k := 188) Cx (s_X1_fail l G u_15 (kn := 2) (wh := r_10) iu_15 (by omega) (by omega)) (c_X1_95 Cx rfl rfl (rmk_ok (by omega) (by decide))) hW (by decide) rfl rfl rfl hl.1 rfl (Nat.le_of_ble_eq_true rfl) dX1_holdUnbounded_30 ⟨Nat.le_of_ble_eq_true rfl, Nat.le_of_ble_eq_true rfl⟩) hL (fun r_52 u_50 H locs k_51 hW hL => ?_)
    obtain ⟨iu_50, fu_50, xu_50⟩ := k_51
    have F_53 := F_18.trans (fu_50.to (p1_sub rfl))
    have cr_54 : CR G u_50 := cr_19.fr fu_50 rfl rfl rfl rfl
    have q_55 : 0 ≤ u_11.1 189 3 ∧ u_11.1 189 3 ≤ 1000000000 := iu_11.fi 189 3 4 (by decide) rfl
    have lk_56 : u_50.1 189 3 = u_11.1 189 3 := ((fu_50 189 rfl).1 3).trans ((fu_15 189 rfl).1 3)
    exact sZret Cx hr hlk hW hL (by omega) ⟨iu_50, F_53, ⟨cr_54, (by omega), (by omega)⟩⟩ dX1_holdUnbounded_33

set_option maxRecDepth 100000 in
set_option maxHeartbeats 4000000 in
theorem s_X1_hold (l : Launch) (G : sG) (S : sS) {o : Nat} (hI : cX G S 0 0 0) (hm : mdl o) : Met l yX1_hold (.code yX1_hold cX1_hold 4 (some .int) :: tb) (rmk 9 0 0) (sPc G 294 S [.ref (G.2.2.1 + 188), .ref (G.2.2.1 + 1), .ref (G.2.2.1 + o)]) (sQi G 294 (fun r u => cX G u 0 0 0 ∧ Fr S u pE ∧ (-2147483648 ≤ r ∧ r ≤ 2147483647))) 0 0 (sF G) := by
  refine sEnter (by decide) (Nat.le_of_ble_eq_true rfl) ?_
  intro p e s m args below meth c Cx hr hlk hnm hW ls hl
  have Cx : sC G p m c cX1_hold 4 s args RX1 := Cx
  obtain ⟨hx, hb, hml, hown, hts⟩ := id Cx.1
  have hL : sL G [] := sL_nil
  have hl : lv_has ls 4 [(0, .ref (G.2.2.1 + 188)), (1, .ref (G.2.2.1 + 1)), (2, .ref (G.2.2.1 + o))] := hl
  have hW0 := hW
  refine lv_aload_n hx hb dX1_hold_0 rfl (lv_at hl 0 rfl) ?_
  refine lv_aload_n hx hb dX1_hold_1 rfl (lv_at hl 2 rfl) ?_
  refine p_X1_69 Cx hW hL (k := 188) (by decide) rfl dX1_hold_2 (fun H locs hW hL => ?_)
  have F_1 : Fr S (uR S 188 15 (.ref (G.2.2.1 + o))) pE := (Fr.rf : Fr S S pE).R rfl
  have i_2 : cX G (uR S 188 15 (.ref (G.2.2.1 + o))) 0 0 0 := hI.mod188 hm
  refine lv_aload_n hx hb dX1_hold_5 rfl (lv_at hl 0 rfl) ?_
  refine lv_iconst (v := iv 0) hx hb dX1_hold_6 (by decide) ?_
  refine p_X1_77 Cx hW hL (k := 188) (by decide) rfl dX1_hold_7 (fun H locs hW hL => ?_)
  have F_3 : Fr S (uF (uR S 188 15 (.ref (G.2.2.1 + o))) 188 16 0) pE := F_1.F rfl
  have i_4 : cX G (uF (uR S 188 15 (.ref (G.2.2.1 + o))) 188 16 0) 0 0 0 := i_2.F rfl rfl (show (-2147483648) ≤ 0 ∧ 0 ≤ 2147483647 from ⟨by omega, by omega⟩)
  refine lv_aload_n hx hb dX1_hold_10 rfl (lv_at hl 0 rfl) ?_
  refine lv_iconst (v := iv (-1)) hx hb dX1_hold_11 (by decide) ?_
  refine p_X1_73 Cx hW hL (k := 188) (by decide) rfl dX1_hold_12 (fun H locs hW hL => ?_)
  have F_5 : Fr S (uF (uF (uR S 188 15 (.ref (G.2.2.1 + o))) 188 16 0) 188 17 ((-1))) pE := F_3.F rfl
  have i_6 : cX G (uF (uF (uR S 188 15 (.ref (G.2.2.1 + o))) 188 16 0) 188 17 ((-1))) 0 0 0 := i_4.F rfl rfl (show (-2147483648) ≤ (-1) ∧ (-1) ≤ 2147483647 from ⟨by omega, by omega⟩)
  refine lv_aload_n hx hb dX1_hold_15 rfl (lv_at hl 0 rfl) ?_
  refine g_X1_12 Cx hW (k := 188) (by decide) rfl (v := .ref (G.2.2.1 + 189)) (rf_188_0 i_6) dX1_hold_16 ?_
  refine lv_aload_n hx hb dX1_hold_19 rfl (lv_at hl 1 rfl) ?_
  refine sBv (sV (As := [.ref (G.2.2.1 + 1)]) (rest := []) (k := 189) Cx (s_X4_open l G (uF (uF (uR S 188 15 (.ref (G.2.2.1 + o))) 188 16 0) 188 17 ((-1)))  i_6) (c_X1_80 Cx rfl rfl (rmk_ok (by omega) (by decide))) hW (by decide) rfl rfl rfl hl.1 rfl (Nat.le_of_ble_eq_true rfl) dX1_hold_20 ⟨Nat.le_of_ble_eq_true rfl, Nat.le_of_ble_eq_true rfl⟩) hL (fun u_7 H locs k_8 hW hL => ?_)
  obtain ⟨iu_7, fu_7, xu_7⟩ := k_8
  have F_9 := F_5.trans (fu_7.to pRd_E)
  have hps0 : PS u_7 := ⟨by rw [xu_7.2.2]; exact (iu_7.fi 189 2 4 (by decide) rfl).1, fun k a b => absurd b (by rw [xu_7.2.2]; omega)⟩
  refine lv_aload_n hx hb dX1_hold_23 rfl (lv_at hl 0 rfl) ?_
  refine g_X1_12 Cx hW (k := 188) (by decide) rfl (v := .ref (G.2.2.1 + 189)) (rf_188_0 iu_7) dX1_hold_24 ?_
  refine lv_aload_n hx hb dX1_hold_27 rfl (lv_at hl 0 rfl) ?_
  refine g_X1_69 Cx hW (k := 188) (by decide) rfl (v := .ref (G.2.2.1 + o)) (((fu_7 188 rfl).2.2.2 15).trans ((uF_r).trans ((uF_r).trans (uR_on)))) dX1_hold_28 ?_
  have q_11 : 0 ≤ u_7.1 o 2 ∧ u_7.1 o 2 ≤ 12 := iu_7.fi o 2 3 (mdl_k hm) hm.1
  refine g_X1_84 Cx hW (k := o) (mdl_l hm) hm.1 (v := u_7.1 o 2) rfl dX1_hold_31 ?_
  refine sBi (sV (As := [.int (iv (u_7.1 o 2))]) (rest := []) (k := 189) Cx (s_X4_isProof l G u_7 (vs := u_7.1 o 2) iu_7 (by omega) xu_7.1 (PR.rf hps0).2.2 xu_7.2.1) (c_X1_87 Cx rfl rfl (rmk_ok (by omega) (by decide))) hW (by decide) rfl rfl rfl hl.1 rfl (Nat.le_of_ble_eq_true rfl) dX1_hold_34 ⟨Nat.le_of_ble_eq_true rfl, Nat.le_of_ble_eq_true rfl⟩) hL (fun r_14 u_12 H locs k_13 hW hL => ?_)
  obtain ⟨iu_12, fu_12, xu_12⟩ := k_13
  have F_15 := F_9.trans (fu_12.to (fun k h => pRd_E k (p189_Rd k h)))
  refine r_if_ne (tgt := 58) hx hb ⟨(by omega), (by omega)⟩ dX1_hold_37 (by decide) (fun c_17 => ?_) (fun c_17 => ?_)
  · have cr_0 : CR G u_12 := ⟨rt_pr xu_12.2.1 xu_7.1, xu_12.2.2 (by omega)⟩
    refine lv_aload_n hx hb dX1_hold_58 rfl (lv_at hl 0 rfl) ?_
    refine g_X1_21 Cx hW (k := 188) (by decide) rfl (v := .ref (G.2.2.1 + 193)) (rf_188_1 iu_12) dX1_hold_59 ?_
    refine lv_aload_n hx hb dX1_hold_62 rfl (lv_at hl 0 rfl) ?_
    refine g_X1_69 Cx hW (k := 188) (by decide) rfl (v := .ref (G.2.2.1 + o)) (((fu_12 188 rfl).2.2.2 15).trans (((fu_7 188 rfl).2.2.2 15).trans ((uF_r).trans ((uF_r).trans (uR_on))))) dX1_hold_63 ?_
    refine sBv (sV (As := [.ref (G.2.2.1 + o)]) (rest := []) (k := 193) Cx (s_X6_take_193 l G u_12 (md := o) iu_12 hm) (c_X1_99 Cx rfl rfl (rmk_ok (by omega) (by decide))) hW (by decide) rfl rfl rfl hl.1 rfl (Nat.le_of_ble_eq_true rfl) dX1_hold_66 ⟨Nat.le_of_ble_eq_true rfl, Nat.le_of_ble_eq_true rfl⟩) hL (fun u_18 H locs k_19 hW hL => ?_)
    obtain ⟨iu_18, fu_18⟩ := k_19
    have F_20 := F_15.trans (fu_18.to pW_E)
    have cr_21 : CR G u_18 := cr_0.fr fu_18 rfl rfl rfl rfl
    refine lv_aload_n hx hb dX1_hold_69 rfl (lv_at hl 0 rfl) ?_
    refine lv_iconst (v := iv 0) hx hb dX1_hold_70 (by decide) ?_
    refine p_X1_103 Cx hW hL (k := 188) (by decide) rfl dX1_hold_71 (fun H locs hW hL => ?_)
    have F_22 : Fr S (uF u_18 188 14 0) pE := F_20.F rfl
    have i_23 : cX G (uF u_18 188 14 0) 0 0 0 := iu_18.F rfl rfl (show 0 ≤ 0 ∧ 0 ≤ 40 from ⟨by omega, by omega⟩)
    have cr_24 : CR G (uF u_18 188 14 0) := cr_21.F (by decide)
    refine lv_aload_n hx hb dX1_hold_74 rfl (lv_at hl 0 rfl) ?_
    refine g_X1_12 Cx hW (k := 188) (by decide) rfl (v := .ref (G.2.2.1 + 189)) (rf_188_0 i_23) dX1_hold_75 ?_
    refine sBv (sV (As := []) (rest := []) (k := 189) Cx (s_X4_rewind l G (uF u_18 188 14 0)  i_23) (c_X1_106 Cx rfl rfl (rmk_ok (by omega) (by decide))) hW (by decide) rfl rfl rfl hl.1 rfl (Nat.le_of_ble_eq_true rfl) dX1_hold_78 ⟨Nat.le_of_ble_eq_true rfl, Nat.le_of_ble_eq_true rfl⟩) hL (fun u_25 H locs k_26 hW hL => ?_)
    obtain ⟨iu_25, fu_25, xu_25⟩ := k_26
    have F_27 := F_22.trans (fu_25.to (fun k h => pRd_E k (p189_Rd k h)))
    have at_u_25 : u_25.1 189 3 = 0 := by rw [xu_25]; exact uF_on
    have cr_28 : CR G u_25 := by rw [xu_25]; exact cr_24.F (by decide)
    refine lv_aload_n hx hb dX1_hold_81 rfl (lv_at hl 0 rfl) ?_
    refine g_X1_12 Cx hW (k := 188) (by decide) rfl (v := .ref (G.2.2.1 + 189)) (rf_188_0 iu_25) dX1_hold_82 ?_
    have q_29 : 0 ≤ u_25.1 189 3 ∧ u_25.1 189 3 ≤ 1000000000 := iu_25.fi 189 3 4 (by decide) rfl
    have q_30 : 0 ≤ u_25.1 189 2 ∧ u_25.1 189 2 ≤ 30001 := iu_25.fi 189 2 4 (by decide) rfl
    refine sBi (sV (As := []) (rest := []) (k := 189) Cx (s_X4_kind l G u_25  iu_25) (c_X1_109 Cx rfl rfl (rmk_ok (by omega) (by decide))) hW (by decide) rfl rfl rfl hl.1 rfl (Nat.le_of_ble_eq_true rfl) dX1_hold_85 ⟨Nat.le_of_ble_eq_true rfl, Nat.le_of_ble_eq_true rfl⟩) hL (fun r_33 u_31 H locs k_32 hW hL => ?_)
    obtain ⟨eu_31, xu_31⟩ := k_32
    rw [eu_31] at hW
    refine lv_istore_n (lv' := [(3, .int (iv r_33)), (0, .ref (G.2.2.1 + 188)), (1, .ref (G.2.2.1 + 1)), (2, .ref (G.2.2.1 + o))]) hx hb dX1_hold_88 rfl hl (by decide) rfl (fun ls hl => ?_)
    refine lv_iload_n hx hb dX1_hold_89 rfl (lv_at hl 0 rfl) ?_
    refine lv_bipush (v := iv 9) hx hb dX1_hold_90 (by decide) ?_
    refine r_icmp_ne (tgt := 105) hx hb ⟨(by omega), (by omega)⟩ ⟨(by omega), (by omega)⟩ dX1_hold_92 (by decide) (fun c_34 => ?_) (fun c_34 => ?_)
    · have join_126 : ∀ (S126 : sS)  (H : Heap) (locs : List Loc) (ls : Array Slot), (cX G S126 0 0 0) → (Fr S S126 pE) → (Fr u_25 S126 pE) → (S126.1 189 3 ≤ 100) → (CR G S126) → sW G 294 S126 H → sL G locs → lv_has ls 4 [(3, .int (iv r_33)), (0, .ref (G.2.2.1 + 188)), (1, .ref (G.2.2.1 + 1)), (2, .ref (G.2.2.1 + o))] → W p l e (rmk 9 0 0) s m args below meth c H locs 0 0 (MQ below (sQi G 294 (fun r u => cX G u 0 0 0 ∧ Fr S u pE ∧ (-2147483648 ≤ r ∧ r ≤ 2147483647))) args s 0 0 (sF G)) (F0 m 126 ls []) := by
        intro S126  H locs ls hI126 hFm126 hL126_ ha126 hCR126 hW hL hl
        refine lv_aload_n hx hb dX1_hold_126 rfl (lv_at hl 1 rfl) ?_
        have q_35 : (-2147483648) ≤ S126.1 188 16 ∧ S126.1 188 16 ≤ 2147483647 := hI126.fi 188 16 1 (by decide) rfl
        refine g_X1_77 Cx hW (k := 188) (by decide) rfl (v := S126.1 188 16) rfl dX1_hold_127 ?_
        refine r_if_ne (tgt := 149) hx hb ⟨(by omega), (by omega)⟩ dX1_hold_130 (by decide) (fun c_36 => ?_) (fun c_36 => ?_)
        · refine lv_aload_n hx hb dX1_hold_149 rfl (lv_at hl 1 rfl) ?_
          refine g_X1_77 Cx hW (k := 188) (by decide) rfl (v := S126.1 188 16) rfl dX1_hold_150 ?_
          exact sIret Cx hr hlk hW hL ⟨hI126, hFm126, (by omega)⟩ dX1_hold_153
        · refine lv_aload_n hx hb dX1_hold_133 rfl (lv_at hl 1 rfl) ?_
          have join_145 : ∀ (hv : Int) (H : Heap) (locs : List Loc) (ls : Array Slot), (0 ≤ hv ∧ hv ≤ 1) → sW G 294 S126 H → sL G locs → lv_has ls 4 [(3, .int (iv r_33)), (0, .ref (G.2.2.1 + 188)), (1, .ref (G.2.2.1 + 1)), (2, .ref (G.2.2.1 + o))] → W p l e (rmk 9 0 0) s m args below meth c H locs 0 0 (MQ below (sQi G 294 (fun r u => cX G u 0 0 0 ∧ Fr S u pE ∧ (-2147483648 ≤ r ∧ r ≤ 2147483647))) args s 0 0 (sF G)) (F0 m 145 ls [.int (iv hv), .ref (G.2.2.1 + 188)]) := by
            intro hv H locs ls hhv hW hL hl
            have q_37 : 0 ≤ S126.1 189 3 ∧ S126.1 189 3 ≤ 1000000000 := hI126.fi 189 3 4 (by decide) rfl
            refine sBi (sV (As := [.int (iv hv)]) (rest := []) (k := 188) Cx (s_X1_holdTrees l G S126 (hv := hv) hI126 (by omega) hCR126 (by omega)) (c_X1_122 Cx rfl rfl (rmk_ok (by omega) (by decide))) hW (by decide) rfl rfl rfl hl.1 rfl (Nat.le_of_ble_eq_true rfl) dX1_hold_145 ⟨Nat.le_of_ble_eq_true rfl, Nat.le_of_ble_eq_true rfl⟩) hL (fun r_40 u_38 H locs k_39 hW hL => ?_)
            obtain ⟨iu_38, fu_38, xu_38⟩ := k_39
            have F_41 := hFm126.trans fu_38
            have F_42 := hL126_.trans fu_38
            have cr_43 : CR G u_38 := xu_38.1
            refine lv_pop hx hb dX1_hold_148 rfl ?_
            refine lv_aload_n hx hb dX1_hold_149 rfl (lv_at hl 1 rfl) ?_
            have q_44 : (-2147483648) ≤ u_38.1 188 16 ∧ u_38.1 188 16 ≤ 2147483647 := iu_38.fi 188 16 1 (by decide) rfl
            refine g_X1_77 Cx hW (k := 188) (by decide) rfl (v := u_38.1 188 16) rfl dX1_hold_150 ?_
            exact sIret Cx hr hlk hW hL ⟨iu_38, F_41, (by omega)⟩ dX1_hold_153
          refine lv_iload_n hx hb dX1_hold_134 rfl (lv_at hl 0 rfl) ?_
          refine lv_bipush (v := iv 7) hx hb dX1_hold_135 (by decide) ?_
          refine r_icmp_ne (tgt := 144) hx hb ⟨(by omega), (by omega)⟩ ⟨(by omega), (by omega)⟩ dX1_hold_137 (by decide) (fun c_45 => ?_) (fun c_45 => ?_)
          · refine lv_iconst (v := iv 0) hx hb dX1_hold_144 (by decide) ?_
            exact join_145 0 _ _ _ (by omega) hW hL (lv_sub hl [0, 1, 2, 3] rfl)
          · refine lv_iconst (v := iv 1) hx hb dX1_hold_140 (by decide) ?_
            refine lv_goto (tgt := 145) hx hb dX1_hold_141 (by decide) ?_
            exact join_145 1 _ _ _ (by omega) hW hL (lv_sub hl [0, 1, 2, 3] rfl)
      refine lv_iload_n hx hb dX1_hold_105 rfl (lv_at hl 0 rfl) ?_
      refine lv_bipush (v := iv 7) hx hb dX1_hold_106 (by decide) ?_
      refine r_icmp_ne (tgt := 119) hx hb ⟨(by omega), (by omega)⟩ ⟨(by omega), (by omega)⟩ dX1_hold_108 (by decide) (fun c_46 => ?_) (fun c_46 => ?_)
      · refine lv_aload_n hx hb dX1_hold_119 rfl (lv_at hl 1 rfl) ?_
        refine g_X1_12 Cx hW (k := 188) (by decide) rfl (v := .ref (G.2.2.1 + 189)) (rf_188_0 iu_25) dX1_hold_120 ?_
        refine sBv (sV (As := []) (rest := []) (k := 189) Cx (s_X4_advance l G u_25  iu_25 (by omega)) (c_X1_119 Cx rfl rfl (rmk_ok (by omega) (by decide))) hW (by decide) rfl rfl rfl hl.1 rfl (Nat.le_of_ble_eq_true rfl) dX1_hold_123 ⟨Nat.le_of_ble_eq_true rfl, Nat.le_of_ble_eq_true rfl⟩) hL (fun u_47 H locs k_48 hW hL => ?_)
        obtain ⟨iu_47, fu_47, xu_47⟩ := k_48
        have F_49 := F_27.trans (fu_47.to (fun k h => pRd_E k (p189_Rd k h)))
        have F_50 := (Fr.rf : Fr u_25 u_25 pE).trans (fu_47.to (fun k h => pRd_E k (p189_Rd k h)))
        have at_u_47 : u_47.1 189 3 = u_25.1 189 3 + 1 := by rw [xu_47]; exact uF_on
        have cr_51 : CR G u_47 := by rw [xu_47]; exact cr_28.F (by decide)
        have q_52 : 0 ≤ u_47.1 189 3 ∧ u_47.1 189 3 ≤ 1000000000 := iu_47.fi 189 3 4 (by decide) rfl
        exact join_126 u_47  _ _ _ iu_47 F_49 F_50 (by omega) cr_51 hW hL (lv_sub hl [0, 1, 2, 3] rfl)
      · refine lv_aload_n hx hb dX1_hold_111 rfl (lv_at hl 1 rfl) ?_
        refine sBi (sV (As := []) (rest := []) (k := 188) Cx (s_X1_holdOptimal l G u_25  iu_25 cr_28 (by omega)) (c_X1_116 Cx rfl rfl (rmk_ok (by omega) (by decide))) hW (by decide) rfl rfl rfl hl.1 rfl (Nat.le_of_ble_eq_true rfl) dX1_hold_112 ⟨Nat.le_of_ble_eq_true rfl, Nat.le_of_ble_eq_true rfl⟩) hL (fun r_55 u_53 H locs k_54 hW hL => ?_)
        obtain ⟨iu_53, fu_53, xu_53⟩ := k_54
        have F_56 := F_27.trans fu_53
        have F_57 := (Fr.rf : Fr u_25 u_25 pE).trans fu_53
        have cr_58 : CR G u_53 := xu_53.1
        refine lv_pop hx hb dX1_hold_115 rfl ?_
        refine lv_goto (tgt := 126) hx hb dX1_hold_116 (by decide) ?_
        have q_59 : 0 ≤ u_53.1 189 3 ∧ u_53.1 189 3 ≤ 1000000000 := iu_53.fi 189 3 4 (by decide) rfl
        exact join_126 u_53  _ _ _ iu_53 F_56 F_57 (by omega) cr_58 hW hL (lv_sub hl [0, 1, 2, 3] rfl)
    · refine lv_aload_n hx hb dX1_hold_95 rfl (lv_at hl 1 rfl) ?_
      refine sBi (sV (As := []) (rest := []) (k := 188) Cx (s_X1_holdUnbounded l G u_25  iu_25 cr_28 (by omega)) (c_X1_112 Cx rfl rfl (rmk_ok (by omega) (by decide))) hW (by decide) rfl rfl rfl hl.1 rfl (Nat.le_of_ble_eq_true rfl) dX1_hold_96 ⟨Nat.le_of_ble_eq_true rfl, Nat.le_of_ble_eq_true rfl⟩) hL (fun r_62 u_60 H locs k_61 hW hL => ?_)
      obtain ⟨iu_60, fu_60, xu_60⟩ := k_61
      have F_63 := F_27.trans fu_60
      have cr_64 : CR G u_60 := xu_60.1
      refine lv_pop hx hb dX1_hold_99 rfl ?_
      refine lv_aload_n hx hb dX1_hold_100 rfl (lv_at hl 1 rfl) ?_
      have q_65 : (-2147483648) ≤ u_60.1 188 16 ∧ u_60.1 188 16 ≤ 2147483647 := iu_60.fi 188 16 1 (by decide) rfl
      refine g_X1_77 Cx hW (k := 188) (by decide) rfl (v := u_60.1 188 16) rfl dX1_hold_101 ?_
      exact sIret Cx hr hlk hW hL ⟨iu_60, F_63, (by omega)⟩ dX1_hold_104
  · refine lv_aload_n hx hb dX1_hold_40 rfl (lv_at hl 0 rfl) ?_
    refine lv_iconst (v := iv 1) hx hb dX1_hold_41 (by decide) ?_
    refine lv_aload_n hx hb dX1_hold_42 rfl (lv_at hl 0 rfl) ?_
    refine g_X1_12 Cx hW (k := 188) (by decide) rfl (v := .ref (G.2.2.1 + 189)) (rf_188_0 iu_12) dX1_hold_43 ?_
    have q_66 : 0 ≤ u_12.1 189 3 ∧ u_12.1 189 3 ≤ 1000000000 := iu_12.fi 189 3 4 (by decide) rfl
    have q_67 : 0 ≤ u_12.1 189 2 ∧ u_12.1 189 2 ≤ 30001 := iu_12.fi 189 2 4 (by decide) rfl
    refine sBi (sV (As := []) (rest := [.int (iv 1), .ref (G.2.2.1 + 188)]) (k := 189) Cx (s_X4_start l G u_12  iu_12) (c_X1_91 Cx rfl rfl (rmk_ok (by omega) (by decide))) hW (by decide) rfl rfl rfl hl.1 rfl (Nat.le_of_ble_eq_true rfl) dX1_hold_46 ⟨Nat.le_of_ble_eq_true rfl, Nat.le_of_ble_eq_true rfl⟩) hL (fun r_70 u_68 H locs k_69 hW hL => ?_)
    obtain ⟨eu_68, xu_68⟩ := k_69
    rw [eu_68] at hW
    refine sBi (sV (As := [.int (iv 1), .int (iv r_70)]) (rest := []) (k := 188) Cx (s_X1_fail l G u_12 (kn := 1) (wh := r_70) iu_12 (by omega) (by omega)) (c_X1_95 Cx rfl rfl (rmk_ok (by omega) (by decide))) hW (by decide) rfl rfl rfl hl.1 rfl (Nat.le_of_ble_eq_true rfl) dX1_hold_49 ⟨Nat.le_of_ble_eq_true rfl, Nat.le_of_ble_eq_true rfl⟩) hL (fun r_73 u_71 H locs k_72 hW hL => ?_)
    obtain ⟨iu_71, fu_71, xu_71⟩ := k_72
    have F_74 := F_15.trans (fu_71.to (p1_sub rfl))
    refine lv_pop hx hb dX1_hold_52 rfl ?_
    refine lv_aload_n hx hb dX1_hold_53 rfl (lv_at hl 0 rfl) ?_
    have q_76 : (-2147483648) ≤ u_71.1 188 16 ∧ u_71.1 188 16 ≤ 2147483647 := iu_71.fi 188 16 1 (by decide) rfl
    refine g_X1_77 Cx hW (k := 188) (by decide) rfl (v := u_71.1 188 16) rfl dX1_hold_54 ?_
    exact sIret Cx hr hlk hW hL ⟨iu_71, F_74, (by omega)⟩ dX1_hold_57
