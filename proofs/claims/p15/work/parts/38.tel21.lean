def pU (k : Nat) : Bool := Nat.beq k 11 || rgB 16 18 k
theorem pT_U : ∀ k, pT k = true → pU k = true := fun k h => by
  rw [pT, Bool.or_eq_true] at h
  rcases h with h | h
  · have : k = 11 := Nat.eq_of_beq_eq_true h
    subst this; rfl
  · have := rgB_t h
    simp [pU, rgB_i (a := 16) (b := 18) (k := k) ⟨by omega, by omega⟩]
set_option maxRecDepth 100000 in
set_option maxHeartbeats 4000000 in
theorem s_X9_tellPar (l : Launch) (G : sG) (S : sS)  (hI : cX G S 0 0 0) (hsg : SG S) (hTS : TS S) : Met l yX9_tellPar (.code yX9_tellPar cX9_tellPar 7 (some .boolean) :: tb) (rmk 4 0 0) (sPc G 294 S [.ref (G.2.2.1 + 11)]) (sQi G 294 (fun r u => cX G u 0 0 0 ∧ Fr S u pU ∧ ((0 ≤ r ∧ r ≤ 1) ∧ (r = 1 → u.1 11 9 = S.1 11 9 + 1) ∧ Hd (r = 1 → TS u)))) 0 0 (sF G) := by
  refine sEnter (by decide) (Nat.le_of_ble_eq_true rfl) ?_
  intro p e s m args below meth c Cx hr hlk hnm hW ls hl
  have Cx : sC G p m c cX9_tellPar 7 s args RX9 := Cx
  obtain ⟨hx, hb, hml, hown, hts⟩ := id Cx.1
  have hL : sL G [] := sL_nil
  have hl : lv_has ls 7 [(0, .ref (G.2.2.1 + 11))] := hl
  have hW0 := hW
  have hkn : 0 ≤ S.1 11 9 ∧ S.1 11 9 ≤ 128 := hI.fi 11 9 9 (by decide) rfl
  refine lv_aload_n hx hb dX9_tellPar_0 rfl (lv_at hl 0 rfl) ?_
  have q_1 : (-2147483648) ≤ S.1 11 13 ∧ S.1 11 13 ≤ 2147483647 := hI.fi 11 13 9 (by decide) rfl
  refine g_X9_89 Cx hW (k := 11) (by decide) rfl (v := S.1 11 13) rfl dX9_tellPar_1 ?_
  refine lv_iconst (v := iv 1) hx hb dX9_tellPar_4 (by decide) ?_
  refine r_iadd hx hb dX9_tellPar_5 ?_
  obtain ⟨z_2, ez_2, hz_2, kz_2⟩ := iv_of (iv ((S.1 11 13) + 1))
  rw [ez_2]
  refine lv_istore_n (lv' := [(1, .int (iv z_2)), (0, .ref (G.2.2.1 + 11))]) hx hb dX9_tellPar_6 rfl hl (by decide) rfl (fun ls hl => ?_)
  refine lv_aload_n hx hb dX9_tellPar_7 rfl (lv_at hl 1 rfl) ?_
  refine lv_iload_n hx hb dX9_tellPar_8 rfl (lv_at hl 0 rfl) ?_
  refine lv_bipush (v := iv 7) hx hb dX9_tellPar_9 (by decide) ?_
  have q_3 : 0 ≤ S.1 11 9 ∧ S.1 11 9 ≤ 128 := hI.fi 11 9 9 (by decide) rfl
  refine sBi (sV (As := [.int (iv z_2), .int (iv 7)]) (rest := []) (k := 11) Cx (s_X9_learn l G S (tk := z_2) (so := 7) hI (by omega) (by omega)) (c_X9_140 Cx rfl rfl (rmk_ok (by omega) (by decide))) hW (by decide) rfl rfl rfl hl.1 rfl (Nat.le_of_ble_eq_true rfl) dX9_tellPar_11 ⟨Nat.le_of_ble_eq_true rfl, Nat.le_of_ble_eq_true rfl⟩) hL (fun r_6 u_4 H locs k_5 hW hL => ?_)
  obtain ⟨iu_4, fu_4, xu_4⟩ := k_5
  have F_7 := (Fr.rf : Fr S S pU).trans (fu_4.to pT_U)
  refine lv_istore_n (lv' := [(2, .int (iv r_6)), (1, .int (iv z_2)), (0, .ref (G.2.2.1 + 11))]) hx hb dX9_tellPar_14 rfl hl (by decide) rfl (fun ls hl => ?_)
  refine lv_iload_n hx hb dX9_tellPar_15 rfl (lv_at hl 0 rfl) ?_
  refine r_if_ge (tgt := 21) hx hb ⟨(by omega), (by omega)⟩ dX9_tellPar_16 (by decide) (fun c_8 => ?_) (fun c_8 => ?_)
  · have hT1 : TS u_4 := hTS.learn hkn.1 (by omega) (by have e := (xu_4.2.1 (by omega)).1; have z := xu_4.2.2 (by omega); rw [e] at z; exact z) (by decide)
    refine lv_aload_n hx hb dX9_tellPar_21 rfl (lv_at hl 2 rfl) ?_
    refine lv_dup hx hb dX9_tellPar_22 rfl ?_
    have q_9 : (-2147483648) ≤ u_4.1 11 13 ∧ u_4.1 11 13 ≤ 2147483647 := iu_4.fi 11 13 9 (by decide) rfl
    refine g_X9_89 Cx hW (k := 11) (by decide) rfl (v := u_4.1 11 13) rfl dX9_tellPar_23 ?_
    refine lv_iconst (v := iv 2) hx hb dX9_tellPar_26 (by decide) ?_
    refine r_iadd hx hb dX9_tellPar_27 ?_
    obtain ⟨z_10, ez_10, hz_10, kz_10⟩ := iv_of (iv ((u_4.1 11 13) + 2))
    rw [ez_10]
    refine p_X9_89 Cx hW hL (k := 11) (by decide) rfl dX9_tellPar_28 (fun H locs hW hL => ?_)
    have F_11 : Fr S (uF u_4 11 13 z_10) pU := F_7.F rfl
    have i_12 : cX G (uF u_4 11 13 z_10) 0 0 0 := iu_4.F rfl rfl (show (-2147483648) ≤ z_10 ∧ z_10 ≤ 2147483647 from ⟨by omega, by omega⟩)
    refine lv_aload_n hx hb dX9_tellPar_31 rfl (lv_at hl 2 rfl) ?_
    refine lv_iload_n hx hb dX9_tellPar_32 rfl (lv_at hl 0 rfl) ?_
    have q_13 : 0 ≤ u_4.1 11 9 ∧ u_4.1 11 9 ≤ 128 := iu_4.fi 11 9 9 (by decide) rfl
    have lk_14 : (uF u_4 11 13 z_10).1 11 9 = u_4.1 11 9 := uF_ne (fun h => absurd h.2 (by decide))
    refine sBi (sV (As := [.int (iv r_6)]) (rest := []) (k := 11) Cx (s_X9_tellIndexes l G (uF u_4 11 13 z_10) (s0 := r_6) i_12 (by omega) (hT1.of (uF_i (by decide)) (fun _ => rfl))) (c_X9_152 Cx rfl rfl (rmk_ok (by omega) (by decide))) hW (by decide) rfl rfl rfl hl.1 rfl (Nat.le_of_ble_eq_true rfl) dX9_tellPar_33 ⟨Nat.le_of_ble_eq_true rfl, Nat.le_of_ble_eq_true rfl⟩) hL (fun r_17 u_15 H locs k_16 hW hL => ?_)
    obtain ⟨iu_15, fu_15, xu_15⟩ := k_16
    have F_18 := F_11.trans (fu_15.to pT_U)
    refine r_if_ne (tgt := 41) hx hb ⟨(by omega), (by omega)⟩ dX9_tellPar_36 (by decide) (fun c_19 => ?_) (fun c_19 => ?_)
    · have hT3 : TS u_15 := xu_15.2.2 (by omega)
      refine lv_aload_n hx hb dX9_tellPar_41 rfl (lv_at hl 2 rfl) ?_
      refine lv_iload_n hx hb dX9_tellPar_42 rfl (lv_at hl 0 rfl) ?_
      have q_20 : 0 ≤ u_15.1 11 9 ∧ u_15.1 11 9 ≤ 128 := iu_15.fi 11 9 9 (by decide) rfl
      refine sBi (sV (As := [.int (iv r_6)]) (rest := []) (k := 11) Cx (s_X9_asked l G u_15 (s0 := r_6) iu_15 (by omega) hT3) (c_X9_156 Cx rfl rfl (rmk_ok (by omega) (by decide))) hW (by decide) rfl rfl rfl hl.1 rfl (Nat.le_of_ble_eq_true rfl) dX9_tellPar_43 ⟨Nat.le_of_ble_eq_true rfl, Nat.le_of_ble_eq_true rfl⟩) hL (fun r_23 u_21 H locs k_22 hW hL => ?_)
      obtain ⟨eu_21, xu_21⟩ := k_22
      rw [eu_21] at hW
      refine lv_istore_n (lv' := [(3, .int (iv r_23)), (2, .int (iv r_6)), (1, .int (iv z_2)), (0, .ref (G.2.2.1 + 11))]) hx hb dX9_tellPar_46 rfl hl (by decide) rfl (fun ls hl => ?_)
      refine lv_aload_n hx hb dX9_tellPar_47 rfl (lv_at hl 3 rfl) ?_
      have q_24 : 0 ≤ u_15.1 11 11 ∧ u_15.1 11 11 ≤ 12 := iu_15.fi 11 11 9 (by decide) rfl
      refine g_X9_83 Cx hW (k := 11) (by decide) rfl (v := u_15.1 11 11) rfl dX9_tellPar_48 ?_
      refine lv_sipush (v := iv 144) hx hb dX9_tellPar_51 (by decide) ?_
      refine r_imul hx hb dX9_tellPar_54 ?_
      refine lv_istore (lv' := [(4, .int (iv ((u_15.1 11 11) * 144))), (3, .int (iv r_23)), (2, .int (iv r_6)), (1, .int (iv z_2)), (0, .ref (G.2.2.1 + 11))]) hx hb dX9_tellPar_55 hl (by decide) rfl (fun ls hl => ?_)
      refine lv_iconst (v := iv 0) hx hb dX9_tellPar_57 (by decide) ?_
      refine lv_istore (lv' := [(5, .int (iv 0)), (4, .int (iv ((u_15.1 11 11) * 144))), (3, .int (iv r_23)), (2, .int (iv r_6)), (1, .int (iv z_2)), (0, .ref (G.2.2.1 + 11))]) hx hb dX9_tellPar_58 hl (by decide) rfl (fun ls hl => ?_)
      have loop_60 : ∀ (fuel : Nat) (S60 : sS) (gv : Int) (H : Heap) (locs : List Loc) (ls : Array Slot), (2001 - gv).toNat < fuel → (cX G S60 0 0 0) → (Fr S S60 pU) → (Fr u_15 S60 pU) → (0 ≤ gv ∧ gv ≤ 2001) → (TS S60) → (S60.1 11 9 = S.1 11 9 + 1) → sW G 294 S60 H → sL G locs → lv_has ls 7 [(5, .int (iv gv)), (4, .int (iv ((u_15.1 11 11) * 144))), (3, .int (iv r_23)), (2, .int (iv r_6)), (1, .int (iv z_2)), (0, .ref (G.2.2.1 + 11))] → W p l e (rmk 4 0 0) s m args below meth c H locs 0 0 (MQ below (sQi G 294 (fun r u => cX G u 0 0 0 ∧ Fr S u pU ∧ ((0 ≤ r ∧ r ≤ 1) ∧ (r = 1 → u.1 11 9 = S.1 11 9 + 1) ∧ Hd (r = 1 → TS u)))) args s 0 0 (sF G)) (F0 m 60 ls []) := by
        intro fuel
        induction fuel with
        | zero => intro S60 gv H locs ls hmeas hI60 hFm60 hL60_ hgv hT3 hk3 hW hL hl; exact absurd hmeas (Nat.not_lt_zero _)
        | succ fuel ih_60 =>
          intro S60 gv H locs ls hmeas hI60 hFm60 hL60_ hgv hT3 hk3 hW hL hl
          refine lv_iload hx hb dX9_tellPar_60 (lv_at hl 0 rfl) ?_
          refine lv_aload_n hx hb dX9_tellPar_62 rfl (lv_at hl 5 rfl) ?_
          refine g_X9_14 Cx hW (k := 11) (by decide) rfl (v := .ref (G.2.2.1 + 12)) (rf_11_0 hI60) dX9_tellPar_63 ?_
          have q_25 : 0 ≤ S.1 12 3 ∧ S.1 12 3 ≤ 2001 := hI.fi 12 3 8 (by decide) rfl
          have lk_26 : S60.1 12 3 = S.1 12 3 := ((hL60_ 12 rfl).1 3).trans (((fu_15 12 rfl).1 3).trans ((uF_ne (fun h => absurd h.2 (by decide))).trans ((fu_4 12 rfl).1 3)))
          refine sBi (sV (As := []) (rest := [.int (iv gv)]) (k := 12) Cx (s_X8_tokenCount l G S60  hI60) (c_X9_92 Cx rfl rfl (rmk_ok (by omega) (by decide))) hW (by decide) rfl rfl rfl hl.1 rfl (Nat.le_of_ble_eq_true rfl) dX9_tellPar_66 ⟨Nat.le_of_ble_eq_true rfl, Nat.le_of_ble_eq_true rfl⟩) hL (fun r_29 u_27 H locs k_28 hW hL => ?_)
          obtain ⟨eu_27, xu_27⟩ := k_28
          rw [eu_27] at hW
          refine r_icmp_ge (tgt := 206) hx hb ⟨(by omega), (by omega)⟩ ⟨(by omega), (by omega)⟩ dX9_tellPar_69 (by decide) (fun c_30 => ?_) (fun c_30 => ?_)
          · refine lv_iload hx hb dX9_tellPar_206 (lv_at hl 0 rfl) ?_
            refine lv_iload_n hx hb dX9_tellPar_208 rfl (lv_at hl 2 rfl) ?_
            refine r_icmp_eq (tgt := 219) hx hb ⟨(by omega), (by omega)⟩ ⟨(by omega), (by omega)⟩ dX9_tellPar_209 (by decide) (fun c_31 => ?_) (fun c_31 => ?_)
            · refine lv_aload_n hx hb dX9_tellPar_219 rfl (lv_at hl 5 rfl) ?_
              have q_32 : 0 ≤ S60.1 11 11 ∧ S60.1 11 11 ≤ 12 := hI60.fi 11 11 9 (by decide) rfl
              refine g_X9_83 Cx hW (k := 11) (by decide) rfl (v := S60.1 11 11) rfl dX9_tellPar_220 ?_
              refine lv_bipush (v := iv 12) hx hb dX9_tellPar_223 (by decide) ?_
              refine r_icmp_lt (tgt := 236) hx hb ⟨(by omega), (by omega)⟩ ⟨(by omega), (by omega)⟩ dX9_tellPar_225 (by decide) (fun c_33 => ?_) (fun c_33 => ?_)
              · refine lv_aload_n hx hb dX9_tellPar_236 rfl (lv_at hl 5 rfl) ?_
                refine lv_dup hx hb dX9_tellPar_237 rfl ?_
                refine g_X9_83 Cx hW (k := 11) (by decide) rfl (v := S60.1 11 11) rfl dX9_tellPar_238 ?_
                refine lv_iconst (v := iv 1) hx hb dX9_tellPar_241 (by decide) ?_
                refine r_iadd hx hb dX9_tellPar_242 ?_
                refine p_X9_83 Cx hW hL (k := 11) (by decide) rfl dX9_tellPar_243 (fun H locs hW hL => ?_)
                have F_34 : Fr S (uF S60 11 11 ((S60.1 11 11) + 1)) pU := hFm60.F rfl
                have F_35 : Fr u_15 (uF S60 11 11 ((S60.1 11 11) + 1)) pU := hL60_.F rfl
                have i_36 : cX G (uF S60 11 11 ((S60.1 11 11) + 1)) 0 0 0 := hI60.F rfl rfl (show 0 ≤ (S60.1 11 11) + 1 ∧ (S60.1 11 11) + 1 ≤ 12 from ⟨by omega, by omega⟩)
                refine lv_aload_n hx hb dX9_tellPar_246 rfl (lv_at hl 5 rfl) ?_
                refine lv_iload_n hx hb dX9_tellPar_247 rfl (lv_at hl 3 rfl) ?_
                refine lv_iconst (v := iv 5) hx hb dX9_tellPar_248 (by decide) ?_
                refine lv_iload hx hb dX9_tellPar_249 (lv_at hl 1 rfl) ?_
                refine sBv (sV (As := [.int (iv r_6), .int (iv 5), .int (iv ((u_15.1 11 11) * 144))]) (rest := []) (k := 11) Cx (s_X9_setFact l G (uF S60 11 11 ((S60.1 11 11) + 1)) (s0 := r_6) (q := 5) (v := (u_15.1 11 11) * 144) i_36 (by omega) (by omega) (by unfold fr8; omega) (by omega)) (c_X9_136 Cx rfl rfl (rmk_ok (by omega) (by decide))) hW (by decide) rfl rfl rfl hl.1 rfl (Nat.le_of_ble_eq_true rfl) dX9_tellPar_251 ⟨Nat.le_of_ble_eq_true rfl, Nat.le_of_ble_eq_true rfl⟩) hL (fun u_37 H locs k_38 hW hL => ?_)
                obtain ⟨iu_37, fu_37, xu_37⟩ := k_38
                have F_39 := F_34.trans (fu_37.to (fun k h => pT_U k (p17_T k h)))
                have F_40 := F_35.trans (fu_37.to (fun k h => pT_U k (p17_T k h)))
                have hT4 : TS u_37 := by rw [xu_37]; exact (hT3.of (uF_i (by decide)) (fun _ => rfl)).base
                refine lv_aload_n hx hb dX9_tellPar_254 rfl (lv_at hl 5 rfl) ?_
                refine lv_dup hx hb dX9_tellPar_255 rfl ?_
                have q_41 : (-2147483648) ≤ S60.1 11 13 ∧ S60.1 11 13 ≤ 2147483647 := hI60.fi 11 13 9 (by decide) rfl
                refine g_X9_89 Cx hW (k := 11) (by decide) rfl (v := S60.1 11 13) (((fu_37 11 rfl).1 13).trans (uF_ne (fun h => absurd h.2 (by decide)))) dX9_tellPar_256 ?_
                refine lv_iconst (v := iv 1) hx hb dX9_tellPar_259 (by decide) ?_
                refine r_iadd hx hb dX9_tellPar_260 ?_
                obtain ⟨z_42, ez_42, hz_42, kz_42⟩ := iv_of (iv ((S60.1 11 13) + 1))
                rw [ez_42]
                refine p_X9_89 Cx hW hL (k := 11) (by decide) rfl dX9_tellPar_261 (fun H locs hW hL => ?_)
                have F_43 : Fr S (uF u_37 11 13 z_42) pU := F_39.F rfl
                have F_44 : Fr u_15 (uF u_37 11 13 z_42) pU := F_40.F rfl
                have i_45 : cX G (uF u_37 11 13 z_42) 0 0 0 := iu_37.F rfl rfl (show (-2147483648) ≤ z_42 ∧ z_42 ≤ 2147483647 from ⟨by omega, by omega⟩)
                refine lv_iconst (v := iv 1) hx hb dX9_tellPar_264 (by decide) ?_
                have q_46 : 0 ≤ S60.1 11 9 ∧ S60.1 11 9 ≤ 128 := hI60.fi 11 9 9 (by decide) rfl
                have lk_47 : (uF u_37 11 13 z_42).1 11 9 = S60.1 11 9 := (uF_ne (fun h => absurd h.2 (by decide))).trans (((fu_37 11 rfl).1 9).trans (uF_ne (fun h => absurd h.2 (by decide))))
                exact sZret Cx hr hlk hW hL (by omega) ⟨i_45, F_43, ⟨(by omega), (by omega), fun _ => hT4.of (uF_i (by decide)) (fun _ => rfl)⟩⟩ dX9_tellPar_265
              · refine lv_aload_n hx hb dX9_tellPar_228 rfl (lv_at hl 5 rfl) ?_
                refine lv_bipush (v := iv 7) hx hb dX9_tellPar_229 (by decide) ?_
                refine lv_iload_n hx hb dX9_tellPar_231 rfl (lv_at hl 4 rfl) ?_
                have q_48 : 0 ≤ S60.1 11 9 ∧ S60.1 11 9 ≤ 128 := hI60.fi 11 9 9 (by decide) rfl
                refine sBi (sV (As := [.int (iv 7), .int (iv z_2)]) (rest := []) (k := 11) Cx (s_X9_fail l G S60 (k := 7) (tk := z_2) hI60 (by omega) (by omega)) (c_X9_132 Cx rfl rfl (rmk_ok (by omega) (by decide))) hW (by decide) rfl rfl rfl hl.1 rfl (Nat.le_of_ble_eq_true rfl) dX9_tellPar_232 ⟨Nat.le_of_ble_eq_true rfl, Nat.le_of_ble_eq_true rfl⟩) hL (fun r_51 u_49 H locs k_50 hW hL => ?_)
                obtain ⟨iu_49, fu_49, xu_49⟩ := k_50
                have F_52 := hFm60.trans (fu_49.to (fun k h => pT_U k (p11_T k h)))
                have F_53 := hL60_.trans (fu_49.to (fun k h => pT_U k (p11_T k h)))
                have q_54 : 0 ≤ u_49.1 11 9 ∧ u_49.1 11 9 ≤ 128 := iu_49.fi 11 9 9 (by decide) rfl
                exact sZret Cx hr hlk hW hL (by omega) ⟨iu_49, F_52, ⟨(by omega), (by omega), fun q => absurd q (by omega)⟩⟩ dX9_tellPar_235
            · refine lv_aload_n hx hb dX9_tellPar_212 rfl (lv_at hl 5 rfl) ?_
              refine lv_iconst (v := iv 3) hx hb dX9_tellPar_213 (by decide) ?_
              refine lv_iload_n hx hb dX9_tellPar_214 rfl (lv_at hl 4 rfl) ?_
              have q_55 : 0 ≤ S60.1 11 9 ∧ S60.1 11 9 ≤ 128 := hI60.fi 11 9 9 (by decide) rfl
              refine sBi (sV (As := [.int (iv 3), .int (iv z_2)]) (rest := []) (k := 11) Cx (s_X9_fail l G S60 (k := 3) (tk := z_2) hI60 (by omega) (by omega)) (c_X9_132 Cx rfl rfl (rmk_ok (by omega) (by decide))) hW (by decide) rfl rfl rfl hl.1 rfl (Nat.le_of_ble_eq_true rfl) dX9_tellPar_215 ⟨Nat.le_of_ble_eq_true rfl, Nat.le_of_ble_eq_true rfl⟩) hL (fun r_58 u_56 H locs k_57 hW hL => ?_)
              obtain ⟨iu_56, fu_56, xu_56⟩ := k_57
              have F_59 := hFm60.trans (fu_56.to (fun k h => pT_U k (p11_T k h)))
              have F_60 := hL60_.trans (fu_56.to (fun k h => pT_U k (p11_T k h)))
              have q_61 : 0 ≤ u_56.1 11 9 ∧ u_56.1 11 9 ≤ 128 := iu_56.fi 11 9 9 (by decide) rfl
              exact sZret Cx hr hlk hW hL (by omega) ⟨iu_56, F_59, ⟨(by omega), (by omega), fun q => absurd q (by omega)⟩⟩ dX9_tellPar_218
          · refine lv_aload_n hx hb dX9_tellPar_72 rfl (lv_at hl 5 rfl) ?_
            refine g_X9_14 Cx hW (k := 11) (by decide) rfl (v := .ref (G.2.2.1 + 12)) (rf_11_0 hI60) dX9_tellPar_73 ?_
            refine lv_aload_n hx hb dX9_tellPar_76 rfl (lv_at hl 5 rfl) ?_
            have q_62 : (-2147483648) ≤ S60.1 11 13 ∧ S60.1 11 13 ≤ 2147483647 := hI60.fi 11 13 9 (by decide) rfl
            refine g_X9_89 Cx hW (k := 11) (by decide) rfl (v := S60.1 11 13) rfl dX9_tellPar_77 ?_
            refine sBi (sV (As := [.int (iv (S60.1 11 13))]) (rest := []) (k := 12) Cx (s_X8_kind l G S60 (k := S60.1 11 13) hI60 (by omega)) (c_X9_95 Cx rfl rfl (rmk_ok (by omega) (by decide))) hW (by decide) rfl rfl rfl hl.1 rfl (Nat.le_of_ble_eq_true rfl) dX9_tellPar_80 ⟨Nat.le_of_ble_eq_true rfl, Nat.le_of_ble_eq_true rfl⟩) hL (fun r_65 u_63 H locs k_64 hW hL => ?_)
            obtain ⟨eu_63, xu_63⟩ := k_64
            rw [eu_63] at hW
            refine lv_bipush (v := iv 15) hx hb dX9_tellPar_83 (by decide) ?_
            refine r_icmp_eq (tgt := 206) hx hb ⟨(by omega), (by omega)⟩ ⟨(by omega), (by omega)⟩ dX9_tellPar_85 (by decide) (fun c_66 => ?_) (fun c_66 => ?_)
            · refine lv_iload hx hb dX9_tellPar_206 (lv_at hl 0 rfl) ?_
              refine lv_iload_n hx hb dX9_tellPar_208 rfl (lv_at hl 2 rfl) ?_
              refine r_icmp_eq (tgt := 219) hx hb ⟨(by omega), (by omega)⟩ ⟨(by omega), (by omega)⟩ dX9_tellPar_209 (by decide) (fun c_67 => ?_) (fun c_67 => ?_)
              · refine lv_aload_n hx hb dX9_tellPar_219 rfl (lv_at hl 5 rfl) ?_
                have q_68 : 0 ≤ S60.1 11 11 ∧ S60.1 11 11 ≤ 12 := hI60.fi 11 11 9 (by decide) rfl
                refine g_X9_83 Cx hW (k := 11) (by decide) rfl (v := S60.1 11 11) rfl dX9_tellPar_220 ?_
                refine lv_bipush (v := iv 12) hx hb dX9_tellPar_223 (by decide) ?_
                refine r_icmp_lt (tgt := 236) hx hb ⟨(by omega), (by omega)⟩ ⟨(by omega), (by omega)⟩ dX9_tellPar_225 (by decide) (fun c_69 => ?_) (fun c_69 => ?_)
                · refine lv_aload_n hx hb dX9_tellPar_236 rfl (lv_at hl 5 rfl) ?_
                  refine lv_dup hx hb dX9_tellPar_237 rfl ?_
                  refine g_X9_83 Cx hW (k := 11) (by decide) rfl (v := S60.1 11 11) rfl dX9_tellPar_238 ?_
                  refine lv_iconst (v := iv 1) hx hb dX9_tellPar_241 (by decide) ?_
                  refine r_iadd hx hb dX9_tellPar_242 ?_
                  refine p_X9_83 Cx hW hL (k := 11) (by decide) rfl dX9_tellPar_243 (fun H locs hW hL => ?_)
                  have F_70 : Fr S (uF S60 11 11 ((S60.1 11 11) + 1)) pU := hFm60.F rfl
                  have F_71 : Fr u_15 (uF S60 11 11 ((S60.1 11 11) + 1)) pU := hL60_.F rfl
                  have i_72 : cX G (uF S60 11 11 ((S60.1 11 11) + 1)) 0 0 0 := hI60.F rfl rfl (show 0 ≤ (S60.1 11 11) + 1 ∧ (S60.1 11 11) + 1 ≤ 12 from ⟨by omega, by omega⟩)
                  refine lv_aload_n hx hb dX9_tellPar_246 rfl (lv_at hl 5 rfl) ?_
                  refine lv_iload_n hx hb dX9_tellPar_247 rfl (lv_at hl 3 rfl) ?_
                  refine lv_iconst (v := iv 5) hx hb dX9_tellPar_248 (by decide) ?_
                  refine lv_iload hx hb dX9_tellPar_249 (lv_at hl 1 rfl) ?_
                  refine sBv (sV (As := [.int (iv r_6), .int (iv 5), .int (iv ((u_15.1 11 11) * 144))]) (rest := []) (k := 11) Cx (s_X9_setFact l G (uF S60 11 11 ((S60.1 11 11) + 1)) (s0 := r_6) (q := 5) (v := (u_15.1 11 11) * 144) i_72 (by omega) (by omega) (by unfold fr8; omega) (by omega)) (c_X9_136 Cx rfl rfl (rmk_ok (by omega) (by decide))) hW (by decide) rfl rfl rfl hl.1 rfl (Nat.le_of_ble_eq_true rfl) dX9_tellPar_251 ⟨Nat.le_of_ble_eq_true rfl, Nat.le_of_ble_eq_true rfl⟩) hL (fun u_73 H locs k_74 hW hL => ?_)
                  obtain ⟨iu_73, fu_73, xu_73⟩ := k_74
                  have F_75 := F_70.trans (fu_73.to (fun k h => pT_U k (p17_T k h)))
                  have F_76 := F_71.trans (fu_73.to (fun k h => pT_U k (p17_T k h)))
                  have hT4 : TS u_73 := by rw [xu_73]; exact (hT3.of (uF_i (by decide)) (fun _ => rfl)).base
                  refine lv_aload_n hx hb dX9_tellPar_254 rfl (lv_at hl 5 rfl) ?_
                  refine lv_dup hx hb dX9_tellPar_255 rfl ?_
                  refine g_X9_89 Cx hW (k := 11) (by decide) rfl (v := S60.1 11 13) (((fu_73 11 rfl).1 13).trans (uF_ne (fun h => absurd h.2 (by decide)))) dX9_tellPar_256 ?_
                  refine lv_iconst (v := iv 1) hx hb dX9_tellPar_259 (by decide) ?_
                  refine r_iadd hx hb dX9_tellPar_260 ?_
                  obtain ⟨z_77, ez_77, hz_77, kz_77⟩ := iv_of (iv ((S60.1 11 13) + 1))
                  rw [ez_77]
                  refine p_X9_89 Cx hW hL (k := 11) (by decide) rfl dX9_tellPar_261 (fun H locs hW hL => ?_)
                  have F_78 : Fr S (uF u_73 11 13 z_77) pU := F_75.F rfl
                  have F_79 : Fr u_15 (uF u_73 11 13 z_77) pU := F_76.F rfl
                  have i_80 : cX G (uF u_73 11 13 z_77) 0 0 0 := iu_73.F rfl rfl (show (-2147483648) ≤ z_77 ∧ z_77 ≤ 2147483647 from ⟨by omega, by omega⟩)
                  refine lv_iconst (v := iv 1) hx hb dX9_tellPar_264 (by decide) ?_
                  have q_81 : 0 ≤ S60.1 11 9 ∧ S60.1 11 9 ≤ 128 := hI60.fi 11 9 9 (by decide) rfl
                  have lk_82 : (uF u_73 11 13 z_77).1 11 9 = S60.1 11 9 := (uF_ne (fun h => absurd h.2 (by decide))).trans (((fu_73 11 rfl).1 9).trans (uF_ne (fun h => absurd h.2 (by decide))))
                  exact sZret Cx hr hlk hW hL (by omega) ⟨i_80, F_78, ⟨(by omega), (by omega), fun _ => hT4.of (uF_i (by decide)) (fun _ => rfl)⟩⟩ dX9_tellPar_265
                · refine lv_aload_n hx hb dX9_tellPar_228 rfl (lv_at hl 5 rfl) ?_
                  refine lv_bipush (v := iv 7) hx hb dX9_tellPar_229 (by decide) ?_
                  refine lv_iload_n hx hb dX9_tellPar_231 rfl (lv_at hl 4 rfl) ?_
                  have q_83 : 0 ≤ S60.1 11 9 ∧ S60.1 11 9 ≤ 128 := hI60.fi 11 9 9 (by decide) rfl
                  refine sBi (sV (As := [.int (iv 7), .int (iv z_2)]) (rest := []) (k := 11) Cx (s_X9_fail l G S60 (k := 7) (tk := z_2) hI60 (by omega) (by omega)) (c_X9_132 Cx rfl rfl (rmk_ok (by omega) (by decide))) hW (by decide) rfl rfl rfl hl.1 rfl (Nat.le_of_ble_eq_true rfl) dX9_tellPar_232 ⟨Nat.le_of_ble_eq_true rfl, Nat.le_of_ble_eq_true rfl⟩) hL (fun r_86 u_84 H locs k_85 hW hL => ?_)
                  obtain ⟨iu_84, fu_84, xu_84⟩ := k_85
                  have F_87 := hFm60.trans (fu_84.to (fun k h => pT_U k (p11_T k h)))
                  have F_88 := hL60_.trans (fu_84.to (fun k h => pT_U k (p11_T k h)))
                  have q_89 : 0 ≤ u_84.1 11 9 ∧ u_84.1 11 9 ≤ 128 := iu_84.fi 11 9 9 (by decide) rfl
                  exact sZret Cx hr hlk hW hL (by omega) ⟨iu_84, F_87, ⟨(by omega), (by omega), fun q => absurd q (by omega)⟩⟩ dX9_tellPar_235
              · refine lv_aload_n hx hb dX9_tellPar_212 rfl (lv_at hl 5 rfl) ?_
                refine lv_iconst (v := iv 3) hx hb dX9_tellPar_213 (by decide) ?_
                refine lv_iload_n hx hb dX9_tellPar_214 rfl (lv_at hl 4 rfl) ?_
                have q_90 : 0 ≤ S60.1 11 9 ∧ S60.1 11 9 ≤ 128 := hI60.fi 11 9 9 (by decide) rfl
                refine sBi (sV (As := [.int (iv 3), .int (iv z_2)]) (rest := []) (k := 11) Cx (s_X9_fail l G S60 (k := 3) (tk := z_2) hI60 (by omega) (by omega)) (c_X9_132 Cx rfl rfl (rmk_ok (by omega) (by decide))) hW (by decide) rfl rfl rfl hl.1 rfl (Nat.le_of_ble_eq_true rfl) dX9_tellPar_215 ⟨Nat.le_of_ble_eq_true rfl, Nat.le_of_ble_eq_true rfl⟩) hL (fun r_93 u_91 H locs k_92 hW hL => ?_)
                obtain ⟨iu_91, fu_91, xu_91⟩ := k_92
                have F_94 := hFm60.trans (fu_91.to (fun k h => pT_U k (p11_T k h)))
                have F_95 := hL60_.trans (fu_91.to (fun k h => pT_U k (p11_T k h)))
                have q_96 : 0 ≤ u_91.1 11 9 ∧ u_91.1 11 9 ≤ 128 := iu_91.fi 11 9 9 (by decide) rfl
                exact sZret Cx hr hlk hW hL (by omega) ⟨iu_91, F_94, ⟨(by omega), (by omega), fun q => absurd q (by omega)⟩⟩ dX9_tellPar_218
            · refine lv_aload_n hx hb dX9_tellPar_88 rfl (lv_at hl 5 rfl) ?_
              refine lv_dup hx hb dX9_tellPar_89 rfl ?_
              refine g_X9_89 Cx hW (k := 11) (by decide) rfl (v := S60.1 11 13) rfl dX9_tellPar_90 ?_
              refine lv_iconst (v := iv 1) hx hb dX9_tellPar_93 (by decide) ?_
              refine r_iadd hx hb dX9_tellPar_94 ?_
              obtain ⟨z_97, ez_97, hz_97, kz_97⟩ := iv_of (iv ((S60.1 11 13) + 1))
              rw [ez_97]
              refine p_X9_89 Cx hW hL (k := 11) (by decide) rfl dX9_tellPar_95 (fun H locs hW hL => ?_)
              have F_98 : Fr S (uF S60 11 13 z_97) pU := hFm60.F rfl
              have F_99 : Fr u_15 (uF S60 11 13 z_97) pU := hL60_.F rfl
              have i_100 : cX G (uF S60 11 13 z_97) 0 0 0 := hI60.F rfl rfl (show (-2147483648) ≤ z_97 ∧ z_97 ≤ 2147483647 from ⟨by omega, by omega⟩)
              have join_119 : ∀ (bw : Int) (H : Heap) (locs : List Loc) (ls : Array Slot), (0 ≤ bw ∧ bw ≤ 1) → sW G 294 (uF S60 11 13 z_97) H → sL G locs → lv_has ls 7 [(5, .int (iv gv)), (4, .int (iv ((u_15.1 11 11) * 144))), (3, .int (iv r_23)), (2, .int (iv r_6)), (1, .int (iv z_2)), (0, .ref (G.2.2.1 + 11))] → W p l e (rmk 4 0 0) s m args below meth c H locs 0 0 (MQ below (sQi G 294 (fun r u => cX G u 0 0 0 ∧ Fr S u pU ∧ ((0 ≤ r ∧ r ≤ 1) ∧ (r = 1 → u.1 11 9 = S.1 11 9 + 1) ∧ Hd (r = 1 → TS u)))) args s 0 0 (sF G)) (F0 m 119 ls [.int (iv bw)]) := by
                intro bw H locs ls hbw hW hL hl
                refine lv_istore (lv' := [(6, .int (iv bw)), (5, .int (iv gv)), (4, .int (iv ((u_15.1 11 11) * 144))), (3, .int (iv r_23)), (2, .int (iv r_6)), (1, .int (iv z_2)), (0, .ref (G.2.2.1 + 11))]) hx hb dX9_tellPar_119 hl (by decide) rfl (fun ls hl => ?_)
                have join_190 : ∀ (S190 : sS)  (H : Heap) (locs : List Loc) (ls : Array Slot), (cX G S190 0 0 0) → (Fr S S190 pU) → (Fr u_15 S190 pU) → (Fr ((uF S60 11 13 z_97)) S190 pU) → (TS S190) → (S190.1 11 9 = S.1 11 9 + 1) → sW G 294 S190 H → sL G locs → lv_has ls 7 [(6, .int (iv bw)), (5, .int (iv gv)), (4, .int (iv ((u_15.1 11 11) * 144))), (3, .int (iv r_23)), (2, .int (iv r_6)), (1, .int (iv z_2)), (0, .ref (G.2.2.1 + 11))] → W p l e (rmk 4 0 0) s m args below meth c H locs 0 0 (MQ below (sQi G 294 (fun r u => cX G u 0 0 0 ∧ Fr S u pU ∧ ((0 ≤ r ∧ r ≤ 1) ∧ (r = 1 → u.1 11 9 = S.1 11 9 + 1) ∧ Hd (r = 1 → TS u)))) args s 0 0 (sF G)) (F0 m 190 ls []) := by
                  intro S190  H locs ls hI190 hFm190 hFL60190 hL190_ hT3 hk3 hW hL hl
                  refine lv_aload_n hx hb dX9_tellPar_190 rfl (lv_at hl 6 rfl) ?_
                  refine lv_dup hx hb dX9_tellPar_191 rfl ?_
                  have q_101 : (-2147483648) ≤ S190.1 11 13 ∧ S190.1 11 13 ≤ 2147483647 := hI190.fi 11 13 9 (by decide) rfl
                  refine g_X9_89 Cx hW (k := 11) (by decide) rfl (v := S190.1 11 13) rfl dX9_tellPar_192 ?_
                  refine lv_iconst (v := iv 1) hx hb dX9_tellPar_195 (by decide) ?_
                  refine r_iadd hx hb dX9_tellPar_196 ?_
                  obtain ⟨z_102, ez_102, hz_102, kz_102⟩ := iv_of (iv ((S190.1 11 13) + 1))
                  rw [ez_102]
                  refine p_X9_89 Cx hW hL (k := 11) (by decide) rfl dX9_tellPar_197 (fun H locs hW hL => ?_)
                  have F_103 : Fr S (uF S190 11 13 z_102) pU := hFm190.F rfl
                  have F_104 : Fr u_15 (uF S190 11 13 z_102) pU := hFL60190.F rfl
                  have F_105 : Fr ((uF S60 11 13 z_97)) (uF S190 11 13 z_102) pU := hL190_.F rfl
                  have i_106 : cX G (uF S190 11 13 z_102) 0 0 0 := hI190.F rfl rfl (show (-2147483648) ≤ z_102 ∧ z_102 ≤ 2147483647 from ⟨by omega, by omega⟩)
                  refine lv_iinc (v := iv (gv + 1)) (lv' := [(5, .int (iv (gv + 1))), (6, .int (iv bw)), (4, .int (iv ((u_15.1 11 11) * 144))), (3, .int (iv r_23)), (2, .int (iv r_6)), (1, .int (iv z_2)), (0, .ref (G.2.2.1 + 11))]) hx hb dX9_tellPar_200 hl (k := 1) rfl ((Int32.ofInt_add _ _).symm) (by decide) rfl (fun ls hl => ?_)
                  refine lv_goto (tgt := 60) hx hb dX9_tellPar_203 (by decide) ?_
                  have q_107 : 0 ≤ S190.1 11 9 ∧ S190.1 11 9 ≤ 128 := hI190.fi 11 9 9 (by decide) rfl
                  have lk_108 : (uF S190 11 13 z_102).1 11 9 = S190.1 11 9 := uF_ne (fun h => absurd h.2 (by decide))
                  exact ih_60 (uF S190 11 13 z_102) (gv + 1) _ _ _ (by omega) i_106 F_103 F_104 (by omega) (hT3.of (by omega) (fun _ => rfl)) (by omega) hW hL (lv_sub hl [0, 2, 3, 4, 5, 6] rfl)
                refine lv_iload hx hb dX9_tellPar_121 (lv_at hl 0 rfl) ?_
                refine r_if_eq (tgt := 136) hx hb ⟨(by omega), (by omega)⟩ dX9_tellPar_123 (by decide) (fun c_109 => ?_) (fun c_109 => ?_)
                · refine lv_iload hx hb dX9_tellPar_136 (lv_at hl 1 rfl) ?_
                  refine lv_iload_n hx hb dX9_tellPar_138 rfl (lv_at hl 3 rfl) ?_
                  refine r_icmp_ge (tgt := 190) hx hb ⟨(by omega), (by omega)⟩ ⟨(by omega), (by omega)⟩ dX9_tellPar_139 (by decide) (fun c_110 => ?_) (fun c_110 => ?_)
                  · have q_111 : 0 ≤ S60.1 11 9 ∧ S60.1 11 9 ≤ 128 := hI60.fi 11 9 9 (by decide) rfl
                    have lk_112 : (uF S60 11 13 z_97).1 11 9 = S60.1 11 9 := uF_ne (fun h => absurd h.2 (by decide))
                    exact join_190 (uF S60 11 13 z_97)  _ _ _ i_100 F_98 F_99 (Fr.rf : Fr (uF S60 11 13 z_97) (uF S60 11 13 z_97) pU) (hT3.of (by omega) (fun _ => rfl)) (by omega) hW hL (lv_sub hl [0, 1, 2, 3, 4, 5, 6] rfl)
                  · refine lv_iload hx hb dX9_tellPar_142 (lv_at hl 2 rfl) ?_
                    refine lv_iload hx hb dX9_tellPar_144 (lv_at hl 1 rfl) ?_
                    refine r_iadd hx hb dX9_tellPar_146 ?_
                    refine lv_aload_n hx hb dX9_tellPar_147 rfl (lv_at hl 6 rfl) ?_
                    refine g_X9_26 Cx hW (k := 11) (by decide) rfl (v := .ref (G.2.2.1 + 18)) (rf_11_3 i_100) dX9_tellPar_148 ?_
                    refine sAlen Cx hW (k := 18) (by decide) rfl 0 rfl dX9_tellPar_151 ?_
                    refine r_icmp_ge (tgt := 190) hx hb ⟨(by omega), (by omega)⟩ ⟨(by omega), (by omega)⟩ dX9_tellPar_152 (by decide) (fun c_113 => ?_) (fun c_113 => ?_)
                    · have q_114 : 0 ≤ S60.1 11 9 ∧ S60.1 11 9 ≤ 128 := hI60.fi 11 9 9 (by decide) rfl
                      have lk_115 : (uF S60 11 13 z_97).1 11 9 = S60.1 11 9 := uF_ne (fun h => absurd h.2 (by decide))
                      exact join_190 (uF S60 11 13 z_97)  _ _ _ i_100 F_98 F_99 (Fr.rf : Fr (uF S60 11 13 z_97) (uF S60 11 13 z_97) pU) (hT3.of (by omega) (fun _ => rfl)) (by omega) hW hL (lv_sub hl [0, 1, 2, 3, 4, 5, 6] rfl)
                    · refine lv_aload_n hx hb dX9_tellPar_155 rfl (lv_at hl 6 rfl) ?_
                      refine g_X9_26 Cx hW (k := 11) (by decide) rfl (v := .ref (G.2.2.1 + 18)) (rf_11_3 i_100) dX9_tellPar_156 ?_
                      refine lv_iload hx hb dX9_tellPar_159 (lv_at hl 2 rfl) ?_
                      refine lv_iload hx hb dX9_tellPar_161 (lv_at hl 1 rfl) ?_
                      refine r_iadd hx hb dX9_tellPar_163 ?_
                      refine lv_iload hx hb dX9_tellPar_164 (lv_at hl 0 rfl) ?_
                      refine r_if_eq (tgt := 181) hx hb ⟨(by omega), (by omega)⟩ dX9_tellPar_166 (by decide) (fun c_116 => ?_) (fun c_116 => ?_)
                      · refine lv_aload_n hx hb dX9_tellPar_181 rfl (lv_at hl 6 rfl) ?_
                        refine lv_aload_n hx hb dX9_tellPar_182 rfl (lv_at hl 6 rfl) ?_
                        refine g_X9_89 Cx hW (k := 11) (by decide) rfl (v := z_97) uF_on dX9_tellPar_183 ?_
                        refine sBi (sV (As := [.int (iv z_97)]) (rest := [.int (iv (((u_15.1 11 11) * 144) + gv)), .ref (G.2.2.1 + 18)]) (k := 11) Cx (s_X9_number l G (uF S60 11 13 z_97) (tk := z_97) i_100 (by omega) (SG.fr F_98 rfl rfl rfl hsg)) (c_X9_143 Cx rfl rfl (rmk_ok (by omega) (by decide))) hW (by decide) rfl rfl rfl hl.1 rfl (Nat.le_of_ble_eq_true rfl) dX9_tellPar_186 ⟨Nat.le_of_ble_eq_true rfl, Nat.le_of_ble_eq_true rfl⟩) hL (fun r_119 u_117 H locs k_118 hW hL => ?_)
                        obtain ⟨eu_117, xu_117⟩ := k_118
                        rw [eu_117] at hW
                        refine rIast Cx hW hL (k := 18) (by decide) rfl (by decide) (by omega) (by omega) dX9_tellPar_189 (fun H locs hW hL => ?_)
                        have F_120 : Fr S (uA (uF S60 11 13 z_97) 18 (((u_15.1 11 11) * 144) + gv) r_119) pU := F_98.A rfl
                        have F_121 : Fr u_15 (uA (uF S60 11 13 z_97) 18 (((u_15.1 11 11) * 144) + gv) r_119) pU := F_99.A rfl
                        have F_122 : Fr ((uF S60 11 13 z_97)) (uA (uF S60 11 13 z_97) 18 (((u_15.1 11 11) * 144) + gv) r_119) pU := (Fr.rf : Fr (uF S60 11 13 z_97) (uF S60 11 13 z_97) pU).A rfl
                        have i_123 : cX G (uA (uF S60 11 13 z_97) 18 (((u_15.1 11 11) * 144) + gv) r_119) 0 0 0 := i_100.A (by decide) (by decide) (by decide) (show (-2147483648) ≤ r_119 ∧ r_119 ≤ 2147483647 from ⟨by omega, by omega⟩)
                        have q_124 : 0 ≤ S60.1 11 9 ∧ S60.1 11 9 ≤ 128 := hI60.fi 11 9 9 (by decide) rfl
                        have lk_125 : (uA (uF S60 11 13 z_97) 18 (((u_15.1 11 11) * 144) + gv) r_119).1 11 9 = S60.1 11 9 := (uA_f).trans (uF_ne (fun h => absurd h.2 (by decide)))
                        exact join_190 (uA (uF S60 11 13 z_97) 18 (((u_15.1 11 11) * 144) + gv) r_119)  _ _ _ i_123 F_120 F_121 F_122 (hT3.of (by omega) (fun _ => rfl)) (by omega) hW hL (lv_sub hl [0, 1, 2, 3, 4, 5, 6] rfl)
                      · refine lv_aload_n hx hb dX9_tellPar_169 rfl (lv_at hl 6 rfl) ?_
                        refine lv_aload_n hx hb dX9_tellPar_170 rfl (lv_at hl 6 rfl) ?_
                        refine g_X9_89 Cx hW (k := 11) (by decide) rfl (v := z_97) uF_on dX9_tellPar_171 ?_
                        refine sBi (sV (As := [.int (iv z_97)]) (rest := [.int (iv (((u_15.1 11 11) * 144) + gv)), .ref (G.2.2.1 + 18)]) (k := 11) Cx (s_X9_number l G (uF S60 11 13 z_97) (tk := z_97) i_100 (by omega) (SG.fr F_98 rfl rfl rfl hsg)) (c_X9_143 Cx rfl rfl (rmk_ok (by omega) (by decide))) hW (by decide) rfl rfl rfl hl.1 rfl (Nat.le_of_ble_eq_true rfl) dX9_tellPar_174 ⟨Nat.le_of_ble_eq_true rfl, Nat.le_of_ble_eq_true rfl⟩) hL (fun r_128 u_126 H locs k_127 hW hL => ?_)
                        obtain ⟨eu_126, xu_126⟩ := k_127
                        rw [eu_126] at hW
                        refine r_ineg hx hb dX9_tellPar_177 ?_
                        refine lv_goto (tgt := 189) hx hb dX9_tellPar_178 (by decide) ?_
                        refine rIast Cx hW hL (k := 18) (by decide) rfl (by decide) (by omega) (by omega) dX9_tellPar_189 (fun H locs hW hL => ?_)
                        have F_129 : Fr S (uA (uF S60 11 13 z_97) 18 (((u_15.1 11 11) * 144) + gv) (-r_128)) pU := F_98.A rfl
                        have F_130 : Fr u_15 (uA (uF S60 11 13 z_97) 18 (((u_15.1 11 11) * 144) + gv) (-r_128)) pU := F_99.A rfl
                        have F_131 : Fr ((uF S60 11 13 z_97)) (uA (uF S60 11 13 z_97) 18 (((u_15.1 11 11) * 144) + gv) (-r_128)) pU := (Fr.rf : Fr (uF S60 11 13 z_97) (uF S60 11 13 z_97) pU).A rfl
                        have i_132 : cX G (uA (uF S60 11 13 z_97) 18 (((u_15.1 11 11) * 144) + gv) (-r_128)) 0 0 0 := i_100.A (by decide) (by decide) (by decide) (show (-2147483648) ≤ -r_128 ∧ -r_128 ≤ 2147483647 from ⟨by omega, by omega⟩)
                        have q_133 : 0 ≤ S60.1 11 9 ∧ S60.1 11 9 ≤ 128 := hI60.fi 11 9 9 (by decide) rfl
                        have lk_134 : (uA (uF S60 11 13 z_97) 18 (((u_15.1 11 11) * 144) + gv) (-r_128)).1 11 9 = S60.1 11 9 := (uA_f).trans (uF_ne (fun h => absurd h.2 (by decide)))
                        exact join_190 (uA (uF S60 11 13 z_97) 18 (((u_15.1 11 11) * 144) + gv) (-r_128))  _ _ _ i_132 F_129 F_130 F_131 (hT3.of (by omega) (fun _ => rfl)) (by omega) hW hL (lv_sub hl [0, 1, 2, 3, 4, 5, 6] rfl)
                · refine lv_aload_n hx hb dX9_tellPar_126 rfl (lv_at hl 6 rfl) ?_
                  refine lv_dup hx hb dX9_tellPar_127 rfl ?_
                  refine g_X9_89 Cx hW (k := 11) (by decide) rfl (v := z_97) uF_on dX9_tellPar_128 ?_
                  refine lv_iconst (v := iv 1) hx hb dX9_tellPar_131 (by decide) ?_
                  refine r_iadd hx hb dX9_tellPar_132 ?_
                  obtain ⟨z_135, ez_135, hz_135, kz_135⟩ := iv_of (iv (z_97 + 1))
                  rw [ez_135]
                  refine p_X9_89 Cx hW hL (k := 11) (by decide) rfl dX9_tellPar_133 (fun H locs hW hL => ?_)
                  have F_136 : Fr S (uF (uF S60 11 13 z_97) 11 13 z_135) pU := F_98.F rfl
                  have F_137 : Fr u_15 (uF (uF S60 11 13 z_97) 11 13 z_135) pU := F_99.F rfl
                  have F_138 : Fr ((uF S60 11 13 z_97)) (uF (uF S60 11 13 z_97) 11 13 z_135) pU := (Fr.rf : Fr (uF S60 11 13 z_97) (uF S60 11 13 z_97) pU).F rfl
                  have i_139 : cX G (uF (uF S60 11 13 z_97) 11 13 z_135) 0 0 0 := i_100.F rfl rfl (show (-2147483648) ≤ z_135 ∧ z_135 ≤ 2147483647 from ⟨by omega, by omega⟩)
                  refine lv_iload hx hb dX9_tellPar_136 (lv_at hl 1 rfl) ?_
                  refine lv_iload_n hx hb dX9_tellPar_138 rfl (lv_at hl 3 rfl) ?_
                  refine r_icmp_ge (tgt := 190) hx hb ⟨(by omega), (by omega)⟩ ⟨(by omega), (by omega)⟩ dX9_tellPar_139 (by decide) (fun c_140 => ?_) (fun c_140 => ?_)
                  · have q_141 : 0 ≤ S60.1 11 9 ∧ S60.1 11 9 ≤ 128 := hI60.fi 11 9 9 (by decide) rfl
                    have lk_142 : (uF (uF S60 11 13 z_97) 11 13 z_135).1 11 9 = S60.1 11 9 := (uF_ne (fun h => absurd h.2 (by decide))).trans (uF_ne (fun h => absurd h.2 (by decide)))
                    exact join_190 (uF (uF S60 11 13 z_97) 11 13 z_135)  _ _ _ i_139 F_136 F_137 F_138 (hT3.of (by omega) (fun _ => rfl)) (by omega) hW hL (lv_sub hl [0, 1, 2, 3, 4, 5, 6] rfl)
                  · refine lv_iload hx hb dX9_tellPar_142 (lv_at hl 2 rfl) ?_
                    refine lv_iload hx hb dX9_tellPar_144 (lv_at hl 1 rfl) ?_
                    refine r_iadd hx hb dX9_tellPar_146 ?_
                    refine lv_aload_n hx hb dX9_tellPar_147 rfl (lv_at hl 6 rfl) ?_
                    refine g_X9_26 Cx hW (k := 11) (by decide) rfl (v := .ref (G.2.2.1 + 18)) (rf_11_3 i_139) dX9_tellPar_148 ?_
                    refine sAlen Cx hW (k := 18) (by decide) rfl 0 rfl dX9_tellPar_151 ?_
                    refine r_icmp_ge (tgt := 190) hx hb ⟨(by omega), (by omega)⟩ ⟨(by omega), (by omega)⟩ dX9_tellPar_152 (by decide) (fun c_143 => ?_) (fun c_143 => ?_)
                    · have q_144 : 0 ≤ S60.1 11 9 ∧ S60.1 11 9 ≤ 128 := hI60.fi 11 9 9 (by decide) rfl
                      have lk_145 : (uF (uF S60 11 13 z_97) 11 13 z_135).1 11 9 = S60.1 11 9 := (uF_ne (fun h => absurd h.2 (by decide))).trans (uF_ne (fun h => absurd h.2 (by decide)))
                      exact join_190 (uF (uF S60 11 13 z_97) 11 13 z_135)  _ _ _ i_139 F_136 F_137 F_138 (hT3.of (by omega) (fun _ => rfl)) (by omega) hW hL (lv_sub hl [0, 1, 2, 3, 4, 5, 6] rfl)
                    · refine lv_aload_n hx hb dX9_tellPar_155 rfl (lv_at hl 6 rfl) ?_
                      refine g_X9_26 Cx hW (k := 11) (by decide) rfl (v := .ref (G.2.2.1 + 18)) (rf_11_3 i_139) dX9_tellPar_156 ?_
                      refine lv_iload hx hb dX9_tellPar_159 (lv_at hl 2 rfl) ?_
                      refine lv_iload hx hb dX9_tellPar_161 (lv_at hl 1 rfl) ?_
                      refine r_iadd hx hb dX9_tellPar_163 ?_
                      refine lv_iload hx hb dX9_tellPar_164 (lv_at hl 0 rfl) ?_
                      refine r_if_eq (tgt := 181) hx hb ⟨(by omega), (by omega)⟩ dX9_tellPar_166 (by decide) (fun c_146 => ?_) (fun c_146 => ?_)
                      · refine lv_aload_n hx hb dX9_tellPar_181 rfl (lv_at hl 6 rfl) ?_
                        refine lv_aload_n hx hb dX9_tellPar_182 rfl (lv_at hl 6 rfl) ?_
                        refine g_X9_89 Cx hW (k := 11) (by decide) rfl (v := z_135) uF_on dX9_tellPar_183 ?_
                        refine sBi (sV (As := [.int (iv z_135)]) (rest := [.int (iv (((u_15.1 11 11) * 144) + gv)), .ref (G.2.2.1 + 18)]) (k := 11) Cx (s_X9_number l G (uF (uF S60 11 13 z_97) 11 13 z_135) (tk := z_135) i_139 (by omega) (SG.fr F_136 rfl rfl rfl hsg)) (c_X9_143 Cx rfl rfl (rmk_ok (by omega) (by decide))) hW (by decide) rfl rfl rfl hl.1 rfl (Nat.le_of_ble_eq_true rfl) dX9_tellPar_186 ⟨Nat.le_of_ble_eq_true rfl, Nat.le_of_ble_eq_true rfl⟩) hL (fun r_149 u_147 H locs k_148 hW hL => ?_)
                        obtain ⟨eu_147, xu_147⟩ := k_148
                        rw [eu_147] at hW
                        refine rIast Cx hW hL (k := 18) (by decide) rfl (by decide) (by omega) (by omega) dX9_tellPar_189 (fun H locs hW hL => ?_)
                        have F_150 : Fr S (uA (uF (uF S60 11 13 z_97) 11 13 z_135) 18 (((u_15.1 11 11) * 144) + gv) r_149) pU := F_136.A rfl
                        have F_151 : Fr u_15 (uA (uF (uF S60 11 13 z_97) 11 13 z_135) 18 (((u_15.1 11 11) * 144) + gv) r_149) pU := F_137.A rfl
                        have F_152 : Fr ((uF S60 11 13 z_97)) (uA (uF (uF S60 11 13 z_97) 11 13 z_135) 18 (((u_15.1 11 11) * 144) + gv) r_149) pU := F_138.A rfl
                        have i_153 : cX G (uA (uF (uF S60 11 13 z_97) 11 13 z_135) 18 (((u_15.1 11 11) * 144) + gv) r_149) 0 0 0 := i_139.A (by decide) (by decide) (by decide) (show (-2147483648) ≤ r_149 ∧ r_149 ≤ 2147483647 from ⟨by omega, by omega⟩)
                        have q_154 : 0 ≤ S60.1 11 9 ∧ S60.1 11 9 ≤ 128 := hI60.fi 11 9 9 (by decide) rfl
                        have lk_155 : (uA (uF (uF S60 11 13 z_97) 11 13 z_135) 18 (((u_15.1 11 11) * 144) + gv) r_149).1 11 9 = S60.1 11 9 := (uA_f).trans ((uF_ne (fun h => absurd h.2 (by decide))).trans (uF_ne (fun h => absurd h.2 (by decide))))
                        exact join_190 (uA (uF (uF S60 11 13 z_97) 11 13 z_135) 18 (((u_15.1 11 11) * 144) + gv) r_149)  _ _ _ i_153 F_150 F_151 F_152 (hT3.of (by omega) (fun _ => rfl)) (by omega) hW hL (lv_sub hl [0, 1, 2, 3, 4, 5, 6] rfl)
                      · refine lv_aload_n hx hb dX9_tellPar_169 rfl (lv_at hl 6 rfl) ?_
                        refine lv_aload_n hx hb dX9_tellPar_170 rfl (lv_at hl 6 rfl) ?_
                        refine g_X9_89 Cx hW (k := 11) (by decide) rfl (v := z_135) uF_on dX9_tellPar_171 ?_
                        refine sBi (sV (As := [.int (iv z_135)]) (rest := [.int (iv (((u_15.1 11 11) * 144) + gv)), .ref (G.2.2.1 + 18)]) (k := 11) Cx (s_X9_number l G (uF (uF S60 11 13 z_97) 11 13 z_135) (tk := z_135) i_139 (by omega) (SG.fr F_136 rfl rfl rfl hsg)) (c_X9_143 Cx rfl rfl (rmk_ok (by omega) (by decide))) hW (by decide) rfl rfl rfl hl.1 rfl (Nat.le_of_ble_eq_true rfl) dX9_tellPar_174 ⟨Nat.le_of_ble_eq_true rfl, Nat.le_of_ble_eq_true rfl⟩) hL (fun r_158 u_156 H locs k_157 hW hL => ?_)
                        obtain ⟨eu_156, xu_156⟩ := k_157
                        rw [eu_156] at hW
                        refine r_ineg hx hb dX9_tellPar_177 ?_
                        refine lv_goto (tgt := 189) hx hb dX9_tellPar_178 (by decide) ?_
                        refine rIast Cx hW hL (k := 18) (by decide) rfl (by decide) (by omega) (by omega) dX9_tellPar_189 (fun H locs hW hL => ?_)
                        have F_159 : Fr S (uA (uF (uF S60 11 13 z_97) 11 13 z_135) 18 (((u_15.1 11 11) * 144) + gv) (-r_158)) pU := F_136.A rfl
                        have F_160 : Fr u_15 (uA (uF (uF S60 11 13 z_97) 11 13 z_135) 18 (((u_15.1 11 11) * 144) + gv) (-r_158)) pU := F_137.A rfl
                        have F_161 : Fr ((uF S60 11 13 z_97)) (uA (uF (uF S60 11 13 z_97) 11 13 z_135) 18 (((u_15.1 11 11) * 144) + gv) (-r_158)) pU := F_138.A rfl
                        have i_162 : cX G (uA (uF (uF S60 11 13 z_97) 11 13 z_135) 18 (((u_15.1 11 11) * 144) + gv) (-r_158)) 0 0 0 := i_139.A (by decide) (by decide) (by decide) (show (-2147483648) ≤ -r_158 ∧ -r_158 ≤ 2147483647 from ⟨by omega, by omega⟩)
                        have q_163 : 0 ≤ S60.1 11 9 ∧ S60.1 11 9 ≤ 128 := hI60.fi 11 9 9 (by decide) rfl
                        have lk_164 : (uA (uF (uF S60 11 13 z_97) 11 13 z_135) 18 (((u_15.1 11 11) * 144) + gv) (-r_158)).1 11 9 = S60.1 11 9 := (uA_f).trans ((uF_ne (fun h => absurd h.2 (by decide))).trans (uF_ne (fun h => absurd h.2 (by decide))))
                        exact join_190 (uA (uF (uF S60 11 13 z_97) 11 13 z_135) 18 (((u_15.1 11 11) * 144) + gv) (-r_158))  _ _ _ i_162 F_159 F_160 F_161 (hT3.of (by omega) (fun _ => rfl)) (by omega) hW hL (lv_sub hl [0, 1, 2, 3, 4, 5, 6] rfl)
              refine lv_aload_n hx hb dX9_tellPar_98 rfl (lv_at hl 5 rfl) ?_
              refine g_X9_14 Cx hW (k := 11) (by decide) rfl (v := .ref (G.2.2.1 + 12)) (rf_11_0 i_100) dX9_tellPar_99 ?_
              refine lv_aload_n hx hb dX9_tellPar_102 rfl (lv_at hl 5 rfl) ?_
              refine g_X9_89 Cx hW (k := 11) (by decide) rfl (v := z_97) uF_on dX9_tellPar_103 ?_
              refine sBi (sV (As := [.int (iv z_97)]) (rest := []) (k := 12) Cx (s_X8_kind l G (uF S60 11 13 z_97) (k := z_97) i_100 (by omega)) (c_X9_95 Cx rfl rfl (rmk_ok (by omega) (by decide))) hW (by decide) rfl rfl rfl hl.1 rfl (Nat.le_of_ble_eq_true rfl) dX9_tellPar_106 ⟨Nat.le_of_ble_eq_true rfl, Nat.le_of_ble_eq_true rfl⟩) hL (fun r_167 u_165 H locs k_166 hW hL => ?_)
              obtain ⟨eu_165, xu_165⟩ := k_166
              rw [eu_165] at hW
              refine lv_bipush (v := iv 22) hx hb dX9_tellPar_109 (by decide) ?_
              refine r_icmp_ne (tgt := 118) hx hb ⟨(by omega), (by omega)⟩ ⟨(by omega), (by omega)⟩ dX9_tellPar_111 (by decide) (fun c_168 => ?_) (fun c_168 => ?_)
              · refine lv_iconst (v := iv 0) hx hb dX9_tellPar_118 (by decide) ?_
                exact join_119 0 _ _ _ (by omega) hW hL (lv_sub hl [0, 1, 2, 3, 4, 5] rfl)
              · refine lv_iconst (v := iv 1) hx hb dX9_tellPar_114 (by decide) ?_
                refine lv_goto (tgt := 119) hx hb dX9_tellPar_115 (by decide) ?_
                exact join_119 1 _ _ _ (by omega) hW hL (lv_sub hl [0, 1, 2, 3, 4, 5] rfl)
      exact loop_60 (_ + 1) u_15 0 _ _ _ (Nat.lt_succ_self _) iu_15 F_18 Fr.rf (by omega) hT3 (by omega) hW hL (lv_sub hl [0, 1, 2, 3, 4, 5] rfl)
    · refine lv_iconst (v := iv 0) hx hb dX9_tellPar_39 (by decide) ?_
      have q_169 : 0 ≤ u_15.1 11 9 ∧ u_15.1 11 9 ≤ 128 := iu_15.fi 11 9 9 (by decide) rfl
      exact sZret Cx hr hlk hW hL (by omega) ⟨iu_15, F_18, ⟨(by omega), (by omega), fun q => absurd q (by omega)⟩⟩ dX9_tellPar_40
  · refine lv_iconst (v := iv 0) hx hb dX9_tellPar_19 (by decide) ?_
    have q_170 : 0 ≤ u_4.1 11 9 ∧ u_4.1 11 9 ≤ 128 := iu_4.fi 11 9 9 (by decide) rfl
    exact sZret Cx hr hlk hW hL (by omega) ⟨iu_4, F_7, ⟨(by omega), (by omega), fun q => absurd q (by omega)⟩⟩ dX9_tellPar_20
