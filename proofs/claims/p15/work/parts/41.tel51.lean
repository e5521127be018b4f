def pI (k : Nat) : Bool := rgB 5 118 k || rgB 185 187 k || rgB 228 230 k
theorem pI_i {k : Nat} (h : (5 ≤ k ∧ k ≤ 118) ∨ (185 ≤ k ∧ k ≤ 187) ∨ (228 ≤ k ∧ k ≤ 230)) : pI k = true := by
  rw [pI]
  rcases h with h | h | h
  · rw [rgB_i h]; rfl
  · rw [rgB_i h, Bool.or_true]; rfl
  · rw [rgB_i h, Bool.or_true]
theorem pG_I : ∀ k, pG k = true → pI k = true := fun k h => by
  simp only [pG, Bool.or_eq_true] at h
  exact pI_i (by rcases h with ((h | h) | h) | h <;> (have := rgB_t h; omega))
theorem pQ_I : ∀ k, pQ k = true → pI k = true := fun k h => by
  have := rgB_t h
  exact pI_i (by omega)
theorem pI_C : ∀ k, pI k = true → pC k = true := fun k h => by
  simp only [pI, Bool.or_eq_true] at h
  rw [pC, rgB_i (a := 3) (b := 230) (by rcases h with (h | h) | h <;> (have := rgB_t h; omega)), Bool.or_true]
theorem cX.putR {G : sG} {S : sS} {x y : Nat} {b : Int} {K I ci : Nat} {v : Value} (h : cX G S x y b) (hK : tau K = .inl ci) (hc : ci ≠ 0 ∧ ci ≠ 10 ∧ ci ≠ 3) (nf : ∀ q ∈ rfL, ¬ (q.1 = K ∧ q.2.1 = I)) (rm : RM G (uR S K I v)) : cX G (uR S K I v) x y b := by
  have eo : ∀ k i, ¬ (k = K ∧ i = I) → (uR S K I v).2.2.2 k i = S.2.2.2 k i := fun k i q => uR_ne q
  have nt : ∀ {o cj : Nat}, tau o = .inl cj → ci ≠ cj → ∀ i, ¬ (o = K ∧ i = I) := fun ho hc i e => by rw [e.1, hK] at ho; cases ho; exact hc rfl
  have na : ∀ {o : Nat} {t : FieldType × Nat}, tau o = .inr t → ∀ i, ¬ (o = K ∧ i = I) := fun ho i e => by rw [e.1, hK] at ho; cases ho
  refine ⟨h.1, ⟨fun q hq => by rw [eo _ _ (nf q hq)]; exact h.ri q hq, ⟨fun o ho => by rw [eo _ _ (nt ho hc.1 _)]; exact h.rq.1 o ho, fun o hl ho => by rw [eo _ _ (nt ho hc.2.1 _)]; exact h.rq.2.1 o hl ho, fun o hl ho => by rw [eo _ _ (nt ho hc.2.2 _), eo _ _ (nt ho hc.2.2 _)]; exact h.rq.2.2 o hl ho⟩, fun i hi => by
    rw [eo 19 i (na (show tau 19 = .inr (.array .long, 31) from rfl) i), eo 51 i (na (show tau 51 = .inr (.array .long, 31) from rfl) i), eo 83 i (na (show tau 83 = .inr (.array .long, 31) from rfl) i)]; exact h.r2 i hi, rm⟩, h.nb, h.ns, h.ub, h.ko⟩
theorem cX.mod11 {G : sG} {S : sS} {x y : Nat} {b : Int} {o : Nat} (h : cX G S x y b) (m : mdl o) : cX G (uR S 11 8 (.ref (G.2.2.1 + o))) x y b := by
  have eo : ∀ k i, ¬ (k = 11 ∧ i = 8) → (uR S 11 8 (.ref (G.2.2.1 + o))).2.2.2 k i = S.2.2.2 k i := fun k i q => uR_ne q
  obtain ⟨m1, ⟨m2, m3, m4⟩, ⟨m5, m6, m7⟩, ⟨m8, m9, m10⟩, m11, m12⟩ := h.rm
  refine h.putR (show tau 11 = .inl 9 from rfl) (by decide) (by decide) ⟨?_, ⟨o, m, uR_on⟩, ⟨m5, m6, by rw [eo _ _ (by decide)]; exact m7⟩, ⟨m8, m9, by rw [eo _ _ (by decide)]; exact m10⟩, ?_, ?_⟩
  · rw [eo _ _ (by decide), eo _ _ (by decide)]; exact m1
  · rw [eo _ _ (by decide), eo _ _ (by decide)]; exact m11
  · rw [eo _ _ (by decide)]; exact m12
set_option maxRecDepth 100000 in
set_option maxHeartbeats 4000000 in
theorem s_X9_tellOneRow (l : Launch) (G : sG) (S : sS) {nm : Int} (hI : cX G S 0 0 0) (hnm : -2147483648 ≤ nm ∧ nm ≤ 2147483647) (hsg : SG S) (hTS : TS S) : Met l yX9_tellOneRow (.code yX9_tellOneRow cX9_tellOneRow 5 (some .boolean) :: tb) (rmk 133 0 0) (sPc G 294 S [.ref (G.2.2.1 + 11), .int (iv nm)]) (sQi G 294 (fun r u => cX G u 0 0 0 ∧ Fr S u pG ∧ ((0 ≤ r ∧ r ≤ 1) ∧ Hd (r = 1 → TK S u)))) 0 0 (sF G) := by
  refine sEnter (by decide) (Nat.le_of_ble_eq_true rfl) ?_
  intro p e s m args below meth c Cx hr hlk hnm hW ls hl
  have Cx : sC G p m c cX9_tellOneRow 5 s args RX9 := Cx
  obtain ⟨hx, hb, hml, hown, hts⟩ := id Cx.1
  have hL : sL G [] := sL_nil
  have hl : lv_has ls 5 [(0, .ref (G.2.2.1 + 11)), (1, .int (iv nm))] := hl
  have hW0 := hW
  have tk_0 : TK S S := TK.rf hTS
  have hkn : 0 ≤ S.1 11 9 ∧ S.1 11 9 ≤ 128 := hI.fi 11 9 9 (by decide) rfl
  refine lv_aload_n hx hb dX9_tellOneRow_0 rfl (lv_at hl 0 rfl) ?_
  refine lv_iconst (v := iv 0) hx hb dX9_tellOneRow_1 (by decide) ?_
  refine sBi (sV (As := [.int (iv 0)]) (rest := []) (k := 11) Cx ((tel_expr l G) S hI hsg tk_0.1) (c_X9_166 Cx rfl rfl (rmk_ok (by omega) (by decide))) hW (by decide) rfl rfl rfl hl.1 rfl (Nat.le_of_ble_eq_true rfl) dX9_tellOneRow_2 ⟨Nat.le_of_ble_eq_true rfl, Nat.le_of_ble_eq_true rfl⟩) hL (fun r_3 u_1 H locs k_2 hW hL => ?_)
  obtain ⟨iu_1, fu_1, xu_1⟩ := k_2
  have F_4 := (Fr.rf : Fr S S pG).trans (fu_1.to pV_G)
  refine r_if_ne (tgt := 10) hx hb ⟨(by omega), (by omega)⟩ dX9_tellOneRow_5 (by decide) (fun c_5 => ?_) (fun c_5 => ?_)
  · refine lv_aload_n hx hb dX9_tellOneRow_10 rfl (lv_at hl 0 rfl) ?_
    refine g_X9_31 Cx hW (k := 11) (by decide) rfl (v := .ref (G.2.2.1 + 19)) (rf_11_4 iu_1) dX9_tellOneRow_11 ?_
    refine lv_iconst (v := iv 0) hx hb dX9_tellOneRow_14 (by decide) ?_
    obtain ⟨o_6, mo_6, eo_6⟩ := r2_19 iu_1 (i := 0) (by omega) (by omega)
    refine rAald Cx hW (k := 19) (by decide) rfl (by decide) (by omega) (by omega) eo_6 dX9_tellOneRow_15 ?_
    refine lv_iconst (v := iv 0) hx hb dX9_tellOneRow_16 (by decide) ?_
    refine lv_aload_n hx hb dX9_tellOneRow_17 rfl (lv_at hl 0 rfl) ?_
    refine g_X9_40 Cx hW (k := 11) (by decide) rfl (v := .ref (G.2.2.1 + 115)) (rf_11_7 iu_1) dX9_tellOneRow_18 ?_
    refine lv_iconst (v := iv 0) hx hb dX9_tellOneRow_21 (by decide) ?_
    refine lv_bipush (v := iv 13) hx hb dX9_tellOneRow_22 (by decide) ?_
    refine rCopyL Cx hW hL (hml.trans hl.1.symm) w_1087 w_1089 w_1088 w_224 (k0 := o_6) (k1 := 115) (lr_l mo_6) mo_6.1 (by decide) rfl (by decide) (by decide) (by omega) (by omega) (by omega) (by omega) (by omega) (rmk_f (by omega)) (rmk_l (by omega) (by decide)) dX9_tellOneRow_24 (fun H locs hW hL => ?_)
    have tk_7 := TK.trans tk_0 (xu_1.2 (by omega))
    have F_8 : Fr S (uD u_1 o_6 0 115 0 13) pG := F_4.D rfl
    have i_9 : cX G (uD u_1 o_6 0 115 0 13) 0 0 0 := iu_1.D (lr_k mo_6)
    have tk_10 : TK S (uD u_1 o_6 0 115 0 13) := tk_7.of rfl (fun _ => rfl)
    refine lv_aload_n hx hb dX9_tellOneRow_27 rfl (lv_at hl 0 rfl) ?_
    have q_11 : (-2147483648) ≤ u_1.1 11 13 ∧ u_1.1 11 13 ≤ 2147483647 := iu_1.fi 11 13 9 (by decide) rfl
    refine g_X9_89 Cx hW (k := 11) (by decide) rfl (v := u_1.1 11 13) uD_f dX9_tellOneRow_28 ?_
    refine lv_istore_n (lv' := [(2, .int (iv (u_1.1 11 13))), (0, .ref (G.2.2.1 + 11)), (1, .int (iv nm))]) hx hb dX9_tellOneRow_31 rfl hl (by decide) rfl (fun ls hl => ?_)
    refine lv_aload_n hx hb dX9_tellOneRow_32 rfl (lv_at hl 1 rfl) ?_
    refine lv_dup hx hb dX9_tellOneRow_33 rfl ?_
    refine g_X9_89 Cx hW (k := 11) (by decide) rfl (v := u_1.1 11 13) uD_f dX9_tellOneRow_34 ?_
    refine lv_iconst (v := iv 1) hx hb dX9_tellOneRow_37 (by decide) ?_
    refine r_iadd hx hb dX9_tellOneRow_38 ?_
    obtain ⟨z_12, ez_12, hz_12, kz_12⟩ := iv_of (iv ((u_1.1 11 13) + 1))
    rw [ez_12]
    refine p_X9_89 Cx hW hL (k := 11) (by decide) rfl dX9_tellOneRow_39 (fun H locs hW hL => ?_)
    have F_13 : Fr S (uF (uD u_1 o_6 0 115 0 13) 11 13 z_12) pG := F_8.F rfl
    have i_14 : cX G (uF (uD u_1 o_6 0 115 0 13) 11 13 z_12) 0 0 0 := i_9.F rfl rfl (show (-2147483648) ≤ z_12 ∧ z_12 ≤ 2147483647 from ⟨by omega, by omega⟩)
    have tk_15 : TK S (uF (uD u_1 o_6 0 115 0 13) 11 13 z_12) := tk_10.F (by decide)
    refine lv_aload_n hx hb dX9_tellOneRow_42 rfl (lv_at hl 1 rfl) ?_
    refine lv_iconst (v := iv 0) hx hb dX9_tellOneRow_43 (by decide) ?_
    refine sBi (sV (As := [.int (iv 0)]) (rest := []) (k := 11) Cx ((tel_expr l G) (uF (uD u_1 o_6 0 115 0 13) 11 13 z_12) i_14 (SG.fr F_13 rfl rfl rfl hsg) tk_15.1) (c_X9_166 Cx rfl rfl (rmk_ok (by omega) (by decide))) hW (by decide) rfl rfl rfl hl.1 rfl (Nat.le_of_ble_eq_true rfl) dX9_tellOneRow_44 ⟨Nat.le_of_ble_eq_true rfl, Nat.le_of_ble_eq_true rfl⟩) hL (fun r_18 u_16 H locs k_17 hW hL => ?_)
    obtain ⟨iu_16, fu_16, xu_16⟩ := k_17
    have F_19 := F_13.trans (fu_16.to pV_G)
    refine r_if_ne (tgt := 52) hx hb ⟨(by omega), (by omega)⟩ dX9_tellOneRow_47 (by decide) (fun c_20 => ?_) (fun c_20 => ?_)
    · refine lv_aload_n hx hb dX9_tellOneRow_52 rfl (lv_at hl 1 rfl) ?_
      refine g_X9_40 Cx hW (k := 11) (by decide) rfl (v := .ref (G.2.2.1 + 115)) (rf_11_7 iu_16) dX9_tellOneRow_53 ?_
      refine lv_aload_n hx hb dX9_tellOneRow_56 rfl (lv_at hl 1 rfl) ?_
      refine g_X9_31 Cx hW (k := 11) (by decide) rfl (v := .ref (G.2.2.1 + 19)) (rf_11_4 iu_16) dX9_tellOneRow_57 ?_
      refine lv_iconst (v := iv 0) hx hb dX9_tellOneRow_60 (by decide) ?_
      obtain ⟨o_21, mo_21, eo_21⟩ := r2_19 iu_16 (i := 0) (by omega) (by omega)
      refine rAald Cx hW (k := 19) (by decide) rfl (by decide) (by omega) (by omega) eo_21 dX9_tellOneRow_61 ?_
      refine lv_iconst (v := iv (-1)) hx hb dX9_tellOneRow_62 (by decide) ?_
      have tk_22 := TK.trans tk_15 (xu_16.2 (by omega))
      refine sBv (sSt (As := [.ref (G.2.2.1 + 115), .ref (G.2.2.1 + o_21), .int (iv ((-1)))]) (rest := []) Cx (s_X9_addTo l G u_16 (qa := 115) (qb := o_21) (t := (-1)) iu_16 ⟨rfl, by decide, by decide⟩ mo_21 (by omega)) (c_X9_185 Cx rfl rfl (rmk_ok (by omega) (by decide))) hW rfl hl.1 rfl (Nat.le_of_ble_eq_true rfl) dX9_tellOneRow_63 ⟨Nat.le_of_ble_eq_true rfl, Nat.le_of_ble_eq_true rfl⟩) hL (fun u_23 H locs k_24 hW hL => ?_)
      obtain ⟨iu_23, fu_23⟩ := k_24
      have F_25 := F_19.trans (fu_23.to (p1_sub rfl))
      have tk_26 := TK.fr tk_22 fu_23 rfl rfl
      refine lv_aload_n hx hb dX9_tellOneRow_66 rfl (lv_at hl 1 rfl) ?_
      refine g_X9_40 Cx hW (k := 11) (by decide) rfl (v := .ref (G.2.2.1 + 115)) (rf_11_7 iu_23) dX9_tellOneRow_67 ?_
      refine sBi (sSt (As := [.ref (G.2.2.1 + 115)]) (rest := []) Cx (s_X9_isGreat l G u_23 (qa := 115) iu_23 ⟨rfl, by decide, by decide⟩) (c_X9_189 Cx rfl rfl (rmk_ok (by omega) (by decide))) hW rfl hl.1 rfl (Nat.le_of_ble_eq_true rfl) dX9_tellOneRow_70 ⟨Nat.le_of_ble_eq_true rfl, Nat.le_of_ble_eq_true rfl⟩) hL (fun r_29 u_27 H locs k_28 hW hL => ?_)
      obtain ⟨eu_27, xu_27⟩ := k_28
      rw [eu_27] at hW
      refine r_if_eq (tgt := 84) hx hb ⟨(by omega), (by omega)⟩ dX9_tellOneRow_73 (by decide) (fun c_30 => ?_) (fun c_30 => ?_)
      · refine lv_aload_n hx hb dX9_tellOneRow_84 rfl (lv_at hl 1 rfl) ?_
        refine g_X9_14 Cx hW (k := 11) (by decide) rfl (v := .ref (G.2.2.1 + 12)) (rf_11_0 iu_23) dX9_tellOneRow_85 ?_
        refine lv_iload_n hx hb dX9_tellOneRow_88 rfl (lv_at hl 0 rfl) ?_
        refine sBi (sV (As := [.int (iv (u_1.1 11 13))]) (rest := []) (k := 12) Cx (s_X8_kind l G u_23 (k := u_1.1 11 13) iu_23 (by omega)) (c_X9_95 Cx rfl rfl (rmk_ok (by omega) (by decide))) hW (by decide) rfl rfl rfl hl.1 rfl (Nat.le_of_ble_eq_true rfl) dX9_tellOneRow_89 ⟨Nat.le_of_ble_eq_true rfl, Nat.le_of_ble_eq_true rfl⟩) hL (fun r_33 u_31 H locs k_32 hW hL => ?_)
        obtain ⟨eu_31, xu_31⟩ := k_32
        rw [eu_31] at hW
        refine lv_istore_n (lv' := [(3, .int (iv r_33)), (2, .int (iv (u_1.1 11 13))), (0, .ref (G.2.2.1 + 11)), (1, .int (iv nm))]) hx hb dX9_tellOneRow_92 rfl hl (by decide) rfl (fun ls hl => ?_)
        have join_104 : ∀ (mr : Int) (H : Heap) (locs : List Loc) (ls : Array Slot), (1 ≤ mr ∧ mr ≤ 2) → sW G 294 u_23 H → sL G locs → lv_has ls 5 [(3, .int (iv r_33)), (2, .int (iv (u_1.1 11 13))), (0, .ref (G.2.2.1 + 11)), (1, .int (iv nm))] → W p l e (rmk 133 0 0) s m args below meth c H locs 0 0 (MQ below (sQi G 294 (fun r u => cX G u 0 0 0 ∧ Fr S u pG ∧ ((0 ≤ r ∧ r ≤ 1) ∧ Hd (r = 1 → TK S u)))) args s 0 0 (sF G)) (F0 m 104 ls [.int (iv mr)]) := by
          intro mr H locs ls hmr hW hL hl
          refine lv_istore (lv' := [(4, .int (iv mr)), (3, .int (iv r_33)), (2, .int (iv (u_1.1 11 13))), (0, .ref (G.2.2.1 + 11)), (1, .int (iv nm))]) hx hb dX9_tellOneRow_104 hl (by decide) rfl (fun ls hl => ?_)
          refine lv_aload_n hx hb dX9_tellOneRow_106 rfl (lv_at hl 3 rfl) ?_
          obtain ⟨o_34, mo_34, eo_34⟩ := iu_16.rm.2.1
          refine g_X9_46 Cx hW (k := 11) (by decide) rfl (v := .ref (G.2.2.1 + o_34)) (((fu_23 11 rfl).2.2.2 8).trans eo_34) dX9_tellOneRow_107 ?_
          have q_35 : 0 ≤ u_16.1 o_34 3 ∧ u_16.1 o_34 3 ≤ 16 := iu_16.fi o_34 3 3 (mdl_k mo_34) mo_34.1
          refine g_X9_193 Cx hW (k := o_34) (mdl_l mo_34) mo_34.1 (v := u_16.1 o_34 3) ((fu_23 o_34 (p1_no (tau_ne mo_34.1 (rfl : tau 115 = .inr (.long, 13)) (fun h => by cases h)))).1 3) dX9_tellOneRow_110 ?_
          refine lv_iload hx hb dX9_tellOneRow_113 (lv_at hl 0 rfl) ?_
          refine r_iadd hx hb dX9_tellOneRow_115 ?_
          refine lv_bipush (v := iv 16) hx hb dX9_tellOneRow_116 (by decide) ?_
          refine r_icmp_le (tgt := 129) hx hb ⟨(by omega), (by omega)⟩ ⟨(by omega), (by omega)⟩ dX9_tellOneRow_118 (by decide) (fun c_36 => ?_) (fun c_36 => ?_)
          · have join_147 : ∀ (S147 : sS)  (H : Heap) (locs : List Loc) (ls : Array Slot), (cX G S147 0 0 0) → (Fr S S147 pG) → (Fr u_23 S147 pG) → (TK S S147) → sW G 294 S147 H → sL G locs → lv_has ls 5 [(4, .int (iv mr)), (3, .int (iv r_33)), (2, .int (iv (u_1.1 11 13))), (0, .ref (G.2.2.1 + 11)), (1, .int (iv nm))] → W p l e (rmk 133 0 0) s m args below meth c H locs 0 0 (MQ below (sQi G 294 (fun r u => cX G u 0 0 0 ∧ Fr S u pG ∧ ((0 ≤ r ∧ r ≤ 1) ∧ Hd (r = 1 → TK S u)))) args s 0 0 (sF G)) (F0 m 147 ls []) := by
              intro S147  H locs ls hI147 hFm147 hL147_ hTK147 hW hL hl
              have join_165 : ∀ (S165 : sS)  (H : Heap) (locs : List Loc) (ls : Array Slot), (cX G S165 0 0 0) → (Fr S S165 pG) → (Fr u_23 S165 pG) → (Fr S147 S165 pG) → (TK S S165) → sW G 294 S165 H → sL G locs → lv_has ls 5 [(4, .int (iv mr)), (3, .int (iv r_33)), (2, .int (iv (u_1.1 11 13))), (0, .ref (G.2.2.1 + 11)), (1, .int (iv nm))] → W p l e (rmk 133 0 0) s m args below meth c H locs 0 0 (MQ below (sQi G 294 (fun r u => cX G u 0 0 0 ∧ Fr S u pG ∧ ((0 ≤ r ∧ r ≤ 1) ∧ Hd (r = 1 → TK S u)))) args s 0 0 (sF G)) (F0 m 165 ls []) := by
                intro S165  H locs ls hI165 hFm165 hFL147165 hL165_ hTK165 hW hL hl
                refine lv_aload_n hx hb dX9_tellOneRow_165 rfl (lv_at hl 3 rfl) ?_
                refine lv_dup hx hb dX9_tellOneRow_166 rfl ?_
                have q_37 : (-2147483648) ≤ S165.1 11 13 ∧ S165.1 11 13 ≤ 2147483647 := hI165.fi 11 13 9 (by decide) rfl
                refine g_X9_89 Cx hW (k := 11) (by decide) rfl (v := S165.1 11 13) rfl dX9_tellOneRow_167 ?_
                refine lv_iconst (v := iv 1) hx hb dX9_tellOneRow_170 (by decide) ?_
                refine r_iadd hx hb dX9_tellOneRow_171 ?_
                obtain ⟨z_38, ez_38, hz_38, kz_38⟩ := iv_of (iv ((S165.1 11 13) + 1))
                rw [ez_38]
                refine p_X9_89 Cx hW hL (k := 11) (by decide) rfl dX9_tellOneRow_172 (fun H locs hW hL => ?_)
                have F_39 : Fr S (uF S165 11 13 z_38) pG := hFm165.F rfl
                have F_40 : Fr u_23 (uF S165 11 13 z_38) pG := hFL147165.F rfl
                have F_41 : Fr S147 (uF S165 11 13 z_38) pG := hL165_.F rfl
                have i_42 : cX G (uF S165 11 13 z_38) 0 0 0 := hI165.F rfl rfl (show (-2147483648) ≤ z_38 ∧ z_38 ≤ 2147483647 from ⟨by omega, by omega⟩)
                have tk_43 : TK S (uF S165 11 13 z_38) := hTK165.F (by decide)
                refine lv_iconst (v := iv 1) hx hb dX9_tellOneRow_175 (by decide) ?_
                exact sZret Cx hr hlk hW hL (by omega) ⟨i_42, F_39, ⟨(by omega), fun _ => tk_43⟩⟩ dX9_tellOneRow_176
              refine lv_iload_n hx hb dX9_tellOneRow_147 rfl (lv_at hl 1 rfl) ?_
              refine lv_bipush (v := iv 25) hx hb dX9_tellOneRow_148 (by decide) ?_
              refine r_icmp_eq (tgt := 165) hx hb ⟨(by omega), (by omega)⟩ ⟨(by omega), (by omega)⟩ dX9_tellOneRow_150 (by decide) (fun c_44 => ?_) (fun c_44 => ?_)
              · exact join_165 S147  _ _ _ hI147 hFm147 hL147_ (Fr.rf : Fr S147 S147 pG) hTK147 hW hL (lv_sub hl [0, 1, 2, 3, 4] rfl)
              · refine lv_aload_n hx hb dX9_tellOneRow_153 rfl (lv_at hl 3 rfl) ?_
                obtain ⟨o_45, mo_45, eo_45⟩ := hI147.rm.2.1
                refine g_X9_46 Cx hW (k := 11) (by decide) rfl (v := .ref (G.2.2.1 + o_45)) eo_45 dX9_tellOneRow_154 ?_
                refine lv_aload_n hx hb dX9_tellOneRow_157 rfl (lv_at hl 3 rfl) ?_
                refine g_X9_40 Cx hW (k := 11) (by decide) rfl (v := .ref (G.2.2.1 + 115)) (rf_11_7 hI147) dX9_tellOneRow_158 ?_
                refine lv_iconst (v := iv (-1)) hx hb dX9_tellOneRow_161 (by decide) ?_
                refine sBv (sV (As := [.ref (G.2.2.1 + 115), .int (iv ((-1)))]) (rest := []) (k := o_45) Cx (s_X3_addRow l G S147 (o := o_45) (q := 115) (t := (-1)) hI147 mo_45 ⟨rfl, by decide⟩ (by omega)) (c_X9_196 Cx rfl rfl (rmk_ok (by omega) (by decide))) hW (mdl_l mo_45) mo_45.1 rfl rfl hl.1 rfl (Nat.le_of_ble_eq_true rfl) dX9_tellOneRow_162 ⟨Nat.le_of_ble_eq_true rfl, Nat.le_of_ble_eq_true rfl⟩) hL (fun u_46 H locs k_47 hW hL => ?_)
                obtain ⟨iu_46, fu_46⟩ := k_47
                have F_48 := hFm147.trans (fu_46.to (pM_sub (mdl_pG mo_45).1 (mdl_pG mo_45).2.1 (mdl_pG mo_45).2.2))
                have F_49 := hL147_.trans (fu_46.to (pM_sub (mdl_pG mo_45).1 (mdl_pG mo_45).2.1 (mdl_pG mo_45).2.2))
                have F_50 := (Fr.rf : Fr S147 S147 pG).trans (fu_46.to (pM_sub (mdl_pG mo_45).1 (mdl_pG mo_45).2.1 (mdl_pG mo_45).2.2))
                have tk_51 := TK.fr hTK147 fu_46 (pM_no (tau_ne (rfl : tau 11 = .inl 9) mo_45.1 (fun h => by cases h)) (tau_ne (rfl : tau 11 = .inl 9) mo_45.2.1 (fun h => by cases h)) (tau_ne (rfl : tau 11 = .inl 9) mo_45.2.2.1 (fun h => by cases h))) (pM_no (tau_ne (rfl : tau 17 = .inr (.int, 768)) mo_45.1 (fun h => by cases h)) (tau_ne (rfl : tau 17 = .inr (.int, 768)) mo_45.2.1 (by decide)) (tau_ne (rfl : tau 17 = .inr (.int, 768)) mo_45.2.2.1 (fun h => by cases h)))
                exact join_165 u_46  _ _ _ iu_46 F_48 F_49 F_50 tk_51 hW hL (lv_sub hl [0, 1, 2, 3, 4] rfl)
            refine lv_iload_n hx hb dX9_tellOneRow_129 rfl (lv_at hl 1 rfl) ?_
            refine lv_bipush (v := iv 26) hx hb dX9_tellOneRow_130 (by decide) ?_
            refine r_icmp_eq (tgt := 147) hx hb ⟨(by omega), (by omega)⟩ ⟨(by omega), (by omega)⟩ dX9_tellOneRow_132 (by decide) (fun c_52 => ?_) (fun c_52 => ?_)
            · exact join_147 u_23  _ _ _ iu_23 F_25 (Fr.rf : Fr u_23 u_23 pG) tk_26 hW hL (lv_sub hl [0, 1, 2, 3, 4] rfl)
            · refine lv_aload_n hx hb dX9_tellOneRow_135 rfl (lv_at hl 3 rfl) ?_
              refine g_X9_46 Cx hW (k := 11) (by decide) rfl (v := .ref (G.2.2.1 + o_34)) (((fu_23 11 rfl).2.2.2 8).trans eo_34) dX9_tellOneRow_136 ?_
              refine lv_aload_n hx hb dX9_tellOneRow_139 rfl (lv_at hl 3 rfl) ?_
              refine g_X9_40 Cx hW (k := 11) (by decide) rfl (v := .ref (G.2.2.1 + 115)) (rf_11_7 iu_23) dX9_tellOneRow_140 ?_
              refine lv_iconst (v := iv 1) hx hb dX9_tellOneRow_143 (by decide) ?_
              refine sBv (sV (As := [.ref (G.2.2.1 + 115), .int (iv 1)]) (rest := []) (k := o_34) Cx (s_X3_addRow l G u_23 (o := o_34) (q := 115) (t := 1) iu_23 mo_34 ⟨rfl, by decide⟩ (by omega)) (c_X9_196 Cx rfl rfl (rmk_ok (by omega) (by decide))) hW (mdl_l mo_34) mo_34.1 rfl rfl hl.1 rfl (Nat.le_of_ble_eq_true rfl) dX9_tellOneRow_144 ⟨Nat.le_of_ble_eq_true rfl, Nat.le_of_ble_eq_true rfl⟩) hL (fun u_53 H locs k_54 hW hL => ?_)
              obtain ⟨iu_53, fu_53⟩ := k_54
              have F_55 := F_25.trans (fu_53.to (pM_sub (mdl_pG mo_34).1 (mdl_pG mo_34).2.1 (mdl_pG mo_34).2.2))
              have F_56 := (Fr.rf : Fr u_23 u_23 pG).trans (fu_53.to (pM_sub (mdl_pG mo_34).1 (mdl_pG mo_34).2.1 (mdl_pG mo_34).2.2))
              have tk_57 := TK.fr tk_26 fu_53 (pM_no (tau_ne (rfl : tau 11 = .inl 9) mo_34.1 (fun h => by cases h)) (tau_ne (rfl : tau 11 = .inl 9) mo_34.2.1 (fun h => by cases h)) (tau_ne (rfl : tau 11 = .inl 9) mo_34.2.2.1 (fun h => by cases h))) (pM_no (tau_ne (rfl : tau 17 = .inr (.int, 768)) mo_34.1 (fun h => by cases h)) (tau_ne (rfl : tau 17 = .inr (.int, 768)) mo_34.2.1 (by decide)) (tau_ne (rfl : tau 17 = .inr (.int, 768)) mo_34.2.2.1 (fun h => by cases h)))
              exact join_147 u_53  _ _ _ iu_53 F_55 F_56 tk_57 hW hL (lv_sub hl [0, 1, 2, 3, 4] rfl)
          · refine lv_aload_n hx hb dX9_tellOneRow_121 rfl (lv_at hl 3 rfl) ?_
            refine lv_bipush (v := iv 7) hx hb dX9_tellOneRow_122 (by decide) ?_
            refine lv_iload_n hx hb dX9_tellOneRow_124 rfl (lv_at hl 4 rfl) ?_
            have q_58 : 0 ≤ u_16.1 11 9 ∧ u_16.1 11 9 ≤ 128 := iu_16.fi 11 9 9 (by decide) rfl
            have lk_59 : u_23.1 11 9 = u_16.1 11 9 := (fu_23 11 rfl).1 9
            refine sBi (sV (As := [.int (iv 7), .int (iv nm)]) (rest := []) (k := 11) Cx (s_X9_fail l G u_23 (k := 7) (tk := nm) iu_23 (by omega) (by omega)) (c_X9_132 Cx rfl rfl (rmk_ok (by omega) (by decide))) hW (by decide) rfl rfl rfl hl.1 rfl (Nat.le_of_ble_eq_true rfl) dX9_tellOneRow_125 ⟨Nat.le_of_ble_eq_true rfl, Nat.le_of_ble_eq_true rfl⟩) hL (fun r_62 u_60 H locs k_61 hW hL => ?_)
            obtain ⟨iu_60, fu_60, xu_60⟩ := k_61
            have F_63 := F_25.trans (fu_60.to (fun k h => pV_G k ((fun k h => pU_V k ((fun k h => pT_U k (p11_T k h)) k h)) k h)))
            have tk_64 := TK.of tk_26 (u := u_60) (by omega) (fun j => (fu_60 17 rfl).2.1 j)
            exact sZret Cx hr hlk hW hL (by omega) ⟨iu_60, F_63, ⟨(by omega), fun q => absurd q (by omega)⟩⟩ dX9_tellOneRow_128
        refine lv_iload_n hx hb dX9_tellOneRow_93 rfl (lv_at hl 0 rfl) ?_
        refine lv_bipush (v := iv 13) hx hb dX9_tellOneRow_94 (by decide) ?_
        refine r_icmp_ne (tgt := 103) hx hb ⟨(by omega), (by omega)⟩ ⟨(by omega), (by omega)⟩ dX9_tellOneRow_96 (by decide) (fun c_65 => ?_) (fun c_65 => ?_)
        · refine lv_iconst (v := iv 1) hx hb dX9_tellOneRow_103 (by decide) ?_
          exact join_104 1 _ _ _ (by omega) hW hL (lv_sub hl [0, 1, 2, 3] rfl)
        · refine lv_iconst (v := iv 2) hx hb dX9_tellOneRow_99 (by decide) ?_
          refine lv_goto (tgt := 104) hx hb dX9_tellOneRow_100 (by decide) ?_
          exact join_104 2 _ _ _ (by omega) hW hL (lv_sub hl [0, 1, 2, 3] rfl)
      · refine lv_aload_n hx hb dX9_tellOneRow_76 rfl (lv_at hl 1 rfl) ?_
        refine lv_bipush (v := iv 6) hx hb dX9_tellOneRow_77 (by decide) ?_
        refine lv_iload_n hx hb dX9_tellOneRow_79 rfl (lv_at hl 0 rfl) ?_
        have q_66 : 0 ≤ u_16.1 11 9 ∧ u_16.1 11 9 ≤ 128 := iu_16.fi 11 9 9 (by decide) rfl
        have lk_67 : u_23.1 11 9 = u_16.1 11 9 := (fu_23 11 rfl).1 9
        refine sBi (sV (As := [.int (iv 6), .int (iv (u_1.1 11 13))]) (rest := []) (k := 11) Cx (s_X9_fail l G u_23 (k := 6) (tk := u_1.1 11 13) iu_23 (by omega) (by omega)) (c_X9_132 Cx rfl rfl (rmk_ok (by omega) (by decide))) hW (by decide) rfl rfl rfl hl.1 rfl (Nat.le_of_ble_eq_true rfl) dX9_tellOneRow_80 ⟨Nat.le_of_ble_eq_true rfl, Nat.le_of_ble_eq_true rfl⟩) hL (fun r_70 u_68 H locs k_69 hW hL => ?_)
        obtain ⟨iu_68, fu_68, xu_68⟩ := k_69
        have F_71 := F_25.trans (fu_68.to (fun k h => pV_G k ((fun k h => pU_V k ((fun k h => pT_U k (p11_T k h)) k h)) k h)))
        have tk_72 := TK.of tk_26 (u := u_68) (by omega) (fun j => (fu_68 17 rfl).2.1 j)
        exact sZret Cx hr hlk hW hL (by omega) ⟨iu_68, F_71, ⟨(by omega), fun q => absurd q (by omega)⟩⟩ dX9_tellOneRow_83
    · refine lv_iconst (v := iv 0) hx hb dX9_tellOneRow_50 (by decide) ?_
      exact sZret Cx hr hlk hW hL (by omega) ⟨iu_16, F_19, ⟨(by omega), fun q => absurd q (by omega)⟩⟩ dX9_tellOneRow_51
  · refine lv_iconst (v := iv 0) hx hb dX9_tellOneRow_8 (by decide) ?_
    exact sZret Cx hr hlk hW hL (by omega) ⟨iu_1, F_4, ⟨(by omega), fun q => absurd q (by omega)⟩⟩ dX9_tellOneRow_9

set_option maxRecDepth 100000 in
set_option maxHeartbeats 4000000 in
theorem s_X9_tellGoal (l : Launch) (G : sG) (S : sS)  (hI : cX G S 0 0 0) (hsg : SG S) (hTS : TS S) : Met l yX9_tellGoal (.code yX9_tellGoal cX9_tellGoal 2 (some .boolean) :: tb) (rmk 133 0 0) (sPc G 294 S [.ref (G.2.2.1 + 11)]) (sQi G 294 (fun r u => cX G u 0 0 0 ∧ Fr S u pG ∧ ((0 ≤ r ∧ r ≤ 1) ∧ Hd (r = 1 → TS u)))) 0 0 (sF G) := by
  refine sEnter (by decide) (Nat.le_of_ble_eq_true rfl) ?_
  intro p e s m args below meth c Cx hr hlk hnm hW ls hl
  have Cx : sC G p m c cX9_tellGoal 2 s args RX9 := Cx
  obtain ⟨hx, hb, hml, hown, hts⟩ := id Cx.1
  have hL : sL G [] := sL_nil
  have hl : lv_has ls 2 [(0, .ref (G.2.2.1 + 11))] := hl
  have hW0 := hW
  have tk_0 : TK S S := TK.rf hTS
  have hkn : 0 ≤ S.1 11 9 ∧ S.1 11 9 ≤ 128 := hI.fi 11 9 9 (by decide) rfl
  have join_20 : ∀ (mx : Int) (H : Heap) (locs : List Loc) (ls : Array Slot), (0 ≤ mx ∧ mx ≤ 1) → sW G 294 S H → sL G locs → lv_has ls 2 [(0, .ref (G.2.2.1 + 11))] → W p l e (rmk 133 0 0) s m args below meth c H locs 0 0 (MQ below (sQi G 294 (fun r u => cX G u 0 0 0 ∧ Fr S u pG ∧ ((0 ≤ r ∧ r ≤ 1) ∧ Hd (r = 1 → TS u)))) args s 0 0 (sF G)) (F0 m 20 ls [.int (iv mx)]) := by
    intro mx H locs ls hmx hW hL hl
    refine lv_istore_n (lv' := [(1, .int (iv mx)), (0, .ref (G.2.2.1 + 11))]) hx hb dX9_tellGoal_20 rfl hl (by decide) rfl (fun ls hl => ?_)
    refine lv_aload_n hx hb dX9_tellGoal_21 rfl (lv_at hl 1 rfl) ?_
    refine lv_dup hx hb dX9_tellGoal_22 rfl ?_
    have q_1 : (-2147483648) ≤ S.1 11 13 ∧ S.1 11 13 ≤ 2147483647 := hI.fi 11 13 9 (by decide) rfl
    refine g_X9_89 Cx hW (k := 11) (by decide) rfl (v := S.1 11 13) rfl dX9_tellGoal_23 ?_
    refine lv_iconst (v := iv 1) hx hb dX9_tellGoal_26 (by decide) ?_
    refine r_iadd hx hb dX9_tellGoal_27 ?_
    obtain ⟨z_2, ez_2, hz_2, kz_2⟩ := iv_of (iv ((S.1 11 13) + 1))
    rw [ez_2]
    refine p_X9_89 Cx hW hL (k := 11) (by decide) rfl dX9_tellGoal_28 (fun H locs hW hL => ?_)
    have F_3 : Fr S (uF S 11 13 z_2) pG := (Fr.rf : Fr S S pG).F rfl
    have i_4 : cX G (uF S 11 13 z_2) 0 0 0 := hI.F rfl rfl (show (-2147483648) ≤ z_2 ∧ z_2 ≤ 2147483647 from ⟨by omega, by omega⟩)
    have tk_5 : TK S (uF S 11 13 z_2) := tk_0.F (by decide)
    refine lv_aload_n hx hb dX9_tellGoal_31 rfl (lv_at hl 1 rfl) ?_
    refine lv_iconst (v := iv 0) hx hb dX9_tellGoal_32 (by decide) ?_
    refine sBi (sV (As := [.int (iv 0)]) (rest := []) (k := 11) Cx ((tel_expr l G) (uF S 11 13 z_2) i_4 (SG.fr F_3 rfl rfl rfl hsg) tk_5.1) (c_X9_166 Cx rfl rfl (rmk_ok (by omega) (by decide))) hW (by decide) rfl rfl rfl hl.1 rfl (Nat.le_of_ble_eq_true rfl) dX9_tellGoal_33 ⟨Nat.le_of_ble_eq_true rfl, Nat.le_of_ble_eq_true rfl⟩) hL (fun r_8 u_6 H locs k_7 hW hL => ?_)
    obtain ⟨iu_6, fu_6, xu_6⟩ := k_7
    have F_9 := F_3.trans (fu_6.to pV_G)
    refine r_if_ne (tgt := 41) hx hb ⟨(by omega), (by omega)⟩ dX9_tellGoal_36 (by decide) (fun c_10 => ?_) (fun c_10 => ?_)
    · refine lv_aload_n hx hb dX9_tellGoal_41 rfl (lv_at hl 1 rfl) ?_
      obtain ⟨o_11, mo_11, eo_11⟩ := iu_6.rm.2.1
      refine g_X9_46 Cx hW (k := 11) (by decide) rfl (v := .ref (G.2.2.1 + o_11)) eo_11 dX9_tellGoal_42 ?_
      refine lv_aload_n hx hb dX9_tellGoal_45 rfl (lv_at hl 1 rfl) ?_
      refine g_X9_31 Cx hW (k := 11) (by decide) rfl (v := .ref (G.2.2.1 + 19)) (rf_11_4 iu_6) dX9_tellGoal_46 ?_
      refine lv_iconst (v := iv 0) hx hb dX9_tellGoal_49 (by decide) ?_
      obtain ⟨o_12, mo_12, eo_12⟩ := r2_19 iu_6 (i := 0) (by omega) (by omega)
      refine rAald Cx hW (k := 19) (by decide) rfl (by decide) (by omega) (by omega) eo_12 dX9_tellGoal_50 ?_
      refine lv_iload_n hx hb dX9_tellGoal_51 rfl (lv_at hl 0 rfl) ?_
      have tk_13 := TK.trans tk_5 (xu_6.2 (by omega))
      refine sBv (sV (As := [.ref (G.2.2.1 + o_12), .int (iv mx)]) (rest := []) (k := o_11) Cx (s_X3_setGoal l G u_6 (o := o_11) (q := o_12) (t := mx) iu_6 mo_11 (lr_h mo_12) (by omega)) (c_X9_169 Cx rfl rfl (rmk_ok (by omega) (by decide))) hW (mdl_l mo_11) mo_11.1 rfl rfl hl.1 rfl (Nat.le_of_ble_eq_true rfl) dX9_tellGoal_52 ⟨Nat.le_of_ble_eq_true rfl, Nat.le_of_ble_eq_true rfl⟩) hL (fun u_14 H locs k_15 hW hL => ?_)
      obtain ⟨iu_14, fu_14⟩ := k_15
      have F_16 := F_9.trans (fu_14.to (pM_sub (mdl_pG mo_11).1 (mdl_pG mo_11).2.1 (mdl_pG mo_11).2.2))
      have tk_17 := TK.fr tk_13 fu_14 (pM_no (tau_ne (rfl : tau 11 = .inl 9) mo_11.1 (fun h => by cases h)) (tau_ne (rfl : tau 11 = .inl 9) mo_11.2.1 (fun h => by cases h)) (tau_ne (rfl : tau 11 = .inl 9) mo_11.2.2.1 (fun h => by cases h))) (pM_no (tau_ne (rfl : tau 17 = .inr (.int, 768)) mo_11.1 (fun h => by cases h)) (tau_ne (rfl : tau 17 = .inr (.int, 768)) mo_11.2.1 (by decide)) (tau_ne (rfl : tau 17 = .inr (.int, 768)) mo_11.2.2.1 (fun h => by cases h)))
      refine lv_aload_n hx hb dX9_tellGoal_55 rfl (lv_at hl 1 rfl) ?_
      refine lv_dup hx hb dX9_tellGoal_56 rfl ?_
      have q_18 : (-2147483648) ≤ u_6.1 11 13 ∧ u_6.1 11 13 ≤ 2147483647 := iu_6.fi 11 13 9 (by decide) rfl
      refine g_X9_89 Cx hW (k := 11) (by decide) rfl (v := u_6.1 11 13) ((fu_14 11 (pM_no (tau_ne (rfl : tau 11 = .inl 9) mo_11.1 (fun h => by cases h)) (tau_ne (rfl : tau 11 = .inl 9) mo_11.2.1 (fun h => by cases h)) (tau_ne (rfl : tau 11 = .inl 9) mo_11.2.2.1 (fun h => by cases h)))).1 13) dX9_tellGoal_57 ?_
      refine lv_iconst (v := iv 1) hx hb dX9_tellGoal_60 (by decide) ?_
      refine r_iadd hx hb dX9_tellGoal_61 ?_
      obtain ⟨z_19, ez_19, hz_19, kz_19⟩ := iv_of (iv ((u_6.1 11 13) + 1))
      rw [ez_19]
      refine p_X9_89 Cx hW hL (k := 11) (by decide) rfl dX9_tellGoal_62 (fun H locs hW hL => ?_)
      have F_20 : Fr S (uF u_14 11 13 z_19) pG := F_16.F rfl
      have i_21 : cX G (uF u_14 11 13 z_19) 0 0 0 := iu_14.F rfl rfl (show (-2147483648) ≤ z_19 ∧ z_19 ≤ 2147483647 from ⟨by omega, by omega⟩)
      have tk_22 : TK S (uF u_14 11 13 z_19) := tk_17.F (by decide)
      refine lv_iconst (v := iv 1) hx hb dX9_tellGoal_65 (by decide) ?_
      exact sZret Cx hr hlk hW hL (by omega) ⟨i_21, F_20, ⟨(by omega), fun _ => tk_22.1⟩⟩ dX9_tellGoal_66
    · refine lv_iconst (v := iv 0) hx hb dX9_tellGoal_39 (by decide) ?_
      exact sZret Cx hr hlk hW hL (by omega) ⟨iu_6, F_9, ⟨(by omega), fun q => absurd q (by omega)⟩⟩ dX9_tellGoal_40
  refine lv_aload_n hx hb dX9_tellGoal_0 rfl (lv_at hl 0 rfl) ?_
  refine g_X9_14 Cx hW (k := 11) (by decide) rfl (v := .ref (G.2.2.1 + 12)) (rf_11_0 hI) dX9_tellGoal_1 ?_
  refine lv_aload_n hx hb dX9_tellGoal_4 rfl (lv_at hl 0 rfl) ?_
  have q_23 : (-2147483648) ≤ S.1 11 13 ∧ S.1 11 13 ≤ 2147483647 := hI.fi 11 13 9 (by decide) rfl
  refine g_X9_89 Cx hW (k := 11) (by decide) rfl (v := S.1 11 13) rfl dX9_tellGoal_5 ?_
  refine sBi (sV (As := [.int (iv (S.1 11 13))]) (rest := []) (k := 12) Cx (s_X8_kind l G S (k := S.1 11 13) hI (by omega)) (c_X9_95 Cx rfl rfl (rmk_ok (by omega) (by decide))) hW (by decide) rfl rfl rfl hl.1 rfl (Nat.le_of_ble_eq_true rfl) dX9_tellGoal_8 ⟨Nat.le_of_ble_eq_true rfl, Nat.le_of_ble_eq_true rfl⟩) hL (fun r_26 u_24 H locs k_25 hW hL => ?_)
  obtain ⟨eu_24, xu_24⟩ := k_25
  rw [eu_24] at hW
  refine lv_iconst (v := iv 4) hx hb dX9_tellGoal_11 (by decide) ?_
  refine r_icmp_ne (tgt := 19) hx hb ⟨(by omega), (by omega)⟩ ⟨(by omega), (by omega)⟩ dX9_tellGoal_12 (by decide) (fun c_27 => ?_) (fun c_27 => ?_)
  · refine lv_iconst (v := iv 0) hx hb dX9_tellGoal_19 (by decide) ?_
    exact join_20 0 _ _ _ (by omega) hW hL (lv_sub hl [0] rfl)
  · refine lv_iconst (v := iv 1) hx hb dX9_tellGoal_15 (by decide) ?_
    refine lv_goto (tgt := 20) hx hb dX9_tellGoal_16 (by decide) ?_
    exact join_20 1 _ _ _ (by omega) hW hL (lv_sub hl [0] rfl)

set_option maxRecDepth 100000 in
set_option maxHeartbeats 4000000 in
theorem s_X9_tellRow (l : Launch) (G : sG) (S : sS)  (hI : cX G S 0 0 0) (hsg : SG S) (hTS : TS S) : Met l yX9_tellRow (.code yX9_tellRow cX9_tellRow 7 (some .boolean) :: tb) (rmk 134 0 0) (sPc G 294 S [.ref (G.2.2.1 + 11)]) (sQi G 294 (fun r u => cX G u 0 0 0 ∧ Fr S u pG ∧ ((0 ≤ r ∧ r ≤ 1) ∧ Hd (r = 1 → TS u)))) 0 0 (sF G) := by
  refine sEnter (by decide) (Nat.le_of_ble_eq_true rfl) ?_
  intro p e s m args below meth c Cx hr hlk hnm hW ls hl
  have Cx : sC G p m c cX9_tellRow 7 s args RX9 := Cx
  obtain ⟨hx, hb, hml, hown, hts⟩ := id Cx.1
  have hL : sL G [] := sL_nil
  have hl : lv_has ls 7 [(0, .ref (G.2.2.1 + 11))] := hl
  have hW0 := hW
  have tk_0 : TK S S := TK.rf hTS
  have hkn : 0 ≤ S.1 11 9 ∧ S.1 11 9 ≤ 128 := hI.fi 11 9 9 (by decide) rfl
  refine lv_aload_n hx hb dX9_tellRow_0 rfl (lv_at hl 0 rfl) ?_
  have q_1 : (-2147483648) ≤ S.1 11 13 ∧ S.1 11 13 ≤ 2147483647 := hI.fi 11 13 9 (by decide) rfl
  refine g_X9_89 Cx hW (k := 11) (by decide) rfl (v := S.1 11 13) rfl dX9_tellRow_1 ?_
  refine lv_iconst (v := iv 1) hx hb dX9_tellRow_4 (by decide) ?_
  refine r_iadd hx hb dX9_tellRow_5 ?_
  obtain ⟨z_2, ez_2, hz_2, kz_2⟩ := iv_of (iv ((S.1 11 13) + 1))
  rw [ez_2]
  refine lv_istore_n (lv' := [(1, .int (iv z_2)), (0, .ref (G.2.2.1 + 11))]) hx hb dX9_tellRow_6 rfl hl (by decide) rfl (fun ls hl => ?_)
  refine lv_aload_n hx hb dX9_tellRow_7 rfl (lv_at hl 1 rfl) ?_
  refine lv_iload_n hx hb dX9_tellRow_8 rfl (lv_at hl 0 rfl) ?_
  refine lv_bipush (v := iv 10) hx hb dX9_tellRow_9 (by decide) ?_
  have q_3 : 0 ≤ S.1 11 9 ∧ S.1 11 9 ≤ 128 := hI.fi 11 9 9 (by decide) rfl
  refine sBi (sV (As := [.int (iv z_2), .int (iv 10)]) (rest := []) (k := 11) Cx (s_X9_learn l G S (tk := z_2) (so := 10) hI (by omega) (by omega)) (c_X9_140 Cx rfl rfl (rmk_ok (by omega) (by decide))) hW (by decide) rfl rfl rfl hl.1 rfl (Nat.le_of_ble_eq_true rfl) dX9_tellRow_11 ⟨Nat.le_of_ble_eq_true rfl, Nat.le_of_ble_eq_true rfl⟩) hL (fun r_6 u_4 H locs k_5 hW hL => ?_)
  obtain ⟨iu_4, fu_4, xu_4⟩ := k_5
  have F_7 := (Fr.rf : Fr S S pG).trans (fu_4.to (fun k h => pV_G k ((fun k h => pU_V k (pT_U k h)) k h)))
  refine r_if_ge (tgt := 19) hx hb ⟨(by omega), (by omega)⟩ dX9_tellRow_14 (by decide) (fun c_8 => ?_) (fun c_8 => ?_)
  · have hra := xu_4.2.1 (by omega)
    have tk_1 : TK u_4 u_4 := TK.rf (hTS.learn hkn.1 hra.2 (by have z := xu_4.2.2 (by omega); rw [hra.1] at z; exact z) (by decide))
    refine lv_aload_n hx hb dX9_tellRow_19 rfl (lv_at hl 1 rfl) ?_
    refine lv_dup hx hb dX9_tellRow_20 rfl ?_
    have q_9 : (-2147483648) ≤ u_4.1 11 13 ∧ u_4.1 11 13 ≤ 2147483647 := iu_4.fi 11 13 9 (by decide) rfl
    refine g_X9_89 Cx hW (k := 11) (by decide) rfl (v := u_4.1 11 13) rfl dX9_tellRow_21 ?_
    refine lv_iconst (v := iv 2) hx hb dX9_tellRow_24 (by decide) ?_
    refine r_iadd hx hb dX9_tellRow_25 ?_
    obtain ⟨z_10, ez_10, hz_10, kz_10⟩ := iv_of (iv ((u_4.1 11 13) + 2))
    rw [ez_10]
    refine p_X9_89 Cx hW hL (k := 11) (by decide) rfl dX9_tellRow_26 (fun H locs hW hL => ?_)
    have F_11 : Fr S (uF u_4 11 13 z_10) pG := F_7.F rfl
    have i_12 : cX G (uF u_4 11 13 z_10) 0 0 0 := iu_4.F rfl rfl (show (-2147483648) ≤ z_10 ∧ z_10 ≤ 2147483647 from ⟨by omega, by omega⟩)
    have tk_13 : TK u_4 (uF u_4 11 13 z_10) := tk_1.F (by decide)
    refine lv_aload_n hx hb dX9_tellRow_29 rfl (lv_at hl 1 rfl) ?_
    refine g_X9_14 Cx hW (k := 11) (by decide) rfl (v := .ref (G.2.2.1 + 12)) (rf_11_0 i_12) dX9_tellRow_30 ?_
    refine lv_aload_n hx hb dX9_tellRow_33 rfl (lv_at hl 1 rfl) ?_
    refine g_X9_89 Cx hW (k := 11) (by decide) rfl (v := z_10) uF_on dX9_tellRow_34 ?_
    refine sBi (sV (As := [.int (iv z_10)]) (rest := []) (k := 12) Cx (s_X8_kind l G (uF u_4 11 13 z_10) (k := z_10) i_12 (by omega)) (c_X9_95 Cx rfl rfl (rmk_ok (by omega) (by decide))) hW (by decide) rfl rfl rfl hl.1 rfl (Nat.le_of_ble_eq_true rfl) dX9_tellRow_37 ⟨Nat.le_of_ble_eq_true rfl, Nat.le_of_ble_eq_true rfl⟩) hL (fun r_16 u_14 H locs k_15 hW hL => ?_)
    obtain ⟨eu_14, xu_14⟩ := k_15
    rw [eu_14] at hW
    refine lv_bipush (v := iv 17) hx hb dX9_tellRow_40 (by decide) ?_
    refine r_icmp_eq (tgt := 61) hx hb ⟨(by omega), (by omega)⟩ ⟨(by omega), (by omega)⟩ dX9_tellRow_42 (by decide) (fun c_17 => ?_) (fun c_17 => ?_)
    · refine lv_aload_n hx hb dX9_tellRow_61 rfl (lv_at hl 1 rfl) ?_
      refine lv_aload_n hx hb dX9_tellRow_62 rfl (lv_at hl 1 rfl) ?_
      refine g_X9_14 Cx hW (k := 11) (by decide) rfl (v := .ref (G.2.2.1 + 12)) (rf_11_0 i_12) dX9_tellRow_63 ?_
      refine lv_aload_n hx hb dX9_tellRow_66 rfl (lv_at hl 1 rfl) ?_
      refine g_X9_89 Cx hW (k := 11) (by decide) rfl (v := z_10) uF_on dX9_tellRow_67 ?_
      refine lv_iconst (v := iv 3) hx hb dX9_tellRow_70 (by decide) ?_
      refine r_iadd hx hb dX9_tellRow_71 ?_
      obtain ⟨z_18, ez_18, hz_18, kz_18⟩ := iv_of (iv (z_10 + 3))
      rw [ez_18]
      refine sBl (sV (As := [.int (iv z_18)]) (rest := [.ref (G.2.2.1 + 11)]) (k := 12) Cx (s_X8_value l G (uF u_4 11 13 z_10) (k := z_18) i_12 (by omega)) (c_X9_124 Cx rfl rfl (rmk_ok (by omega) (by decide))) hW (by decide) rfl rfl rfl hl.1 rfl (Nat.le_of_ble_eq_true rfl) dX9_tellRow_72 ⟨Nat.le_of_ble_eq_true rfl, Nat.le_of_ble_eq_true rfl⟩) hL (fun r_21 u_19 H locs k_20 hW hL => ?_)
      obtain ⟨eu_19, xu_19⟩ := k_20
      rw [eu_19] at hW
      have q_22 : 0 ≤ u_4.1 11 9 ∧ u_4.1 11 9 ≤ 128 := iu_4.fi 11 9 9 (by decide) rfl
      have lk_23 : (uF u_4 11 13 z_10).1 11 9 = u_4.1 11 9 := uF_ne (fun h => absurd h.2 (by decide))
      refine sBi (sV (As := [.long (jv r_21)]) (rest := []) (k := 11) Cx (s_X9_find l G (uF u_4 11 13 z_10) (nm := r_21) i_12 (by omega)) (c_X9_128 Cx rfl rfl (rmk_ok (by omega) (by decide))) hW (by decide) rfl rfl rfl hl.1 rfl (Nat.le_of_ble_eq_true rfl) dX9_tellRow_75 ⟨Nat.le_of_ble_eq_true rfl, Nat.le_of_ble_eq_true rfl⟩) hL (fun r_26 u_24 H locs k_25 hW hL => ?_)
      obtain ⟨eu_24, xu_24⟩ := k_25
      rw [eu_24] at hW
      refine lv_istore_n (lv' := [(2, .int (iv r_26)), (1, .int (iv z_2)), (0, .ref (G.2.2.1 + 11))]) hx hb dX9_tellRow_78 rfl hl (by decide) rfl (fun ls hl => ?_)
      have hkn1 : 0 ≤ ((uF u_4 11 13 z_10)).1 11 9 ∧ ((uF u_4 11 13 z_10)).1 11 9 ≤ 128 := i_12.fi 11 9 9 (by decide) rfl
      refine lv_aload_n hx hb dX9_tellRow_79 rfl (lv_at hl 2 rfl) ?_
      refine lv_aload_n hx hb dX9_tellRow_80 rfl (lv_at hl 2 rfl) ?_
      refine g_X9_89 Cx hW (k := 11) (by decide) rfl (v := z_10) uF_on dX9_tellRow_81 ?_
      refine lv_iconst (v := iv 1) hx hb dX9_tellRow_84 (by decide) ?_
      refine r_iadd hx hb dX9_tellRow_85 ?_
      obtain ⟨z_27, ez_27, hz_27, kz_27⟩ := iv_of (iv (z_10 + 1))
      rw [ez_27]
      refine lv_iconst (v := iv 2) hx hb dX9_tellRow_86 (by decide) ?_
      refine sBi (sV (As := [.int (iv z_27), .int (iv 2)]) (rest := []) (k := 11) Cx (s_X9_learn l G (uF u_4 11 13 z_10) (tk := z_27) (so := 2) i_12 (by omega) (by omega)) (c_X9_140 Cx rfl rfl (rmk_ok (by omega) (by decide))) hW (by decide) rfl rfl rfl hl.1 rfl (Nat.le_of_ble_eq_true rfl) dX9_tellRow_87 ⟨Nat.le_of_ble_eq_true rfl, Nat.le_of_ble_eq_true rfl⟩) hL (fun r_30 u_28 H locs k_29 hW hL => ?_)
      obtain ⟨iu_28, fu_28, xu_28⟩ := k_29
      have F_31 := F_11.trans (fu_28.to (fun k h => pV_G k ((fun k h => pU_V k (pT_U k h)) k h)))
      refine lv_istore_n (lv' := [(3, .int (iv r_30)), (2, .int (iv r_26)), (1, .int (iv z_2)), (0, .ref (G.2.2.1 + 11))]) hx hb dX9_tellRow_90 rfl hl (by decide) rfl (fun ls hl => ?_)
      refine lv_iload_n hx hb dX9_tellRow_91 rfl (lv_at hl 0 rfl) ?_
      refine r_if_ge (tgt := 97) hx hb ⟨(by omega), (by omega)⟩ dX9_tellRow_92 (by decide) (fun c_32 => ?_) (fun c_32 => ?_)
      · have hr0 := xu_28.2.1 (by omega)
        have hln : LN (uF u_4 11 13 z_10) u_28 (((uF u_4 11 13 z_10)).1 11 9) 2 := by have z := xu_28.2.2 (by omega); rw [hr0.1] at z; exact z
        have tk_2 : TK u_28 u_28 := TK.rf (tk_13.1.learn hkn1.1 hr0.2 hln (by decide))
        have hn6 : fc u_28 (((uF u_4 11 13 z_10)).1 11 9) 0 ≠ 6 := by rw [hln _ 0 (by omega) (by omega), if_pos rfl, if_pos rfl]; decide
        refine lv_aload_n hx hb dX9_tellRow_97 rfl (lv_at hl 3 rfl) ?_
        refine lv_iload_n hx hb dX9_tellRow_98 rfl (lv_at hl 1 rfl) ?_
        refine lv_bipush (v := iv 6) hx hb dX9_tellRow_99 (by decide) ?_
        refine sBi (sV (As := [.int (iv r_26), .int (iv 6)]) (rest := []) (k := 11) Cx (s_X9_isSort l G u_28 (s0 := r_26) (k := 6) iu_28 (by omega) (by omega)) (c_X9_146 Cx rfl rfl (rmk_ok (by omega) (by decide))) hW (by decide) rfl rfl rfl hl.1 rfl (Nat.le_of_ble_eq_true rfl) dX9_tellRow_101 ⟨Nat.le_of_ble_eq_true rfl, Nat.le_of_ble_eq_true rfl⟩) hL (fun r_35 u_33 H locs k_34 hW hL => ?_)
        obtain ⟨eu_33, xu_33⟩ := k_34
        rw [eu_33] at hW
        refine r_if_ne (tgt := 119) hx hb ⟨(by omega), (by omega)⟩ dX9_tellRow_104 (by decide) (fun c_36 => ?_) (fun c_36 => ?_)
        · refine lv_aload_n hx hb dX9_tellRow_119 rfl (lv_at hl 3 rfl) ?_
          have q_37 : (-2147483648) ≤ u_28.1 11 13 ∧ u_28.1 11 13 ≤ 2147483647 := iu_28.fi 11 13 9 (by decide) rfl
          refine g_X9_89 Cx hW (k := 11) (by decide) rfl (v := u_28.1 11 13) rfl dX9_tellRow_120 ?_
          refine lv_bipush (v := iv 6) hx hb dX9_tellRow_123 (by decide) ?_
          refine r_iadd hx hb dX9_tellRow_125 ?_
          obtain ⟨z_38, ez_38, hz_38, kz_38⟩ := iv_of (iv ((u_28.1 11 13) + 6))
          rw [ez_38]
          refine lv_istore (lv' := [(4, .int (iv z_38)), (3, .int (iv r_30)), (2, .int (iv r_26)), (1, .int (iv z_2)), (0, .ref (G.2.2.1 + 11))]) hx hb dX9_tellRow_126 hl (by decide) rfl (fun ls hl => ?_)
          refine lv_aload_n hx hb dX9_tellRow_128 rfl (lv_at hl 4 rfl) ?_
          refine lv_iload_n hx hb dX9_tellRow_129 rfl (lv_at hl 2 rfl) ?_
          refine lv_iconst (v := iv 2) hx hb dX9_tellRow_130 (by decide) ?_
          refine sBi (sV (As := [.int (iv r_26), .int (iv 2)]) (rest := []) (k := 11) Cx (s_X9_fact l G u_28 (s0 := r_26) (q := 2) iu_28 (by omega) (by omega)) (c_X9_120 Cx rfl rfl (rmk_ok (by omega) (by decide))) hW (by decide) rfl rfl rfl hl.1 rfl (Nat.le_of_ble_eq_true rfl) dX9_tellRow_131 ⟨Nat.le_of_ble_eq_true rfl, Nat.le_of_ble_eq_true rfl⟩) hL (fun r_41 u_39 H locs k_40 hW hL => ?_)
          obtain ⟨eu_39, xu_39⟩ := k_40
          rw [eu_39] at hW
          have yu_39 := xu_39.2
          unfold fr8 at yu_39
          refine lv_istore (lv' := [(5, .int (iv r_41)), (4, .int (iv z_38)), (3, .int (iv r_30)), (2, .int (iv r_26)), (1, .int (iv z_2)), (0, .ref (G.2.2.1 + 11))]) hx hb dX9_tellRow_134 hl (by decide) rfl (fun ls hl => ?_)
          refine lv_aload_n hx hb dX9_tellRow_136 rfl (lv_at hl 5 rfl) ?_
          refine lv_iload_n hx hb dX9_tellRow_137 rfl (lv_at hl 3 rfl) ?_
          refine lv_iconst (v := iv 1) hx hb dX9_tellRow_138 (by decide) ?_
          refine sBi (sV (As := [.int (iv r_26), .int (iv 1)]) (rest := []) (k := 11) Cx (s_X9_fact l G u_28 (s0 := r_26) (q := 1) iu_28 (by omega) (by omega)) (c_X9_120 Cx rfl rfl (rmk_ok (by omega) (by decide))) hW (by decide) rfl rfl rfl hl.1 rfl (Nat.le_of_ble_eq_true rfl) dX9_tellRow_139 ⟨Nat.le_of_ble_eq_true rfl, Nat.le_of_ble_eq_true rfl⟩) hL (fun r_44 u_42 H locs k_43 hW hL => ?_)
          obtain ⟨eu_42, xu_42⟩ := k_43
          rw [eu_42] at hW
          have yu_42 := xu_42.2
          unfold fr8 at yu_42
          refine lv_istore (lv' := [(6, .int (iv r_44)), (5, .int (iv r_41)), (4, .int (iv z_38)), (3, .int (iv r_30)), (2, .int (iv r_26)), (1, .int (iv z_2)), (0, .ref (G.2.2.1 + 11))]) hx hb dX9_tellRow_142 hl (by decide) rfl (fun ls hl => ?_)
          have loop_144 : ∀ (fuel : Nat) (S144 : sS) (va : Int) (H : Heap) (locs : List Loc) (ls : Array Slot), (r_41 + 1 - va).toNat < fuel → (cX G S144 0 0 0) → (Fr S S144 pG) → (Fr u_28 S144 pG) → (0 ≤ va ∧ va ≤ 2054847099) → (TK u_28 S144) → sW G 294 S144 H → sL G locs → lv_has ls 7 [(6, .int (iv va)), (5, .int (iv r_41)), (4, .int (iv z_38)), (3, .int (iv r_30)), (2, .int (iv r_26)), (1, .int (iv z_2)), (0, .ref (G.2.2.1 + 11))] → W p l e (rmk 134 0 0) s m args below meth c H locs 0 0 (MQ below (sQi G 294 (fun r u => cX G u 0 0 0 ∧ Fr S u pG ∧ ((0 ≤ r ∧ r ≤ 1) ∧ Hd (r = 1 → TS u)))) args s 0 0 (sF G)) (F0 m 144 ls []) := by
            intro fuel
            induction fuel with
            | zero => intro S144 va H locs ls hmeas hI144 hFm144 hL144_ hva hTK144 hW hL hl; exact absurd hmeas (Nat.not_lt_zero _)
            | succ fuel ih_144 =>
              intro S144 va H locs ls hmeas hI144 hFm144 hL144_ hva hTK144 hW hL hl
              refine lv_iload hx hb dX9_tellRow_144 (lv_at hl 0 rfl) ?_
              refine lv_iload hx hb dX9_tellRow_146 (lv_at hl 1 rfl) ?_
              refine r_icmp_gt (tgt := 181) hx hb ⟨(by omega), (by omega)⟩ ⟨(by omega), (by omega)⟩ dX9_tellRow_148 (by decide) (fun c_45 => ?_) (fun c_45 => ?_)
              · have hk81 : S144.1 11 9 = u_28.1 11 9 := hTK144.2.1
                refine lv_aload_n hx hb dX9_tellRow_181 rfl (lv_at hl 6 rfl) ?_
                have q_46 : 0 ≤ S144.1 11 9 ∧ S144.1 11 9 ≤ 128 := hI144.fi 11 9 9 (by decide) rfl
                refine sBv (sV (As := []) (rest := []) (k := 11) Cx (s_X9_forgetLast l G S144  hI144 (by omega)) (c_X9_176 Cx rfl rfl (rmk_ok (by omega) (by decide))) hW (by decide) rfl rfl rfl hl.1 rfl (Nat.le_of_ble_eq_true rfl) dX9_tellRow_182 ⟨Nat.le_of_ble_eq_true rfl, Nat.le_of_ble_eq_true rfl⟩) hL (fun u_47 H locs k_48 hW hL => ?_)
                obtain ⟨iu_47, fu_47, xu_47⟩ := k_48
                have F_49 := hFm144.trans (fu_47.to (fun k h => pV_G k ((fun k h => pU_V k ((fun k h => pT_U k (p11_T k h)) k h)) k h)))
                have F_50 := hL144_.trans (fu_47.to (fun k h => pV_G k ((fun k h => pU_V k ((fun k h => pT_U k (p11_T k h)) k h)) k h)))
                have tk_51 := TK.pop hTK144 hln rfl hkn1.1 hr0.2 xu_47
                refine lv_iconst (v := iv 1) hx hb dX9_tellRow_185 (by decide) ?_
                exact sZret Cx hr hlk hW hL (by omega) ⟨iu_47, F_49, ⟨(by omega), fun _ => tk_51.1⟩⟩ dX9_tellRow_186
              · refine lv_aload_n hx hb dX9_tellRow_151 rfl (lv_at hl 6 rfl) ?_
                refine lv_iload_n hx hb dX9_tellRow_152 rfl (lv_at hl 3 rfl) ?_
                refine lv_iconst (v := iv 1) hx hb dX9_tellRow_153 (by decide) ?_
                refine lv_iload hx hb dX9_tellRow_154 (lv_at hl 0 rfl) ?_
                refine sBv (sV (As := [.int (iv r_30), .int (iv 1), .int (iv va)]) (rest := []) (k := 11) Cx (s_X9_setFact l G S144 (s0 := r_30) (q := 1) (v := va) hI144 (by omega) (by omega) (by unfold fr8; omega) (by omega)) (c_X9_136 Cx rfl rfl (rmk_ok (by omega) (by decide))) hW (by decide) rfl rfl rfl hl.1 rfl (Nat.le_of_ble_eq_true rfl) dX9_tellRow_156 ⟨Nat.le_of_ble_eq_true rfl, Nat.le_of_ble_eq_true rfl⟩) hL (fun u_52 H locs k_53 hW hL => ?_)
                obtain ⟨iu_52, fu_52, xu_52⟩ := k_53
                have F_54 := hFm144.trans (fu_52.to (fun k h => pV_G k ((fun k h => pU_V k ((fun k h => pT_U k (p17_T k h)) k h)) k h)))
                have F_55 := hL144_.trans (fu_52.to (fun k h => pV_G k ((fun k h => pU_V k ((fun k h => pT_U k (p17_T k h)) k h)) k h)))
                have tk_56 := TK.low hTK144 (s := ((uF u_4 11 13 z_10)).1 11 9) (u := u_52) ⟨(by omega), (by omega)⟩ hn6 (by rw [← hr0.1]; exact xu_52)
                refine lv_aload_n hx hb dX9_tellRow_159 rfl (lv_at hl 6 rfl) ?_
                refine lv_iload hx hb dX9_tellRow_160 (lv_at hl 2 rfl) ?_
                refine p_X9_89 Cx hW hL (k := 11) (by decide) rfl dX9_tellRow_162 (fun H locs hW hL => ?_)
                have F_57 : Fr S (uF u_52 11 13 z_38) pG := F_54.F rfl
                have F_58 : Fr u_28 (uF u_52 11 13 z_38) pG := F_55.F rfl
                have i_59 : cX G (uF u_52 11 13 z_38) 0 0 0 := iu_52.F rfl rfl (show (-2147483648) ≤ z_38 ∧ z_38 ≤ 2147483647 from ⟨by omega, by omega⟩)
                have tk_60 : TK u_28 (uF u_52 11 13 z_38) := tk_56.F (by decide)
                refine lv_aload_n hx hb dX9_tellRow_165 rfl (lv_at hl 6 rfl) ?_
                refine lv_iload_n hx hb dX9_tellRow_166 rfl (lv_at hl 5 rfl) ?_
                refine sBi (sV (As := [.int (iv z_2)]) (rest := []) (k := 11) Cx (s_X9_tellOneRow l G (uF u_52 11 13 z_38) (nm := z_2) i_59 (by omega) (SG.fr F_57 rfl rfl rfl hsg) tk_60.1) (c_X9_173 Cx rfl rfl (rmk_ok (by omega) (by decide))) hW (by decide) rfl rfl rfl hl.1 rfl (Nat.le_of_ble_eq_true rfl) dX9_tellRow_167 ⟨Nat.le_of_ble_eq_true rfl, Nat.le_of_ble_eq_true rfl⟩) hL (fun r_63 u_61 H locs k_62 hW hL => ?_)
                obtain ⟨iu_61, fu_61, xu_61⟩ := k_62
                have F_64 := F_57.trans fu_61
                have F_65 := F_58.trans fu_61
                refine r_if_ne (tgt := 175) hx hb ⟨(by omega), (by omega)⟩ dX9_tellRow_170 (by decide) (fun c_66 => ?_) (fun c_66 => ?_)
                · refine lv_iinc (v := iv (va + 1)) (lv' := [(6, .int (iv (va + 1))), (5, .int (iv r_41)), (4, .int (iv z_38)), (3, .int (iv r_30)), (2, .int (iv r_26)), (1, .int (iv z_2)), (0, .ref (G.2.2.1 + 11))]) hx hb dX9_tellRow_175 hl (k := 0) rfl ((Int32.ofInt_add _ _).symm) (by decide) rfl (fun ls hl => ?_)
                  refine lv_goto (tgt := 144) hx hb dX9_tellRow_178 (by decide) ?_
                  have tk_67 := TK.trans tk_60 (xu_61.2 (by omega))
                  exact ih_144 u_61 (va + 1) _ _ _ (by omega) iu_61 F_64 F_65 (by omega) tk_67 hW hL (lv_sub hl [0, 1, 2, 3, 4, 5, 6] rfl)
                · refine lv_iconst (v := iv 0) hx hb dX9_tellRow_173 (by decide) ?_
                  exact sZret Cx hr hlk hW hL (by omega) ⟨iu_61, F_64, ⟨(by omega), fun q => absurd q (by omega)⟩⟩ dX9_tellRow_174
          exact loop_144 (_ + 1) u_28 r_44 _ _ _ (Nat.lt_succ_self _) iu_28 F_31 Fr.rf (by omega) tk_2 hW hL (lv_sub hl [0, 1, 2, 3, 4, 5, 6] rfl)
        · refine lv_aload_n hx hb dX9_tellRow_107 rfl (lv_at hl 3 rfl) ?_
          refine lv_iconst (v := iv 2) hx hb dX9_tellRow_108 (by decide) ?_
          refine lv_aload_n hx hb dX9_tellRow_109 rfl (lv_at hl 3 rfl) ?_
          have q_68 : (-2147483648) ≤ u_28.1 11 13 ∧ u_28.1 11 13 ≤ 2147483647 := iu_28.fi 11 13 9 (by decide) rfl
          refine g_X9_89 Cx hW (k := 11) (by decide) rfl (v := u_28.1 11 13) rfl dX9_tellRow_110 ?_
          refine lv_iconst (v := iv 3) hx hb dX9_tellRow_113 (by decide) ?_
          refine r_iadd hx hb dX9_tellRow_114 ?_
          obtain ⟨z_69, ez_69, hz_69, kz_69⟩ := iv_of (iv ((u_28.1 11 13) + 3))
          rw [ez_69]
          have q_70 : 0 ≤ u_28.1 11 9 ∧ u_28.1 11 9 ≤ 128 := iu_28.fi 11 9 9 (by decide) rfl
          refine sBi (sV (As := [.int (iv 2), .int (iv z_69)]) (rest := []) (k := 11) Cx (s_X9_fail l G u_28 (k := 2) (tk := z_69) iu_28 (by omega) (by omega)) (c_X9_132 Cx rfl rfl (rmk_ok (by omega) (by decide))) hW (by decide) rfl rfl rfl hl.1 rfl (Nat.le_of_ble_eq_true rfl) dX9_tellRow_115 ⟨Nat.le_of_ble_eq_true rfl, Nat.le_of_ble_eq_true rfl⟩) hL (fun r_73 u_71 H locs k_72 hW hL => ?_)
          obtain ⟨iu_71, fu_71, xu_71⟩ := k_72
          have F_74 := F_31.trans (fu_71.to (fun k h => pV_G k ((fun k h => pU_V k ((fun k h => pT_U k (p11_T k h)) k h)) k h)))
          have tk_75 := TK.of tk_2 (u := u_71) (by omega) (fun j => (fu_71 17 rfl).2.1 j)
          exact sZret Cx hr hlk hW hL (by omega) ⟨iu_71, F_74, ⟨(by omega), fun q => absurd q (by omega)⟩⟩ dX9_tellRow_118
      · refine lv_iconst (v := iv 0) hx hb dX9_tellRow_95 (by decide) ?_
        exact sZret Cx hr hlk hW hL (by omega) ⟨iu_28, F_31, ⟨(by omega), fun q => absurd q (by omega)⟩⟩ dX9_tellRow_96
    · refine lv_aload_n hx hb dX9_tellRow_45 rfl (lv_at hl 1 rfl) ?_
      refine lv_dup hx hb dX9_tellRow_46 rfl ?_
      refine g_X9_89 Cx hW (k := 11) (by decide) rfl (v := z_10) uF_on dX9_tellRow_47 ?_
      refine lv_iconst (v := iv 1) hx hb dX9_tellRow_50 (by decide) ?_
      refine r_iadd hx hb dX9_tellRow_51 ?_
      obtain ⟨z_76, ez_76, hz_76, kz_76⟩ := iv_of (iv (z_10 + 1))
      rw [ez_76]
      refine p_X9_89 Cx hW hL (k := 11) (by decide) rfl dX9_tellRow_52 (fun H locs hW hL => ?_)
      have F_77 : Fr S (uF (uF u_4 11 13 z_10) 11 13 z_76) pG := F_11.F rfl
      have i_78 : cX G (uF (uF u_4 11 13 z_10) 11 13 z_76) 0 0 0 := i_12.F rfl rfl (show (-2147483648) ≤ z_76 ∧ z_76 ≤ 2147483647 from ⟨by omega, by omega⟩)
      have tk_79 : TK u_4 (uF (uF u_4 11 13 z_10) 11 13 z_76) := tk_13.F (by decide)
      refine lv_aload_n hx hb dX9_tellRow_55 rfl (lv_at hl 1 rfl) ?_
      refine lv_iload_n hx hb dX9_tellRow_56 rfl (lv_at hl 0 rfl) ?_
      refine sBi (sV (As := [.int (iv z_2)]) (rest := []) (k := 11) Cx (s_X9_tellOneRow l G (uF (uF u_4 11 13 z_10) 11 13 z_76) (nm := z_2) i_78 (by omega) (SG.fr F_77 rfl rfl rfl hsg) tk_79.1) (c_X9_173 Cx rfl rfl (rmk_ok (by omega) (by decide))) hW (by decide) rfl rfl rfl hl.1 rfl (Nat.le_of_ble_eq_true rfl) dX9_tellRow_57 ⟨Nat.le_of_ble_eq_true rfl, Nat.le_of_ble_eq_true rfl⟩) hL (fun r_82 u_80 H locs k_81 hW hL => ?_)
      obtain ⟨iu_80, fu_80, xu_80⟩ := k_81
      have F_83 := F_77.trans fu_80
      exact sZret Cx hr hlk hW hL (by omega) ⟨iu_80, F_83, ⟨(by omega), fun q => (TK.trans tk_79 (xu_80.2 q)).1⟩⟩ dX9_tellRow_60
  · refine lv_iconst (v := iv 0) hx hb dX9_tellRow_17 (by decide) ?_
    exact sZret Cx hr hlk hW hL (by omega) ⟨iu_4, F_7, ⟨(by omega), fun q => absurd q (by omega)⟩⟩ dX9_tellRow_18

set_option maxRecDepth 100000 in
set_option maxHeartbeats 4000000 in
theorem s_X9_read (l : Launch) (G : sG) (S : sS) {t N o : Nat} (hI : cX G S 0 0 0) (ht : txt t N) (hm : mdl o) : Met l yX9_read (.code yX9_read cX9_read 5 (some .int) :: tb) (rmk 135 0 0) (sPc G 294 S [.ref (G.2.2.1 + 11), .ref (G.2.2.1 + t), .ref (G.2.2.1 + o)]) (sQi G 294 (fun r u => cX G u 0 0 0 ∧ Fr S u pI ∧ (0 ≤ r ∧ r ≤ 7))) 0 0 (sF G) := by
  refine sEnter (by decide) (Nat.le_of_ble_eq_true rfl) ?_
  intro p e s m args below meth c Cx hr hlk hnm hW ls hl
  have Cx : sC G p m c cX9_read 5 s args RX9 := Cx
  obtain ⟨hx, hb, hml, hown, hts⟩ := id Cx.1
  have hL : sL G [] := sL_nil
  have hl : lv_has ls 5 [(0, .ref (G.2.2.1 + 11)), (1, .ref (G.2.2.1 + t)), (2, .ref (G.2.2.1 + o))] := hl
  have hW0 := hW
  have hN3 := ht.2.2.2.2.2
  refine lv_aload_n hx hb dX9_read_0 rfl (lv_at hl 0 rfl) ?_
  refine lv_iconst (v := iv 0) hx hb dX9_read_1 (by decide) ?_
  refine p_X9_54 Cx hW hL (k := 11) (by decide) rfl dX9_read_2 (fun H locs hW hL => ?_)
  have F_1 : Fr S (uF S 11 14 0) pI := (Fr.rf : Fr S S pI).F rfl
  have i_2 : cX G (uF S 11 14 0) 0 0 0 := hI.F rfl rfl (show 0 ≤ 0 ∧ 0 ≤ 7 from ⟨by omega, by omega⟩)
  refine lv_aload_n hx hb dX9_read_5 rfl (lv_at hl 0 rfl) ?_
  refine lv_iconst (v := iv (-1)) hx hb dX9_read_6 (by decide) ?_
  refine p_X9_50 Cx hW hL (k := 11) (by decide) rfl dX9_read_7 (fun H locs hW hL => ?_)
  have F_3 : Fr S (uF (uF S 11 14 0) 11 16 ((-1))) pI := F_1.F rfl
  have i_4 : cX G (uF (uF S 11 14 0) 11 16 ((-1))) 0 0 0 := i_2.F rfl rfl (show (-2147483648) ≤ (-1) ∧ (-1) ≤ 2147483647 from ⟨by omega, by omega⟩)
  refine lv_aload_n hx hb dX9_read_10 rfl (lv_at hl 1 rfl) ?_
  have q_5 : 0 ≤ S.1 t 1 ∧ S.1 t 1 ≤ (N : Int) := txt_len ht hI
  have lk_6 : (uF (uF S 11 14 0) 11 16 ((-1))).1 t 1 = S.1 t 1 := (uF_ne (fun h => absurd h.2 (by decide))).trans (uF_ne (fun h => absurd h.2 (by decide)))
  refine sBi (sV (As := []) (rest := []) (k := t) Cx (s_X10_length l G (uF (uF S 11 14 0) 11 16 ((-1))) (o := t) (N := N) i_4 ht) (c_X9_57 Cx rfl rfl (rmk_ok (by omega) (by decide))) hW (Nat.lt_trans ht.1 (by decide)) ht.2.1 rfl rfl hl.1 rfl (Nat.le_of_ble_eq_true rfl) dX9_read_11 ⟨Nat.le_of_ble_eq_true rfl, Nat.le_of_ble_eq_true rfl⟩) hL (fun r_9 u_7 H locs k_8 hW hL => ?_)
  obtain ⟨eu_7, xu_7⟩ := k_8
  rw [eu_7] at hW
  refine lv_sipush (v := iv 2000) hx hb dX9_read_14 (by decide) ?_
  refine r_icmp_le (tgt := 37) hx hb ⟨(by omega), (by omega)⟩ ⟨(by omega), (by omega)⟩ dX9_read_17 (by decide) (fun c_10 => ?_) (fun c_10 => ?_)
  · refine lv_aload_n hx hb dX9_read_37 rfl (lv_at hl 0 rfl) ?_
    refine g_X9_14 Cx hW (k := 11) (by decide) rfl (v := .ref (G.2.2.1 + 12)) (rf_11_0 i_4) dX9_read_38 ?_
    refine lv_aload_n hx hb dX9_read_41 rfl (lv_at hl 1 rfl) ?_
    refine sBv (sV (As := [.ref (G.2.2.1 + t)]) (rest := []) (k := 12) Cx (s_X8_scan l G (uF (uF S 11 14 0) 11 16 ((-1))) (t := t) (N := N) i_4 ht) (c_X9_63 Cx rfl rfl (rmk_ok (by omega) (by decide))) hW (by decide) rfl rfl rfl hl.1 rfl (Nat.le_of_ble_eq_true rfl) dX9_read_42 ⟨Nat.le_of_ble_eq_true rfl, Nat.le_of_ble_eq_true rfl⟩) hL (fun u_11 H locs k_12 hW hL => ?_)
    obtain ⟨iu_11, fu_11, xu_11⟩ := k_12
    have F_13 := F_3.trans (fu_11.to pQ_I)
    refine lv_aload_n hx hb dX9_read_45 rfl (lv_at hl 0 rfl) ?_
    refine g_X9_14 Cx hW (k := 11) (by decide) rfl (v := .ref (G.2.2.1 + 12)) (rf_11_0 iu_11) dX9_read_46 ?_
    have q_14 : 0 ≤ u_11.1 12 3 ∧ u_11.1 12 3 ≤ 2001 := iu_11.fi 12 3 8 (by decide) rfl
    refine sBi (sV (As := []) (rest := []) (k := 12) Cx (s_X8_isProgram l G u_11  iu_11) (c_X9_67 Cx rfl rfl (rmk_ok (by omega) (by decide))) hW (by decide) rfl rfl rfl hl.1 rfl (Nat.le_of_ble_eq_true rfl) dX9_read_49 ⟨Nat.le_of_ble_eq_true rfl, Nat.le_of_ble_eq_true rfl⟩) hL (fun r_17 u_15 H locs k_16 hW hL => ?_)
    obtain ⟨iu_15, fu_15, xu_15⟩ := k_16
    have F_18 := F_13.trans (fu_15.to pQ_I)
    refine r_if_ne (tgt := 76) hx hb ⟨(by omega), (by omega)⟩ dX9_read_52 (by decide) (fun c_19 => ?_) (fun c_19 => ?_)
    · have hsg0 : SG u_15 := xu_15.2.2 (by omega) xu_11
      refine lv_aload_n hx hb dX9_read_76 rfl (lv_at hl 0 rfl) ?_
      refine lv_aload_n hx hb dX9_read_77 rfl (lv_at hl 2 rfl) ?_
      refine p_X9_46 Cx hW hL (k := 11) (by decide) rfl dX9_read_78 (fun H locs hW hL => ?_)
      have F_20 : Fr S (uR u_15 11 8 (.ref (G.2.2.1 + o))) pI := F_18.R rfl
      have F_21 : Fr u_15 (uR u_15 11 8 (.ref (G.2.2.1 + o))) pG := (Fr.rf : Fr u_15 u_15 pG).R rfl
      have i_22 : cX G (uR u_15 11 8 (.ref (G.2.2.1 + o))) 0 0 0 := iu_15.mod11 hm
      refine lv_aload_n hx hb dX9_read_81 rfl (lv_at hl 0 rfl) ?_
      refine g_X9_46 Cx hW (k := 11) (by decide) rfl (v := .ref (G.2.2.1 + o)) uR_on dX9_read_82 ?_
      refine sBv (sV (As := []) (rest := []) (k := o) Cx (s_X3_clear l G (uR u_15 11 8 (.ref (G.2.2.1 + o))) (o := o) i_22 hm) (c_X9_74 Cx rfl rfl (rmk_ok (by omega) (by decide))) hW (mdl_l hm) hm.1 rfl rfl hl.1 rfl (Nat.le_of_ble_eq_true rfl) dX9_read_85 ⟨Nat.le_of_ble_eq_true rfl, Nat.le_of_ble_eq_true rfl⟩) hL (fun u_23 H locs k_24 hW hL => ?_)
      obtain ⟨iu_23, fu_23, xu_23⟩ := k_24
      have F_25 := F_20.trans (fu_23.to (pM_sub (pG_I _ (mdl_pG hm).1) (pG_I _ (mdl_pG hm).2.1) (pG_I _ (mdl_pG hm).2.2)))
      have F_26 := F_21.trans (fu_23.to (pM_sub (mdl_pG hm).1 (mdl_pG hm).2.1 (mdl_pG hm).2.2))
      refine lv_aload_n hx hb dX9_read_88 rfl (lv_at hl 0 rfl) ?_
      refine lv_iconst (v := iv 0) hx hb dX9_read_89 (by decide) ?_
      refine p_X9_77 Cx hW hL (k := 11) (by decide) rfl dX9_read_90 (fun H locs hW hL => ?_)
      have F_27 : Fr S (uF u_23 11 9 0) pI := F_25.F rfl
      have F_28 : Fr u_15 (uF u_23 11 9 0) pG := F_26.F rfl
      have i_29 : cX G (uF u_23 11 9 0) 0 0 0 := iu_23.F rfl rfl (show 0 ≤ 0 ∧ 0 ≤ 128 from ⟨by omega, by omega⟩)
      refine lv_aload_n hx hb dX9_read_93 rfl (lv_at hl 0 rfl) ?_
      refine lv_iconst (v := iv 0) hx hb dX9_read_94 (by decide) ?_
      refine p_X9_80 Cx hW hL (k := 11) (by decide) rfl dX9_read_95 (fun H locs hW hL => ?_)
      have F_30 : Fr S (uF (uF u_23 11 9 0) 11 10 0) pI := F_27.F rfl
      have F_31 : Fr u_15 (uF (uF u_23 11 9 0) 11 10 0) pG := F_28.F rfl
      have i_32 : cX G (uF (uF u_23 11 9 0) 11 10 0) 0 0 0 := i_29.F rfl rfl (show 0 ≤ 0 ∧ 0 ≤ 8 from ⟨by omega, by omega⟩)
      refine lv_aload_n hx hb dX9_read_98 rfl (lv_at hl 0 rfl) ?_
      refine lv_iconst (v := iv 0) hx hb dX9_read_99 (by decide) ?_
      refine p_X9_83 Cx hW hL (k := 11) (by decide) rfl dX9_read_100 (fun H locs hW hL => ?_)
      have F_33 : Fr S (uF (uF (uF u_23 11 9 0) 11 10 0) 11 11 0) pI := F_30.F rfl
      have F_34 : Fr u_15 (uF (uF (uF u_23 11 9 0) 11 10 0) 11 11 0) pG := F_31.F rfl
      have i_35 : cX G (uF (uF (uF u_23 11 9 0) 11 10 0) 11 11 0) 0 0 0 := i_32.F rfl rfl (show 0 ≤ 0 ∧ 0 ≤ 12 from ⟨by omega, by omega⟩)
      refine lv_aload_n hx hb dX9_read_103 rfl (lv_at hl 0 rfl) ?_
      refine lv_iconst (v := iv 0) hx hb dX9_read_104 (by decide) ?_
      refine p_X9_86 Cx hW hL (k := 11) (by decide) rfl dX9_read_105 (fun H locs hW hL => ?_)
      have F_36 : Fr S (uF (uF (uF (uF u_23 11 9 0) 11 10 0) 11 11 0) 11 12 0) pI := F_33.F rfl
      have F_37 : Fr u_15 (uF (uF (uF (uF u_23 11 9 0) 11 10 0) 11 11 0) 11 12 0) pG := F_34.F rfl
      have i_38 : cX G (uF (uF (uF (uF u_23 11 9 0) 11 10 0) 11 11 0) 11 12 0) 0 0 0 := i_35.F rfl rfl (show (-2147483648) ≤ 0 ∧ 0 ≤ 2147483647 from ⟨by omega, by omega⟩)
      refine lv_aload_n hx hb dX9_read_108 rfl (lv_at hl 0 rfl) ?_
      refine lv_iconst (v := iv 0) hx hb dX9_read_109 (by decide) ?_
      refine p_X9_89 Cx hW hL (k := 11) (by decide) rfl dX9_read_110 (fun H locs hW hL => ?_)
      have F_39 : Fr S (uF (uF (uF (uF (uF u_23 11 9 0) 11 10 0) 11 11 0) 11 12 0) 11 13 0) pI := F_36.F rfl
      have F_40 : Fr u_15 (uF (uF (uF (uF (uF u_23 11 9 0) 11 10 0) 11 11 0) 11 12 0) 11 13 0) pG := F_37.F rfl
      have i_41 : cX G (uF (uF (uF (uF (uF u_23 11 9 0) 11 10 0) 11 11 0) 11 12 0) 11 13 0) 0 0 0 := i_38.F rfl rfl (show (-2147483648) ≤ 0 ∧ 0 ≤ 2147483647 from ⟨by omega, by omega⟩)
      refine lv_iconst (v := iv 1) hx hb dX9_read_113 (by decide) ?_
      refine lv_istore_n (lv' := [(3, .int (iv 1)), (0, .ref (G.2.2.1 + 11)), (1, .ref (G.2.2.1 + t)), (2, .ref (G.2.2.1 + o))]) hx hb dX9_read_114 rfl hl (by decide) rfl (fun ls hl => ?_)
      refine lv_iconst (v := iv 0) hx hb dX9_read_115 (by decide) ?_
      refine lv_istore (lv' := [(4, .int (iv 0)), (3, .int (iv 1)), (0, .ref (G.2.2.1 + 11)), (1, .ref (G.2.2.1 + t)), (2, .ref (G.2.2.1 + o))]) hx hb dX9_read_116 hl (by decide) rfl (fun ls hl => ?_)
      have loop_118 : ∀ (fuel : Nat) (S118 : sS) (i : Int) (fi : Int) (H : Heap) (locs : List Loc) (ls : Array Slot), (2001 - i).toNat < fuel → (cX G S118 0 0 0) → (Fr S S118 pI) → (Fr u_15 S118 pG) → (Fr ((uF (uF (uF (uF (uF u_23 11 9 0) 11 10 0) 11 11 0) 11 12 0) 11 13 0)) S118 pG) → (0 ≤ fi ∧ fi ≤ 1) → (0 ≤ i ∧ i ≤ 2001) → (Hd (fi = 1 → TS S118)) → sW G 294 S118 H → sL G locs → lv_has ls 5 [(4, .int (iv i)), (3, .int (iv fi)), (0, .ref (G.2.2.1 + 11)), (1, .ref (G.2.2.1 + t)), (2, .ref (G.2.2.1 + o))] → W p l e (rmk 135 0 0) s m args below meth c H locs 0 0 (MQ below (sQi G 294 (fun r u => cX G u 0 0 0 ∧ Fr S u pI ∧ (0 ≤ r ∧ r ≤ 7))) args s 0 0 (sF G)) (F0 m 118 ls []) := by
        intro fuel
        induction fuel with
        | zero => intro S118 i fi H locs ls hmeas hI118 hFm118 hFg118 hL118_ hfi hi hTL hW hL hl; exact absurd hmeas (Nat.not_lt_zero _)
        | succ fuel ih_118 =>
          intro S118 i fi H locs ls hmeas hI118 hFm118 hFg118 hL118_ hfi hi hTL hW hL hl
          refine lv_iload hx hb dX9_read_118 (lv_at hl 0 rfl) ?_
          refine lv_aload_n hx hb dX9_read_120 rfl (lv_at hl 2 rfl) ?_
          refine g_X9_14 Cx hW (k := 11) (by decide) rfl (v := .ref (G.2.2.1 + 12)) (rf_11_0 hI118) dX9_read_121 ?_
          have q_42 : 0 ≤ u_15.1 12 3 ∧ u_15.1 12 3 ≤ 2001 := iu_15.fi 12 3 8 (by decide) rfl
          have lk_43 : S118.1 12 3 = u_15.1 12 3 := ((hL118_ 12 rfl).1 3).trans ((uF_ne (fun h => absurd h.2 (by decide))).trans ((uF_ne (fun h => absurd h.2 (by decide))).trans ((uF_ne (fun h => absurd h.2 (by decide))).trans ((uF_ne (fun h => absurd h.2 (by decide))).trans ((uF_ne (fun h => absurd h.2 (by decide))).trans (((fu_23 12 (pM_no (tau_ne (rfl : tau 12 = .inl 8) hm.1 (fun h => by cases h)) (tau_ne (rfl : tau 12 = .inl 8) hm.2.1 (fun h => by cases h)) (tau_ne (rfl : tau 12 = .inl 8) hm.2.2.1 (fun h => by cases h)))).1 3).trans (uR_f)))))))
          refine sBi (sV (As := []) (rest := [.int (iv i)]) (k := 12) Cx (s_X8_tokenCount l G S118  hI118) (c_X9_92 Cx rfl rfl (rmk_ok (by omega) (by decide))) hW (by decide) rfl rfl rfl hl.1 rfl (Nat.le_of_ble_eq_true rfl) dX9_read_124 ⟨Nat.le_of_ble_eq_true rfl, Nat.le_of_ble_eq_true rfl⟩) hL (fun r_46 u_44 H locs k_45 hW hL => ?_)
          obtain ⟨eu_44, xu_44⟩ := k_45
          rw [eu_44] at hW
          refine r_icmp_ge (tgt := 235) hx hb ⟨(by omega), (by omega)⟩ ⟨(by omega), (by omega)⟩ dX9_read_127 (by decide) (fun c_47 => ?_) (fun c_47 => ?_)
          · refine lv_aload_n hx hb dX9_read_235 rfl (lv_at hl 2 rfl) ?_
            refine lv_iload_n hx hb dX9_read_236 rfl (lv_at hl 1 rfl) ?_
            refine r_if_eq (tgt := 244) hx hb ⟨(by omega), (by omega)⟩ dX9_read_237 (by decide) (fun c_48 => ?_) (fun c_48 => ?_)
            · refine lv_aload_n hx hb dX9_read_244 rfl (lv_at hl 2 rfl) ?_
              refine g_X9_14 Cx hW (k := 11) (by decide) rfl (v := .ref (G.2.2.1 + 12)) (rf_11_0 hI118) dX9_read_245 ?_
              refine lv_aload_n hx hb dX9_read_248 rfl (lv_at hl 2 rfl) ?_
              have q_49 : (-2147483648) ≤ S118.1 11 15 ∧ S118.1 11 15 ≤ 2147483647 := hI118.fi 11 15 9 (by decide) rfl
              refine g_X9_114 Cx hW (k := 11) (by decide) rfl (v := S118.1 11 15) rfl dX9_read_249 ?_
              refine sBi (sV (As := [.int (iv (S118.1 11 15))]) (rest := [.ref (G.2.2.1 + 11)]) (k := 12) Cx (s_X8_start l G S118 (k := S118.1 11 15) hI118 (by omega)) (c_X9_117 Cx rfl rfl (rmk_ok (by omega) (by decide))) hW (by decide) rfl rfl rfl hl.1 rfl (Nat.le_of_ble_eq_true rfl) dX9_read_252 ⟨Nat.le_of_ble_eq_true rfl, Nat.le_of_ble_eq_true rfl⟩) hL (fun r_52 u_50 H locs k_51 hW hL => ?_)
              obtain ⟨eu_50, xu_50⟩ := k_51
              rw [eu_50] at hW
              refine p_X9_50 Cx hW hL (k := 11) (by decide) rfl dX9_read_255 (fun H locs hW hL => ?_)
              have F_53 : Fr S (uF S118 11 16 r_52) pI := hFm118.F rfl
              have F_54 : Fr u_15 (uF S118 11 16 r_52) pG := hFg118.F rfl
              have F_55 : Fr ((uF (uF (uF (uF (uF u_23 11 9 0) 11 10 0) 11 11 0) 11 12 0) 11 13 0)) (uF S118 11 16 r_52) pG := hL118_.F rfl
              have i_56 : cX G (uF S118 11 16 r_52) 0 0 0 := hI118.F rfl rfl (show (-2147483648) ≤ r_52 ∧ r_52 ≤ 2147483647 from ⟨by omega, by omega⟩)
              refine lv_aload_n hx hb dX9_read_258 rfl (lv_at hl 2 rfl) ?_
              have q_57 : 0 ≤ S118.1 11 14 ∧ S118.1 11 14 ≤ 7 := hI118.fi 11 14 9 (by decide) rfl
              refine g_X9_54 Cx hW (k := 11) (by decide) rfl (v := S118.1 11 14) (uF_ne (fun h => absurd h.2 (by decide))) dX9_read_259 ?_
              exact sIret Cx hr hlk hW hL ⟨i_56, F_53, (by omega)⟩ dX9_read_262
            · refine lv_iconst (v := iv (-1)) hx hb dX9_read_240 (by decide) ?_
              refine lv_goto (tgt := 255) hx hb dX9_read_241 (by decide) ?_
              refine p_X9_50 Cx hW hL (k := 11) (by decide) rfl dX9_read_255 (fun H locs hW hL => ?_)
              have F_58 : Fr S (uF S118 11 16 ((-1))) pI := hFm118.F rfl
              have F_59 : Fr u_15 (uF S118 11 16 ((-1))) pG := hFg118.F rfl
              have F_60 : Fr ((uF (uF (uF (uF (uF u_23 11 9 0) 11 10 0) 11 11 0) 11 12 0) 11 13 0)) (uF S118 11 16 ((-1))) pG := hL118_.F rfl
              have i_61 : cX G (uF S118 11 16 ((-1))) 0 0 0 := hI118.F rfl rfl (show (-2147483648) ≤ (-1) ∧ (-1) ≤ 2147483647 from ⟨by omega, by omega⟩)
              refine lv_aload_n hx hb dX9_read_258 rfl (lv_at hl 2 rfl) ?_
              have q_62 : 0 ≤ S118.1 11 14 ∧ S118.1 11 14 ≤ 7 := hI118.fi 11 14 9 (by decide) rfl
              refine g_X9_54 Cx hW (k := 11) (by decide) rfl (v := S118.1 11 14) (uF_ne (fun h => absurd h.2 (by decide))) dX9_read_259 ?_
              exact sIret Cx hr hlk hW hL ⟨i_61, F_58, (by omega)⟩ dX9_read_262
          · refine lv_iload_n hx hb dX9_read_130 rfl (lv_at hl 1 rfl) ?_
            refine r_if_eq (tgt := 235) hx hb ⟨(by omega), (by omega)⟩ dX9_read_131 (by decide) (fun c_63 => ?_) (fun c_63 => ?_)
            · refine lv_aload_n hx hb dX9_read_235 rfl (lv_at hl 2 rfl) ?_
              refine lv_iload_n hx hb dX9_read_236 rfl (lv_at hl 1 rfl) ?_
              refine r_if_eq (tgt := 244) hx hb ⟨(by omega), (by omega)⟩ dX9_read_237 (by decide) (fun c_64 => ?_) (fun c_64 => ?_)
              · refine lv_aload_n hx hb dX9_read_244 rfl (lv_at hl 2 rfl) ?_
                refine g_X9_14 Cx hW (k := 11) (by decide) rfl (v := .ref (G.2.2.1 + 12)) (rf_11_0 hI118) dX9_read_245 ?_
                refine lv_aload_n hx hb dX9_read_248 rfl (lv_at hl 2 rfl) ?_
                have q_65 : (-2147483648) ≤ S118.1 11 15 ∧ S118.1 11 15 ≤ 2147483647 := hI118.fi 11 15 9 (by decide) rfl
                refine g_X9_114 Cx hW (k := 11) (by decide) rfl (v := S118.1 11 15) rfl dX9_read_249 ?_
                refine sBi (sV (As := [.int (iv (S118.1 11 15))]) (rest := [.ref (G.2.2.1 + 11)]) (k := 12) Cx (s_X8_start l G S118 (k := S118.1 11 15) hI118 (by omega)) (c_X9_117 Cx rfl rfl (rmk_ok (by omega) (by decide))) hW (by decide) rfl rfl rfl hl.1 rfl (Nat.le_of_ble_eq_true rfl) dX9_read_252 ⟨Nat.le_of_ble_eq_true rfl, Nat.le_of_ble_eq_true rfl⟩) hL (fun r_68 u_66 H locs k_67 hW hL => ?_)
                obtain ⟨eu_66, xu_66⟩ := k_67
                rw [eu_66] at hW
                refine p_X9_50 Cx hW hL (k := 11) (by decide) rfl dX9_read_255 (fun H locs hW hL => ?_)
                have F_69 : Fr S (uF S118 11 16 r_68) pI := hFm118.F rfl
                have F_70 : Fr u_15 (uF S118 11 16 r_68) pG := hFg118.F rfl
                have F_71 : Fr ((uF (uF (uF (uF (uF u_23 11 9 0) 11 10 0) 11 11 0) 11 12 0) 11 13 0)) (uF S118 11 16 r_68) pG := hL118_.F rfl
                have i_72 : cX G (uF S118 11 16 r_68) 0 0 0 := hI118.F rfl rfl (show (-2147483648) ≤ r_68 ∧ r_68 ≤ 2147483647 from ⟨by omega, by omega⟩)
                refine lv_aload_n hx hb dX9_read_258 rfl (lv_at hl 2 rfl) ?_
                have q_73 : 0 ≤ S118.1 11 14 ∧ S118.1 11 14 ≤ 7 := hI118.fi 11 14 9 (by decide) rfl
                refine g_X9_54 Cx hW (k := 11) (by decide) rfl (v := S118.1 11 14) (uF_ne (fun h => absurd h.2 (by decide))) dX9_read_259 ?_
                exact sIret Cx hr hlk hW hL ⟨i_72, F_69, (by omega)⟩ dX9_read_262
              · refine lv_iconst (v := iv (-1)) hx hb dX9_read_240 (by decide) ?_
                refine lv_goto (tgt := 255) hx hb dX9_read_241 (by decide) ?_
                refine p_X9_50 Cx hW hL (k := 11) (by decide) rfl dX9_read_255 (fun H locs hW hL => ?_)
                have F_74 : Fr S (uF S118 11 16 ((-1))) pI := hFm118.F rfl
                have F_75 : Fr u_15 (uF S118 11 16 ((-1))) pG := hFg118.F rfl
                have F_76 : Fr ((uF (uF (uF (uF (uF u_23 11 9 0) 11 10 0) 11 11 0) 11 12 0) 11 13 0)) (uF S118 11 16 ((-1))) pG := hL118_.F rfl
                have i_77 : cX G (uF S118 11 16 ((-1))) 0 0 0 := hI118.F rfl rfl (show (-2147483648) ≤ (-1) ∧ (-1) ≤ 2147483647 from ⟨by omega, by omega⟩)
                refine lv_aload_n hx hb dX9_read_258 rfl (lv_at hl 2 rfl) ?_
                have q_78 : 0 ≤ S118.1 11 14 ∧ S118.1 11 14 ≤ 7 := hI118.fi 11 14 9 (by decide) rfl
                refine g_X9_54 Cx hW (k := 11) (by decide) rfl (v := S118.1 11 14) (uF_ne (fun h => absurd h.2 (by decide))) dX9_read_259 ?_
                exact sIret Cx hr hlk hW hL ⟨i_77, F_74, (by omega)⟩ dX9_read_262
            · refine lv_aload_n hx hb dX9_read_134 rfl (lv_at hl 2 rfl) ?_
              refine g_X9_14 Cx hW (k := 11) (by decide) rfl (v := .ref (G.2.2.1 + 12)) (rf_11_0 hI118) dX9_read_135 ?_
              refine lv_aload_n hx hb dX9_read_138 rfl (lv_at hl 2 rfl) ?_
              have q_79 : (-2147483648) ≤ S118.1 11 13 ∧ S118.1 11 13 ≤ 2147483647 := hI118.fi 11 13 9 (by decide) rfl
              refine g_X9_89 Cx hW (k := 11) (by decide) rfl (v := S118.1 11 13) rfl dX9_read_139 ?_
              refine sBi (sV (As := [.int (iv (S118.1 11 13))]) (rest := []) (k := 12) Cx (s_X8_kind l G S118 (k := S118.1 11 13) hI118 (by omega)) (c_X9_95 Cx rfl rfl (rmk_ok (by omega) (by decide))) hW (by decide) rfl rfl rfl hl.1 rfl (Nat.le_of_ble_eq_true rfl) dX9_read_142 ⟨Nat.le_of_ble_eq_true rfl, Nat.le_of_ble_eq_true rfl⟩) hL (fun r_82 u_80 H locs k_81 hW hL => ?_)
              obtain ⟨eu_80, xu_80⟩ := k_81
              rw [eu_80] at hW
              refine r_if_eq (tgt := 235) hx hb ⟨(by omega), (by omega)⟩ dX9_read_145 (by decide) (fun c_83 => ?_) (fun c_83 => ?_)
              · refine lv_aload_n hx hb dX9_read_235 rfl (lv_at hl 2 rfl) ?_
                refine lv_iload_n hx hb dX9_read_236 rfl (lv_at hl 1 rfl) ?_
                refine r_if_eq (tgt := 244) hx hb ⟨(by omega), (by omega)⟩ dX9_read_237 (by decide) (fun c_84 => ?_) (fun c_84 => ?_)
                · refine lv_aload_n hx hb dX9_read_244 rfl (lv_at hl 2 rfl) ?_
                  refine g_X9_14 Cx hW (k := 11) (by decide) rfl (v := .ref (G.2.2.1 + 12)) (rf_11_0 hI118) dX9_read_245 ?_
                  refine lv_aload_n hx hb dX9_read_248 rfl (lv_at hl 2 rfl) ?_
                  have q_85 : (-2147483648) ≤ S118.1 11 15 ∧ S118.1 11 15 ≤ 2147483647 := hI118.fi 11 15 9 (by decide) rfl
                  refine g_X9_114 Cx hW (k := 11) (by decide) rfl (v := S118.1 11 15) rfl dX9_read_249 ?_
                  refine sBi (sV (As := [.int (iv (S118.1 11 15))]) (rest := [.ref (G.2.2.1 + 11)]) (k := 12) Cx (s_X8_start l G S118 (k := S118.1 11 15) hI118 (by omega)) (c_X9_117 Cx rfl rfl (rmk_ok (by omega) (by decide))) hW (by decide) rfl rfl rfl hl.1 rfl (Nat.le_of_ble_eq_true rfl) dX9_read_252 ⟨Nat.le_of_ble_eq_true rfl, Nat.le_of_ble_eq_true rfl⟩) hL (fun r_88 u_86 H locs k_87 hW hL => ?_)
                  obtain ⟨eu_86, xu_86⟩ := k_87
                  rw [eu_86] at hW
                  refine p_X9_50 Cx hW hL (k := 11) (by decide) rfl dX9_read_255 (fun H locs hW hL => ?_)
                  have F_89 : Fr S (uF S118 11 16 r_88) pI := hFm118.F rfl
                  have F_90 : Fr u_15 (uF S118 11 16 r_88) pG := hFg118.F rfl
                  have F_91 : Fr ((uF (uF (uF (uF (uF u_23 11 9 0) 11 10 0) 11 11 0) 11 12 0) 11 13 0)) (uF S118 11 16 r_88) pG := hL118_.F rfl
                  have i_92 : cX G (uF S118 11 16 r_88) 0 0 0 := hI118.F rfl rfl (show (-2147483648) ≤ r_88 ∧ r_88 ≤ 2147483647 from ⟨by omega, by omega⟩)
                  refine lv_aload_n hx hb dX9_read_258 rfl (lv_at hl 2 rfl) ?_
                  have q_93 : 0 ≤ S118.1 11 14 ∧ S118.1 11 14 ≤ 7 := hI118.fi 11 14 9 (by decide) rfl
                  refine g_X9_54 Cx hW (k := 11) (by decide) rfl (v := S118.1 11 14) (uF_ne (fun h => absurd h.2 (by decide))) dX9_read_259 ?_
                  exact sIret Cx hr hlk hW hL ⟨i_92, F_89, (by omega)⟩ dX9_read_262
                · refine lv_iconst (v := iv (-1)) hx hb dX9_read_240 (by decide) ?_
                  refine lv_goto (tgt := 255) hx hb dX9_read_241 (by decide) ?_
                  refine p_X9_50 Cx hW hL (k := 11) (by decide) rfl dX9_read_255 (fun H locs hW hL => ?_)
                  have F_94 : Fr S (uF S118 11 16 ((-1))) pI := hFm118.F rfl
                  have F_95 : Fr u_15 (uF S118 11 16 ((-1))) pG := hFg118.F rfl
                  have F_96 : Fr ((uF (uF (uF (uF (uF u_23 11 9 0) 11 10 0) 11 11 0) 11 12 0) 11 13 0)) (uF S118 11 16 ((-1))) pG := hL118_.F rfl
                  have i_97 : cX G (uF S118 11 16 ((-1))) 0 0 0 := hI118.F rfl rfl (show (-2147483648) ≤ (-1) ∧ (-1) ≤ 2147483647 from ⟨by omega, by omega⟩)
                  refine lv_aload_n hx hb dX9_read_258 rfl (lv_at hl 2 rfl) ?_
                  have q_98 : 0 ≤ S118.1 11 14 ∧ S118.1 11 14 ≤ 7 := hI118.fi 11 14 9 (by decide) rfl
                  refine g_X9_54 Cx hW (k := 11) (by decide) rfl (v := S118.1 11 14) (uF_ne (fun h => absurd h.2 (by decide))) dX9_read_259 ?_
                  exact sIret Cx hr hlk hW hL ⟨i_97, F_94, (by omega)⟩ dX9_read_262
              · refine lv_aload_n hx hb dX9_read_148 rfl (lv_at hl 2 rfl) ?_
                refine g_X9_14 Cx hW (k := 11) (by decide) rfl (v := .ref (G.2.2.1 + 12)) (rf_11_0 hI118) dX9_read_149 ?_
                refine lv_aload_n hx hb dX9_read_152 rfl (lv_at hl 2 rfl) ?_
                refine g_X9_89 Cx hW (k := 11) (by decide) rfl (v := S118.1 11 13) rfl dX9_read_153 ?_
                refine sBi (sV (As := [.int (iv (S118.1 11 13))]) (rest := []) (k := 12) Cx (s_X8_kind l G S118 (k := S118.1 11 13) hI118 (by omega)) (c_X9_95 Cx rfl rfl (rmk_ok (by omega) (by decide))) hW (by decide) rfl rfl rfl hl.1 rfl (Nat.le_of_ble_eq_true rfl) dX9_read_156 ⟨Nat.le_of_ble_eq_true rfl, Nat.le_of_ble_eq_true rfl⟩) hL (fun r_101 u_99 H locs k_100 hW hL => ?_)
                obtain ⟨eu_99, xu_99⟩ := k_100
                rw [eu_99] at hW
                by_cases c_102 : r_101 = 6
                · refine lv_tableIn (off := 33) (tgt := 192) hx hb dX9_read_159 (by rw [c_102]; decide) (by rw [c_102]; decide) (by rw [c_102]; decide) (by decide) ?_
                  refine lv_aload_n hx hb dX9_read_192 rfl (lv_at hl 2 rfl) ?_
                  have q_103 : 0 ≤ S118.1 11 9 ∧ S118.1 11 9 ≤ 128 := hI118.fi 11 9 9 (by decide) rfl
                  refine sBi (sV (As := []) (rest := []) (k := 11) Cx (s_X9_tellSet l G S118  hI118 (SG.fr hFg118 rfl rfl rfl hsg0) (hTL (by omega))) (c_X9_99 Cx rfl rfl (rmk_ok (by omega) (by decide))) hW (by decide) rfl rfl rfl hl.1 rfl (Nat.le_of_ble_eq_true rfl) dX9_read_193 ⟨Nat.le_of_ble_eq_true rfl, Nat.le_of_ble_eq_true rfl⟩) hL (fun r_106 u_104 H locs k_105 hW hL => ?_)
                  obtain ⟨iu_104, fu_104, xu_104⟩ := k_105
                  have F_107 := hFm118.trans (fu_104.to (fun k h => pG_I k ((fun k h => pV_G k ((fun k h => pU_V k (pT_U k h)) k h)) k h)))
                  have F_108 := hFg118.trans (fu_104.to (fun k h => pV_G k ((fun k h => pU_V k (pT_U k h)) k h)))
                  have F_109 := hL118_.trans (fu_104.to (fun k h => pV_G k ((fun k h => pU_V k (pT_U k h)) k h)))
                  refine lv_istore_n (lv' := [(3, .int (iv r_106)), (4, .int (iv i)), (0, .ref (G.2.2.1 + 11)), (1, .ref (G.2.2.1 + t)), (2, .ref (G.2.2.1 + o))]) hx hb dX9_read_196 rfl hl (by decide) rfl (fun ls hl => ?_)
                  refine lv_goto (tgt := 229) hx hb dX9_read_197 (by decide) ?_
                  refine lv_iinc (v := iv (i + 1)) (lv' := [(4, .int (iv (i + 1))), (3, .int (iv r_106)), (0, .ref (G.2.2.1 + 11)), (1, .ref (G.2.2.1 + t)), (2, .ref (G.2.2.1 + o))]) hx hb dX9_read_229 hl (k := 1) rfl ((Int32.ofInt_add _ _).symm) (by decide) rfl (fun ls hl => ?_)
                  refine lv_goto (tgt := 118) hx hb dX9_read_232 (by decide) ?_
                  exact ih_118 u_104 (i + 1) r_106 _ _ _ (by omega) iu_104 F_107 F_108 F_109 (by omega) (by omega) (fun q => xu_104.2.2 q) hW hL (lv_sub hl [0, 1, 2, 3, 4] rfl)
                by_cases c_110 : r_101 = 7
                · refine lv_tableIn (off := 41) (tgt := 200) hx hb dX9_read_159 (by rw [c_110]; decide) (by rw [c_110]; decide) (by rw [c_110]; decide) (by decide) ?_
                  refine lv_aload_n hx hb dX9_read_200 rfl (lv_at hl 2 rfl) ?_
                  have q_111 : 0 ≤ S118.1 11 9 ∧ S118.1 11 9 ≤ 128 := hI118.fi 11 9 9 (by decide) rfl
                  refine sBi (sV (As := []) (rest := []) (k := 11) Cx (s_X9_tellPar l G S118  hI118 (SG.fr hFg118 rfl rfl rfl hsg0) (hTL (by omega))) (c_X9_102 Cx rfl rfl (rmk_ok (by omega) (by decide))) hW (by decide) rfl rfl rfl hl.1 rfl (Nat.le_of_ble_eq_true rfl) dX9_read_201 ⟨Nat.le_of_ble_eq_true rfl, Nat.le_of_ble_eq_true rfl⟩) hL (fun r_114 u_112 H locs k_113 hW hL => ?_)
                  obtain ⟨iu_112, fu_112, xu_112⟩ := k_113
                  have F_115 := hFm118.trans (fu_112.to (fun k h => pG_I k ((fun k h => pV_G k (pU_V k h)) k h)))
                  have F_116 := hFg118.trans (fu_112.to (fun k h => pV_G k (pU_V k h)))
                  have F_117 := hL118_.trans (fu_112.to (fun k h => pV_G k (pU_V k h)))
                  refine lv_istore_n (lv' := [(3, .int (iv r_114)), (4, .int (iv i)), (0, .ref (G.2.2.1 + 11)), (1, .ref (G.2.2.1 + t)), (2, .ref (G.2.2.1 + o))]) hx hb dX9_read_204 rfl hl (by decide) rfl (fun ls hl => ?_)
                  refine lv_goto (tgt := 229) hx hb dX9_read_205 (by decide) ?_
                  refine lv_iinc (v := iv (i + 1)) (lv' := [(4, .int (iv (i + 1))), (3, .int (iv r_114)), (0, .ref (G.2.2.1 + 11)), (1, .ref (G.2.2.1 + t)), (2, .ref (G.2.2.1 + o))]) hx hb dX9_read_229 hl (k := 1) rfl ((Int32.ofInt_add _ _).symm) (by decide) rfl (fun ls hl => ?_)
                  refine lv_goto (tgt := 118) hx hb dX9_read_232 (by decide) ?_
                  exact ih_118 u_112 (i + 1) r_114 _ _ _ (by omega) iu_112 F_115 F_116 F_117 (by omega) (by omega) (fun q => xu_112.2.2 q) hW hL (lv_sub hl [0, 1, 2, 3, 4] rfl)
                by_cases c_118 : r_101 = 8
                · refine lv_tableIn (off := 49) (tgt := 208) hx hb dX9_read_159 (by rw [c_118]; decide) (by rw [c_118]; decide) (by rw [c_118]; decide) (by decide) ?_
                  refine lv_aload_n hx hb dX9_read_208 rfl (lv_at hl 2 rfl) ?_
                  refine sBi (sV (As := []) (rest := []) (k := 11) Cx (s_X9_tellVar l G S118  hI118 (SG.fr hFg118 rfl rfl rfl hsg0) (hTL (by omega))) (c_X9_105 Cx rfl rfl (rmk_ok (by omega) (by decide))) hW (by decide) rfl rfl rfl hl.1 rfl (Nat.le_of_ble_eq_true rfl) dX9_read_209 ⟨Nat.le_of_ble_eq_true rfl, Nat.le_of_ble_eq_true rfl⟩) hL (fun r_121 u_119 H locs k_120 hW hL => ?_)
                  obtain ⟨iu_119, fu_119, xu_119⟩ := k_120
                  have F_122 := hFm118.trans (fu_119.to pG_I)
                  have F_123 := hFg118.trans fu_119
                  have F_124 := hL118_.trans fu_119
                  refine lv_istore_n (lv' := [(3, .int (iv r_121)), (4, .int (iv i)), (0, .ref (G.2.2.1 + 11)), (1, .ref (G.2.2.1 + t)), (2, .ref (G.2.2.1 + o))]) hx hb dX9_read_212 rfl hl (by decide) rfl (fun ls hl => ?_)
                  refine lv_goto (tgt := 229) hx hb dX9_read_213 (by decide) ?_
                  refine lv_iinc (v := iv (i + 1)) (lv' := [(4, .int (iv (i + 1))), (3, .int (iv r_121)), (0, .ref (G.2.2.1 + 11)), (1, .ref (G.2.2.1 + t)), (2, .ref (G.2.2.1 + o))]) hx hb dX9_read_229 hl (k := 1) rfl ((Int32.ofInt_add _ _).symm) (by decide) rfl (fun ls hl => ?_)
                  refine lv_goto (tgt := 118) hx hb dX9_read_232 (by decide) ?_
                  exact ih_118 u_119 (i + 1) r_121 _ _ _ (by omega) iu_119 F_122 F_123 F_124 (by omega) (by omega) (fun q => xu_119.2 q) hW hL (lv_sub hl [0, 1, 2, 3, 4] rfl)
                by_cases c_125 : r_101 = 9
                · refine lv_tableIn (off := 65) (tgt := 224) hx hb dX9_read_159 (by rw [c_125]; decide) (by rw [c_125]; decide) (by rw [c_125]; decide) (by decide) ?_
                  refine lv_aload_n hx hb dX9_read_224 rfl (lv_at hl 2 rfl) ?_
                  refine sBi (sV (As := []) (rest := []) (k := 11) Cx (s_X9_tellGoal l G S118  hI118 (SG.fr hFg118 rfl rfl rfl hsg0) (hTL (by omega))) (c_X9_111 Cx rfl rfl (rmk_ok (by omega) (by decide))) hW (by decide) rfl rfl rfl hl.1 rfl (Nat.le_of_ble_eq_true rfl) dX9_read_225 ⟨Nat.le_of_ble_eq_true rfl, Nat.le_of_ble_eq_true rfl⟩) hL (fun r_128 u_126 H locs k_127 hW hL => ?_)
                  obtain ⟨iu_126, fu_126, xu_126⟩ := k_127
                  have F_129 := hFm118.trans (fu_126.to pG_I)
                  have F_130 := hFg118.trans fu_126
                  have F_131 := hL118_.trans fu_126
                  refine lv_istore_n (lv' := [(3, .int (iv r_128)), (4, .int (iv i)), (0, .ref (G.2.2.1 + 11)), (1, .ref (G.2.2.1 + t)), (2, .ref (G.2.2.1 + o))]) hx hb dX9_read_228 rfl hl (by decide) rfl (fun ls hl => ?_)
                  refine lv_iinc (v := iv (i + 1)) (lv' := [(4, .int (iv (i + 1))), (3, .int (iv r_128)), (0, .ref (G.2.2.1 + 11)), (1, .ref (G.2.2.1 + t)), (2, .ref (G.2.2.1 + o))]) hx hb dX9_read_229 hl (k := 1) rfl ((Int32.ofInt_add _ _).symm) (by decide) rfl (fun ls hl => ?_)
                  refine lv_goto (tgt := 118) hx hb dX9_read_232 (by decide) ?_
                  exact ih_118 u_126 (i + 1) r_128 _ _ _ (by omega) iu_126 F_129 F_130 F_131 (by omega) (by omega) (fun q => xu_126.2 q) hW hL (lv_sub hl [0, 1, 2, 3, 4] rfl)
                by_cases c_132 : r_101 = 10
                · refine lv_tableIn (off := 57) (tgt := 216) hx hb dX9_read_159 (by rw [c_132]; decide) (by rw [c_132]; decide) (by rw [c_132]; decide) (by decide) ?_
                  refine lv_aload_n hx hb dX9_read_216 rfl (lv_at hl 2 rfl) ?_
                  refine sBi (sV (As := []) (rest := []) (k := 11) Cx (s_X9_tellRow l G S118  hI118 (SG.fr hFg118 rfl rfl rfl hsg0) (hTL (by omega))) (c_X9_108 Cx rfl rfl (rmk_ok (by omega) (by decide))) hW (by decide) rfl rfl rfl hl.1 rfl (Nat.le_of_ble_eq_true rfl) dX9_read_217 ⟨Nat.le_of_ble_eq_true rfl, Nat.le_of_ble_eq_true rfl⟩) hL (fun r_135 u_133 H locs k_134 hW hL => ?_)
                  obtain ⟨iu_133, fu_133, xu_133⟩ := k_134
                  have F_136 := hFm118.trans (fu_133.to pG_I)
                  have F_137 := hFg118.trans fu_133
                  have F_138 := hL118_.trans fu_133
                  refine lv_istore_n (lv' := [(3, .int (iv r_135)), (4, .int (iv i)), (0, .ref (G.2.2.1 + 11)), (1, .ref (G.2.2.1 + t)), (2, .ref (G.2.2.1 + o))]) hx hb dX9_read_220 rfl hl (by decide) rfl (fun ls hl => ?_)
                  refine lv_goto (tgt := 229) hx hb dX9_read_221 (by decide) ?_
                  refine lv_iinc (v := iv (i + 1)) (lv' := [(4, .int (iv (i + 1))), (3, .int (iv r_135)), (0, .ref (G.2.2.1 + 11)), (1, .ref (G.2.2.1 + t)), (2, .ref (G.2.2.1 + o))]) hx hb dX9_read_229 hl (k := 1) rfl ((Int32.ofInt_add _ _).symm) (by decide) rfl (fun ls hl => ?_)
                  refine lv_goto (tgt := 118) hx hb dX9_read_232 (by decide) ?_
                  exact ih_118 u_133 (i + 1) r_135 _ _ _ (by omega) iu_133 F_136 F_137 F_138 (by omega) (by omega) (fun q => xu_133.2 q) hW hL (lv_sub hl [0, 1, 2, 3, 4] rfl)
                refine lv_tableOut (tgt := 224) hx hb dX9_read_159 (by rw [iv_toInt ⟨(by omega), (by omega)⟩]; omega) (by decide) ?_
                refine lv_aload_n hx hb dX9_read_224 rfl (lv_at hl 2 rfl) ?_
                refine sBi (sV (As := []) (rest := []) (k := 11) Cx (s_X9_tellGoal l G S118  hI118 (SG.fr hFg118 rfl rfl rfl hsg0) (hTL (by omega))) (c_X9_111 Cx rfl rfl (rmk_ok (by omega) (by decide))) hW (by decide) rfl rfl rfl hl.1 rfl (Nat.le_of_ble_eq_true rfl) dX9_read_225 ⟨Nat.le_of_ble_eq_true rfl, Nat.le_of_ble_eq_true rfl⟩) hL (fun r_141 u_139 H locs k_140 hW hL => ?_)
                obtain ⟨iu_139, fu_139, xu_139⟩ := k_140
                have F_142 := hFm118.trans (fu_139.to pG_I)
                have F_143 := hFg118.trans fu_139
                have F_144 := hL118_.trans fu_139
                refine lv_istore_n (lv' := [(3, .int (iv r_141)), (4, .int (iv i)), (0, .ref (G.2.2.1 + 11)), (1, .ref (G.2.2.1 + t)), (2, .ref (G.2.2.1 + o))]) hx hb dX9_read_228 rfl hl (by decide) rfl (fun ls hl => ?_)
                refine lv_iinc (v := iv (i + 1)) (lv' := [(4, .int (iv (i + 1))), (3, .int (iv r_141)), (0, .ref (G.2.2.1 + 11)), (1, .ref (G.2.2.1 + t)), (2, .ref (G.2.2.1 + o))]) hx hb dX9_read_229 hl (k := 1) rfl ((Int32.ofInt_add _ _).symm) (by decide) rfl (fun ls hl => ?_)
                refine lv_goto (tgt := 118) hx hb dX9_read_232 (by decide) ?_
                exact ih_118 u_139 (i + 1) r_141 _ _ _ (by omega) iu_139 F_142 F_143 F_144 (by omega) (by omega) (fun q => xu_139.2 q) hW hL (lv_sub hl [0, 1, 2, 3, 4] rfl)
      exact loop_118 (_ + 1) (uF (uF (uF (uF (uF u_23 11 9 0) 11 10 0) 11 11 0) 11 12 0) 11 13 0) 0 1 _ _ _ (Nat.lt_succ_self _) i_41 F_39 F_40 Fr.rf (by omega) (by omega) (fun _ => TS0 ((uF_ne (fun h => absurd h.2 (by decide))).trans ((uF_ne (fun h => absurd h.2 (by decide))).trans ((uF_ne (fun h => absurd h.2 (by decide))).trans ((uF_ne (fun h => absurd h.2 (by decide))).trans (uF_on)))))) hW hL (lv_sub hl [0, 1, 2, 3, 4] rfl)
    · refine lv_aload_n hx hb dX9_read_55 rfl (lv_at hl 0 rfl) ?_
      refine lv_iconst (v := iv 1) hx hb dX9_read_56 (by decide) ?_
      refine p_X9_54 Cx hW hL (k := 11) (by decide) rfl dX9_read_57 (fun H locs hW hL => ?_)
      have F_145 : Fr S (uF u_15 11 14 1) pI := F_18.F rfl
      have i_146 : cX G (uF u_15 11 14 1) 0 0 0 := iu_15.F rfl rfl (show 0 ≤ 1 ∧ 1 ≤ 7 from ⟨by omega, by omega⟩)
      refine lv_aload_n hx hb dX9_read_60 rfl (lv_at hl 0 rfl) ?_
      refine lv_aload_n hx hb dX9_read_61 rfl (lv_at hl 0 rfl) ?_
      refine g_X9_14 Cx hW (k := 11) (by decide) rfl (v := .ref (G.2.2.1 + 12)) (rf_11_0 i_146) dX9_read_62 ?_
      refine sBi (sV (As := []) (rest := [.ref (G.2.2.1 + 11)]) (k := 12) Cx (s_X8_stopPlace l G (uF u_15 11 14 1)  i_146) (c_X9_71 Cx rfl rfl (rmk_ok (by omega) (by decide))) hW (by decide) rfl rfl rfl hl.1 rfl (Nat.le_of_ble_eq_true rfl) dX9_read_65 ⟨Nat.le_of_ble_eq_true rfl, Nat.le_of_ble_eq_true rfl⟩) hL (fun r_149 u_147 H locs k_148 hW hL => ?_)
      obtain ⟨eu_147, xu_147⟩ := k_148
      rw [eu_147] at hW
      refine p_X9_50 Cx hW hL (k := 11) (by decide) rfl dX9_read_68 (fun H locs hW hL => ?_)
      have F_150 : Fr S (uF (uF u_15 11 14 1) 11 16 r_149) pI := F_145.F rfl
      have i_151 : cX G (uF (uF u_15 11 14 1) 11 16 r_149) 0 0 0 := i_146.F rfl rfl (show (-2147483648) ≤ r_149 ∧ r_149 ≤ 2147483647 from ⟨by omega, by omega⟩)
      refine lv_aload_n hx hb dX9_read_71 rfl (lv_at hl 0 rfl) ?_
      refine g_X9_54 Cx hW (k := 11) (by decide) rfl (v := 1) ((uF_ne (fun h => absurd h.2 (by decide))).trans (uF_on)) dX9_read_72 ?_
      exact sIret Cx hr hlk hW hL ⟨i_151, F_150, (by omega)⟩ dX9_read_75
  · refine lv_aload_n hx hb dX9_read_20 rfl (lv_at hl 0 rfl) ?_
    refine lv_iconst (v := iv 1) hx hb dX9_read_21 (by decide) ?_
    refine p_X9_54 Cx hW hL (k := 11) (by decide) rfl dX9_read_22 (fun H locs hW hL => ?_)
    have F_152 : Fr S (uF (uF (uF S 11 14 0) 11 16 ((-1))) 11 14 1) pI := F_3.F rfl
    have i_153 : cX G (uF (uF (uF S 11 14 0) 11 16 ((-1))) 11 14 1) 0 0 0 := i_4.F rfl rfl (show 0 ≤ 1 ∧ 1 ≤ 7 from ⟨by omega, by omega⟩)
    refine lv_aload_n hx hb dX9_read_25 rfl (lv_at hl 0 rfl) ?_
    refine lv_sipush (v := iv 2000) hx hb dX9_read_26 (by decide) ?_
    refine p_X9_50 Cx hW hL (k := 11) (by decide) rfl dX9_read_29 (fun H locs hW hL => ?_)
    have F_154 : Fr S (uF (uF (uF (uF S 11 14 0) 11 16 ((-1))) 11 14 1) 11 16 2000) pI := F_152.F rfl
    have i_155 : cX G (uF (uF (uF (uF S 11 14 0) 11 16 ((-1))) 11 14 1) 11 16 2000) 0 0 0 := i_153.F rfl rfl (show (-2147483648) ≤ 2000 ∧ 2000 ≤ 2147483647 from ⟨by omega, by omega⟩)
    refine lv_aload_n hx hb dX9_read_32 rfl (lv_at hl 0 rfl) ?_
    refine g_X9_54 Cx hW (k := 11) (by decide) rfl (v := 1) ((uF_ne (fun h => absurd h.2 (by decide))).trans (uF_on)) dX9_read_33 ?_
    exact sIret Cx hr hlk hW hL ⟨i_155, F_154, (by omega)⟩ dX9_read_36
