/-! The first reading: factors, products, sums, by the depth that is left -/
def FrC (l : Launch) (G : sG) (D : Nat) (K V : Int → Int) (T : Int) (N : Nat) : Prop := ∀ (S : sS) (pz dp : Int), dX G S → S.2.1 244 = K → S.2.1 247 = V → S.1 231 24 = pz → Hd (S.1 231 20 = 0 → 0 ≤ pz ∧ pz ≤ T - 1) → ((N : Int) = 30 - dp ∧ 0 ≤ dp) → Met l yX12_factorRead (.code yX12_factorRead cX12_factorRead 2 none :: tb) (rmk D 0 0) (sPc G 294 S [.ref (G.2.2.1 + 231), .int (iv dp)]) (sQv G 294 (fun u => dX G u ∧ Fr S u (pl [231]) ∧ FF S u (fl [20, 21, 24]) ∧ (Hd (u.1 231 20 = 0 → S.1 231 20 = 0 ∧ gF K V N pz (u.1 231 24) ∧ pz < u.1 231 24 ∧ 0 ≤ u.1 231 24 ∧ u.1 231 24 ≤ T - 1)))) 0 0 (sF G)
def PrC (l : Launch) (G : sG) (D : Nat) (K V : Int → Int) (T : Int) (N : Nat) : Prop := ∀ (S : sS) (pz dp : Int), dX G S → S.2.1 244 = K → S.2.1 247 = V → S.1 231 24 = pz → Hd (S.1 231 20 = 0 → 0 ≤ pz ∧ pz ≤ T - 1) → ((N : Int) = 30 - dp ∧ 0 ≤ dp) → Met l yX12_productRead (.code yX12_productRead cX12_productRead 2 none :: tb) (rmk D 0 0) (sPc G 294 S [.ref (G.2.2.1 + 231), .int (iv dp)]) (sQv G 294 (fun u => dX G u ∧ Fr S u (pl [231]) ∧ FF S u (fl [20, 21, 24]) ∧ (Hd (u.1 231 20 = 0 → S.1 231 20 = 0 ∧ gP K V (gF K V N) pz (u.1 231 24) ∧ pz < u.1 231 24 ∧ 0 ≤ u.1 231 24 ∧ u.1 231 24 ≤ T - 1)))) 0 0 (sF G)
def SuC (l : Launch) (G : sG) (D : Nat) (K V : Int → Int) (T : Int) (N : Nat) : Prop := ∀ (S : sS) (pz dp : Int), dX G S → S.2.1 244 = K → S.2.1 247 = V → S.1 231 24 = pz → Hd (S.1 231 20 = 0 → 0 ≤ pz ∧ pz ≤ T - 1) → ((N : Int) = 30 - dp ∧ 0 ≤ dp) → Met l yX12_sumRead (.code yX12_sumRead cX12_sumRead 2 none :: tb) (rmk D 0 0) (sPc G 294 S [.ref (G.2.2.1 + 231), .int (iv dp)]) (sQv G 294 (fun u => dX G u ∧ Fr S u (pl [231]) ∧ FF S u (fl [20, 21, 24]) ∧ (Hd (u.1 231 20 = 0 → S.1 231 20 = 0 ∧ gU K V (gF K V N) pz (u.1 231 24) ∧ pz < u.1 231 24 ∧ 0 ≤ u.1 231 24 ∧ u.1 231 24 ≤ T - 1)))) 0 0 (sF G)
def gPtE (K V : Int → Int) (T : Int) : Prop := ∃ a, gTl (fun c => gW K V c 2 ∨ gW K V c 3 ∨ gW K V c 4) (gT K V) 0 a ∧ (gW K V a 0 ∨ gW K V a 1) ∧ ∃ b, gU K V (gF K V 30) (a + 1) b ∧ ∃ c, gs K V 59 b c ∧ ∃ d, gTl (fun c => gW K V c 6) (gRo K V (gF K V 30)) c d ∧ K d = 5 ∧ d ≤ T - 1
set_option maxRecDepth 100000 in
set_option maxHeartbeats 4000000 in
theorem s_X12_factorRead (l : Launch) (G : sG) (S : sS) {K V : Int → Int} {T pz : Int} {D d1 d2 N : Nat} {dp : Int} (hI : dX G S) (hN : (N : Int) = 30 - dp ∧ 0 ≤ dp) (h1 : d1 < D) (h2 : d2 < D) (h8 : 8 ≤ D) (hF : Hd (∀ n, N = n + 1 → FrC l G d1 K V T n)) (hU : Hd (∀ n, N = n + 1 → SuC l G d2 K V T n)) (hK : S.2.1 244 = K) (hV : S.2.1 247 = V) (hE : gE K T) (hc : S.1 231 24 = pz) (hcu : Hd (S.1 231 20 = 0 → 0 ≤ pz ∧ pz ≤ T - 1)) : Met l yX12_factorRead (.code yX12_factorRead cX12_factorRead 2 none :: tb) (rmk D 0 0) (sPc G 294 S [.ref (G.2.2.1 + 231), .int (iv dp)]) (sQv G 294 (fun u => dX G u ∧ Fr S u (pl [231]) ∧ FF S u (fl [20, 21, 24]) ∧ (Hd (u.1 231 20 = 0 → S.1 231 20 = 0 ∧ gF K V N pz (u.1 231 24) ∧ pz < u.1 231 24 ∧ 0 ≤ u.1 231 24 ∧ u.1 231 24 ≤ T - 1)))) 0 0 (sF G) := by
  refine sEnter (by decide) (Nat.le_of_ble_eq_true rfl) ?_
  intro p e s m args below meth c Cx hr hlk hnm hW ls hl
  have Cx : sC G p m c cX12_factorRead 2 s args RX12 := Cx
  obtain ⟨hx, hb, hml, hown, hts⟩ := id Cx.1
  have hL : sL G [] := sL_nil
  have hl : lv_has ls 2 [(0, .ref (G.2.2.1 + 231)), (1, .int (iv dp))] := hl
  have hW0 := hW
  have hE1 := hE.1
  refine lv_aload_n hx hb dX12_factorRead_0 rfl (lv_at hl 0 rfl) ?_
  have q_1 : (-2147483648) ≤ S.1 231 20 ∧ S.1 231 20 ≤ 2147483647 := hI.fi 20
  refine g_X12_270 Cx hW (k := 231) (by decide) rfl (v := S.1 231 20) rfl dX12_factorRead_1 ?_
  refine r_if_eq (tgt := 8) hx hb ⟨(by omega), (by omega)⟩ dX12_factorRead_4 (by decide) (fun c_2 => ?_) (fun c_2 => ?_)
  · have b_3 := hcu (by have e9 := (show S.1 231 20 = S.1 231 20 from rfl); omega)
    refine lv_iload_n hx hb dX12_factorRead_8 rfl (lv_at hl 1 rfl) ?_
    refine lv_bipush (v := iv 30) hx hb dX12_factorRead_9 (by decide) ?_
    refine r_icmp_lt (tgt := 24) hx hb ⟨(by omega), (by omega)⟩ ⟨(by omega), (by omega)⟩ dX12_factorRead_11 (by decide) (fun c_4 => ?_) (fun c_4 => ?_)
    · obtain ⟨n, rfl⟩ : ∃ n, N = n + 1 := ⟨N - 1, by omega⟩
      refine lv_aload_n hx hb dX12_factorRead_24 rfl (lv_at hl 0 rfl) ?_
      refine lv_bipush (v := iv 45) hx hb dX12_factorRead_25 (by decide) ?_
      have q_5 : (-2147483648) ≤ S.1 231 24 ∧ S.1 231 24 ≤ 2147483647 := hI.fi 24
      refine sBi (sV (As := [.int (iv 45)]) (rest := []) (k := 231) Cx (s_X12_isSign l G S (sv := 45) (K := K) (V := V) (pz := pz) hI (by omega) hK hV (by omega) (by omega)) (c_X12_318 Cx rfl rfl (rmk_ok (by omega) (by decide))) hW (by decide) rfl rfl rfl hl.1 rfl (Nat.le_of_ble_eq_true rfl) dX12_factorRead_27 ⟨Nat.le_of_ble_eq_true rfl, Nat.le_of_ble_eq_true rfl⟩) hL (fun r_8 u_6 H locs k_7 hW hL => ?_)
      obtain ⟨eu_6, xu_6⟩ := k_7
      rw [eu_6] at hW
      refine r_if_eq (tgt := 53) hx hb ⟨(by omega), (by omega)⟩ dX12_factorRead_30 (by decide) (fun c_9 => ?_) (fun c_9 => ?_)
      · refine lv_aload_n hx hb dX12_factorRead_53 rfl (lv_at hl 0 rfl) ?_
        refine g_X12_47 Cx hW (k := 231) (by decide) rfl (v := .ref (G.2.2.1 + 244)) (rd_15 hI) dX12_factorRead_54 ?_
        refine lv_aload_n hx hb dX12_factorRead_57 rfl (lv_at hl 0 rfl) ?_
        refine g_X12_315 Cx hW (k := 231) (by decide) rfl (v := S.1 231 24) rfl dX12_factorRead_58 ?_
        refine rIald Cx hW (k := 244) (by decide) rfl (by decide) (by omega) (by omega) dX12_factorRead_61 ?_
        have q_10 : (-2147483648) ≤ S.2.1 244 (S.1 231 24) ∧ S.2.1 244 (S.1 231 24) ≤ 2147483647 := hI.ai 244 (S.1 231 24)
        refine r_i (b := S.2.1 244 (S.1 231 24)) rfl ?_
        have hr1 : K pz = S.2.1 244 (S.1 231 24) := by rw [← hK, ← hc]
        refine lv_iconst (v := iv 2) hx hb dX12_factorRead_62 (by decide) ?_
        refine r_icmp_ne (tgt := 79) hx hb ⟨(by omega), (by omega)⟩ ⟨(by omega), (by omega)⟩ dX12_factorRead_63 (by decide) (fun c_11 => ?_) (fun c_11 => ?_)
        · refine lv_aload_n hx hb dX12_factorRead_79 rfl (lv_at hl 0 rfl) ?_
          refine lv_bipush (v := iv 40) hx hb dX12_factorRead_80 (by decide) ?_
          refine sBi (sV (As := [.int (iv 40)]) (rest := []) (k := 231) Cx (s_X12_isSign l G S (sv := 40) (K := K) (V := V) (pz := pz) hI (by omega) hK hV (by omega) (by omega)) (c_X12_318 Cx rfl rfl (rmk_ok (by omega) (by decide))) hW (by decide) rfl rfl rfl hl.1 rfl (Nat.le_of_ble_eq_true rfl) dX12_factorRead_82 ⟨Nat.le_of_ble_eq_true rfl, Nat.le_of_ble_eq_true rfl⟩) hL (fun r_14 u_12 H locs k_13 hW hL => ?_)
          obtain ⟨eu_12, xu_12⟩ := k_13
          rw [eu_12] at hW
          refine r_if_eq (tgt := 114) hx hb ⟨(by omega), (by omega)⟩ dX12_factorRead_85 (by decide) (fun c_15 => ?_) (fun c_15 => ?_)
          · refine lv_aload_n hx hb dX12_factorRead_114 rfl (lv_at hl 0 rfl) ?_
            refine lv_bipush (v := iv 7) hx hb dX12_factorRead_115 (by decide) ?_
            refine sBi (sV (As := [.int (iv 7)]) (rest := []) (k := 231) Cx (s_X12_isWord l G S (sv := 7) (K := K) (V := V) (pz := pz) hI (by omega) hK hV (by omega) (by omega)) (c_X12_325 Cx rfl rfl (rmk_ok (by omega) (by decide))) hW (by decide) rfl rfl rfl hl.1 rfl (Nat.le_of_ble_eq_true rfl) dX12_factorRead_117 ⟨Nat.le_of_ble_eq_true rfl, Nat.le_of_ble_eq_true rfl⟩) hL (fun r_18 u_16 H locs k_17 hW hL => ?_)
            obtain ⟨eu_16, xu_16⟩ := k_17
            rw [eu_16] at hW
            refine r_if_eq (tgt := 171) hx hb ⟨(by omega), (by omega)⟩ dX12_factorRead_120 (by decide) (fun c_19 => ?_) (fun c_19 => ?_)
            · refine lv_aload_n hx hb dX12_factorRead_171 rfl (lv_at hl 0 rfl) ?_
              refine g_X12_47 Cx hW (k := 231) (by decide) rfl (v := .ref (G.2.2.1 + 244)) (rd_15 hI) dX12_factorRead_172 ?_
              refine lv_aload_n hx hb dX12_factorRead_175 rfl (lv_at hl 0 rfl) ?_
              refine g_X12_315 Cx hW (k := 231) (by decide) rfl (v := S.1 231 24) rfl dX12_factorRead_176 ?_
              refine rIald Cx hW (k := 244) (by decide) rfl (by decide) (by omega) (by omega) dX12_factorRead_179 ?_
              refine r_i (b := S.2.1 244 (S.1 231 24)) rfl ?_
              have hr1 : K pz = S.2.1 244 (S.1 231 24) := by rw [← hK, ← hc]
              refine lv_iconst (v := iv 1) hx hb dX12_factorRead_180 (by decide) ?_
              refine r_icmp_ne (tgt := 257) hx hb ⟨(by omega), (by omega)⟩ ⟨(by omega), (by omega)⟩ dX12_factorRead_181 (by decide) (fun c_20 => ?_) (fun c_20 => ?_)
              · refine lv_aload_n hx hb dX12_factorRead_257 rfl (lv_at hl 0 rfl) ?_
                refine lv_iconst (v := iv 1) hx hb dX12_factorRead_258 (by decide) ?_
                refine lv_aload_n hx hb dX12_factorRead_259 rfl (lv_at hl 0 rfl) ?_
                refine g_X12_315 Cx hW (k := 231) (by decide) rfl (v := S.1 231 24) rfl dX12_factorRead_260 ?_
                refine sBv (sV (As := [.int (iv 1), .int (iv (S.1 231 24))]) (rest := []) (k := 231) Cx (s_X12_wrong l G S (cd := 1) (tk := S.1 231 24) hI (by omega) (by omega)) (c_X12_321 Cx rfl rfl (rmk_ok (by omega) (by decide))) hW (by decide) rfl rfl rfl hl.1 rfl (Nat.le_of_ble_eq_true rfl) dX12_factorRead_263 ⟨Nat.le_of_ble_eq_true rfl, Nat.le_of_ble_eq_true rfl⟩) hL (fun u_21 H locs k_22 hW hL => ?_)
                obtain ⟨iu_21, fu_21, gu_21, xu_21⟩ := k_22
                have F_23 := (Fr.rf : Fr S S (pl [231])).trans fu_21
                have g_24 : FF S u_21 (fl [20, 21, 24]) := FF.trans FF.rf (FF.to gu_21 (fl_sub (by decide)))
                have q_25 : (-2147483648) ≤ u_21.1 231 20 ∧ u_21.1 231 20 ≤ 2147483647 := iu_21.fi 20
                have lk_26 : u_21.1 231 24 = S.1 231 24 := gu_21 24 rfl
                exact sVret Cx hr hlk hW hL ⟨iu_21, F_23, g_24, (fun h => absurd h (by have e9 := (show u_21.1 231 20 = u_21.1 231 20 from rfl); have a9 := xu_21; omega))⟩ dX12_factorRead_266
              · refine lv_aload_n hx hb dX12_factorRead_184 rfl (lv_at hl 0 rfl) ?_
                refine lv_dup hx hb dX12_factorRead_185 rfl ?_
                refine g_X12_315 Cx hW (k := 231) (by decide) rfl (v := S.1 231 24) rfl dX12_factorRead_186 ?_
                have n_27 := hE.nx (pz := pz) (by omega) (by omega)
                refine lv_iconst (v := iv 1) hx hb dX12_factorRead_189 (by decide) ?_
                refine r_iadd hx hb dX12_factorRead_190 ?_
                refine p_X12_315 Cx hW hL (k := 231) (by decide) rfl dX12_factorRead_191 (fun H locs hW hL => ?_)
                have F_28 : Fr S (uF S 231 24 ((S.1 231 24) + 1)) (pl [231]) := (Fr.rf : Fr S S (pl [231])).F rfl
                have g_29 : FF S (uF S 231 24 ((S.1 231 24) + 1)) (fl [20, 21, 24]) := FF.F FF.rf rfl
                have i_30 : dX G (uF S 231 24 ((S.1 231 24) + 1)) := hI.F (i := 24) (show (-2147483648) ≤ (S.1 231 24) + 1 ∧ (S.1 231 24) + 1 ≤ 2147483647 from ⟨by omega, by omega⟩)
                refine lv_aload_n hx hb dX12_factorRead_194 rfl (lv_at hl 0 rfl) ?_
                refine lv_bipush (v := iv 91) hx hb dX12_factorRead_195 (by decide) ?_
                have lk_31 : (uF S 231 24 ((S.1 231 24) + 1)).1 231 24 = (S.1 231 24) + 1 := uF_on
                refine sBi (sV (As := [.int (iv 91)]) (rest := []) (k := 231) Cx (s_X12_isSign l G (uF S 231 24 ((S.1 231 24) + 1)) (sv := 91) (K := K) (V := V) (pz := (pz) + 1) i_30 (by omega) ((funext fun j => uF_a : (uF S 231 24 ((S.1 231 24) + 1)).2.1 244 = S.2.1 244).trans hK) ((funext fun j => uF_a : (uF S 231 24 ((S.1 231 24) + 1)).2.1 247 = S.2.1 247).trans hV) (by omega) (by omega)) (c_X12_318 Cx rfl rfl (rmk_ok (by omega) (by decide))) hW (by decide) rfl rfl rfl hl.1 rfl (Nat.le_of_ble_eq_true rfl) dX12_factorRead_197 ⟨Nat.le_of_ble_eq_true rfl, Nat.le_of_ble_eq_true rfl⟩) hL (fun r_34 u_32 H locs k_33 hW hL => ?_)
                obtain ⟨eu_32, xu_32⟩ := k_33
                rw [eu_32] at hW
                refine r_if_ne (tgt := 204) hx hb ⟨(by omega), (by omega)⟩ dX12_factorRead_200 (by decide) (fun c_35 => ?_) (fun c_35 => ?_)
                · refine lv_aload_n hx hb dX12_factorRead_204 rfl (lv_at hl 0 rfl) ?_
                  refine lv_dup hx hb dX12_factorRead_205 rfl ?_
                  refine g_X12_315 Cx hW (k := 231) (by decide) rfl (v := (S.1 231 24) + 1) uF_on dX12_factorRead_206 ?_
                  have n_36 := hE.nx (pz := (pz) + 1) (by omega) (by have z := (xu_32.2.1 (by omega)); unfold gS at z; omega)
                  refine lv_iconst (v := iv 1) hx hb dX12_factorRead_209 (by decide) ?_
                  refine r_iadd hx hb dX12_factorRead_210 ?_
                  refine p_X12_315 Cx hW hL (k := 231) (by decide) rfl dX12_factorRead_211 (fun H locs hW hL => ?_)
                  have F_37 : Fr S (uF (uF S 231 24 ((S.1 231 24) + 1)) 231 24 (((S.1 231 24) + 1) + 1)) (pl [231]) := F_28.F rfl
                  have g_38 : FF S (uF (uF S 231 24 ((S.1 231 24) + 1)) 231 24 (((S.1 231 24) + 1) + 1)) (fl [20, 21, 24]) := FF.F g_29 rfl
                  have i_39 : dX G (uF (uF S 231 24 ((S.1 231 24) + 1)) 231 24 (((S.1 231 24) + 1) + 1)) := i_30.F (i := 24) (show (-2147483648) ≤ ((S.1 231 24) + 1) + 1 ∧ ((S.1 231 24) + 1) + 1 ≤ 2147483647 from ⟨by omega, by omega⟩)
                  refine lv_aload_n hx hb dX12_factorRead_214 rfl (lv_at hl 0 rfl) ?_
                  have lk_40 : (uF (uF S 231 24 ((S.1 231 24) + 1)) 231 24 (((S.1 231 24) + 1) + 1)).1 231 24 = ((S.1 231 24) + 1) + 1 := uF_on
                  have lk_41 : (uF (uF S 231 24 ((S.1 231 24) + 1)) 231 24 (((S.1 231 24) + 1) + 1)).1 231 20 = S.1 231 20 := (uF_ne (fun h => absurd h.2 (by decide))).trans (uF_ne (fun h => absurd h.2 (by decide)))
                  refine sBv (sV (As := []) (rest := []) (k := 231) Cx (s_X12_indexRead l G (uF (uF S 231 24 ((S.1 231 24) + 1)) 231 24 (((S.1 231 24) + 1) + 1)) (K := K) (V := V) (T := T) (pz := ((pz) + 1) + 1) i_39 ((funext fun j => (uF_a).trans (uF_a) : (uF (uF S 231 24 ((S.1 231 24) + 1)) 231 24 (((S.1 231 24) + 1) + 1)).2.1 244 = S.2.1 244).trans hK) ((funext fun j => (uF_a).trans (uF_a) : (uF (uF S 231 24 ((S.1 231 24) + 1)) 231 24 (((S.1 231 24) + 1) + 1)).2.1 247 = S.2.1 247).trans hV) hE (by omega) (fun h => by have e8 := (show (uF (uF S 231 24 ((S.1 231 24) + 1)) 231 24 (((S.1 231 24) + 1) + 1)).1 231 20 = S.1 231 20 from (uF_ne (fun h => absurd h.2 (by decide))).trans (uF_ne (fun h => absurd h.2 (by decide)))); have a9 := hcu (by have e9 := (show (uF (uF S 231 24 ((S.1 231 24) + 1)) 231 24 (((S.1 231 24) + 1) + 1)).1 231 20 = S.1 231 20 from (uF_ne (fun h => absurd h.2 (by decide))).trans (uF_ne (fun h => absurd h.2 (by decide)))); omega); omega)) (c_X12_355 Cx rfl rfl (rmk_ok (by omega) (by decide))) hW (by decide) rfl rfl rfl hl.1 rfl (Nat.le_of_ble_eq_true rfl) dX12_factorRead_215 ⟨Nat.le_of_ble_eq_true rfl, Nat.le_of_ble_eq_true rfl⟩) hL (fun u_42 H locs k_43 hW hL => ?_)
                  obtain ⟨iu_42, fu_42, gu_42, xu_42⟩ := k_43
                  have F_44 := F_37.trans fu_42
                  have g_45 : FF S u_42 (fl [20, 21, 24]) := FF.trans g_38 (FF.to gu_42 (fl_sub (by decide)))
                  refine lv_aload_n hx hb dX12_factorRead_218 rfl (lv_at hl 0 rfl) ?_
                  have q_46 : (-2147483648) ≤ u_42.1 231 20 ∧ u_42.1 231 20 ≤ 2147483647 := iu_42.fi 20
                  refine g_X12_270 Cx hW (k := 231) (by decide) rfl (v := u_42.1 231 20) rfl dX12_factorRead_219 ?_
                  refine r_if_ne (tgt := 248) hx hb ⟨(by omega), (by omega)⟩ dX12_factorRead_222 (by decide) (fun c_47 => ?_) (fun c_47 => ?_)
                  · refine lv_aload_n hx hb dX12_factorRead_248 rfl (lv_at hl 0 rfl) ?_
                    refine lv_bipush (v := iv 93) hx hb dX12_factorRead_249 (by decide) ?_
                    have q_48 : (-2147483648) ≤ u_42.1 231 24 ∧ u_42.1 231 24 ≤ 2147483647 := iu_42.fi 24
                    refine sBv (sV (As := [.int (iv 93)]) (rest := []) (k := 231) Cx (s_X12_want l G u_42 (sv := 93) (K := K) (V := V) (T := T) (pz := u_42.1 231 24) iu_42 (by omega) ((funext fun j => ((fu_42 244 rfl).2.1 j).trans ((uF_a).trans (uF_a)) : u_42.2.1 244 = S.2.1 244).trans hK) ((funext fun j => ((fu_42 247 rfl).2.1 j).trans ((uF_a).trans (uF_a)) : u_42.2.1 247 = S.2.1 247).trans hV) hE (by omega) (fun h => by have e8 := (show u_42.1 231 20 = u_42.1 231 20 from rfl); have a9 := xu_42 (by have e9 := (show u_42.1 231 20 = u_42.1 231 20 from rfl); omega); omega)) (c_X12_331 Cx rfl rfl (rmk_ok (by omega) (by decide))) hW (by decide) rfl rfl rfl hl.1 rfl (Nat.le_of_ble_eq_true rfl) dX12_factorRead_251 ⟨Nat.le_of_ble_eq_true rfl, Nat.le_of_ble_eq_true rfl⟩) hL (fun u_49 H locs k_50 hW hL => ?_)
                    obtain ⟨iu_49, fu_49, gu_49, xu_49⟩ := k_50
                    have F_51 := F_44.trans fu_49
                    have g_52 : FF S u_49 (fl [20, 21, 24]) := FF.trans g_45 (FF.to gu_49 (fl_sub (by decide)))
                    refine lv_goto (tgt := 266) hx hb dX12_factorRead_254 (by decide) ?_
                    have q_53 : (-2147483648) ≤ u_49.1 231 20 ∧ u_49.1 231 20 ≤ 2147483647 := iu_49.fi 20
                    have q_54 : (-2147483648) ≤ u_49.1 231 24 ∧ u_49.1 231 24 ≤ 2147483647 := iu_49.fi 24
                    exact sVret Cx hr hlk hW hL ⟨iu_49, F_51, g_52, (fun h => by have e8 := (show u_49.1 231 20 = u_49.1 231 20 from rfl); have au_49 := xu_49 (by have e9 := (show u_49.1 231 20 = u_49.1 231 20 from rfl); omega); have au_42 := xu_42 au_49.1; exfalso; omega)⟩ dX12_factorRead_266
                  · have b_55 := xu_42 (by have e9 := (show u_42.1 231 20 = u_42.1 231 20 from rfl); omega)
                    refine lv_aload_n hx hb dX12_factorRead_225 rfl (lv_at hl 0 rfl) ?_
                    refine lv_bipush (v := iv 44) hx hb dX12_factorRead_226 (by decide) ?_
                    have q_56 : (-2147483648) ≤ u_42.1 231 24 ∧ u_42.1 231 24 ≤ 2147483647 := iu_42.fi 24
                    refine sBi (sV (As := [.int (iv 44)]) (rest := []) (k := 231) Cx (s_X12_isSign l G u_42 (sv := 44) (K := K) (V := V) (pz := u_42.1 231 24) iu_42 (by omega) ((funext fun j => ((fu_42 244 rfl).2.1 j).trans ((uF_a).trans (uF_a)) : u_42.2.1 244 = S.2.1 244).trans hK) ((funext fun j => ((fu_42 247 rfl).2.1 j).trans ((uF_a).trans (uF_a)) : u_42.2.1 247 = S.2.1 247).trans hV) (by omega) (by omega)) (c_X12_318 Cx rfl rfl (rmk_ok (by omega) (by decide))) hW (by decide) rfl rfl rfl hl.1 rfl (Nat.le_of_ble_eq_true rfl) dX12_factorRead_228 ⟨Nat.le_of_ble_eq_true rfl, Nat.le_of_ble_eq_true rfl⟩) hL (fun r_59 u_57 H locs k_58 hW hL => ?_)
                    obtain ⟨eu_57, xu_57⟩ := k_58
                    rw [eu_57] at hW
                    refine r_if_eq (tgt := 248) hx hb ⟨(by omega), (by omega)⟩ dX12_factorRead_231 (by decide) (fun c_60 => ?_) (fun c_60 => ?_)
                    · refine lv_aload_n hx hb dX12_factorRead_248 rfl (lv_at hl 0 rfl) ?_
                      refine lv_bipush (v := iv 93) hx hb dX12_factorRead_249 (by decide) ?_
                      refine sBv (sV (As := [.int (iv 93)]) (rest := []) (k := 231) Cx (s_X12_want l G u_42 (sv := 93) (K := K) (V := V) (T := T) (pz := u_42.1 231 24) iu_42 (by omega) ((funext fun j => ((fu_42 244 rfl).2.1 j).trans ((uF_a).trans (uF_a)) : u_42.2.1 244 = S.2.1 244).trans hK) ((funext fun j => ((fu_42 247 rfl).2.1 j).trans ((uF_a).trans (uF_a)) : u_42.2.1 247 = S.2.1 247).trans hV) hE (by omega) (fun h => by have e8 := (show u_42.1 231 20 = u_42.1 231 20 from rfl); have a9 := xu_42 (by have e9 := (show u_42.1 231 20 = u_42.1 231 20 from rfl); omega); omega)) (c_X12_331 Cx rfl rfl (rmk_ok (by omega) (by decide))) hW (by decide) rfl rfl rfl hl.1 rfl (Nat.le_of_ble_eq_true rfl) dX12_factorRead_251 ⟨Nat.le_of_ble_eq_true rfl, Nat.le_of_ble_eq_true rfl⟩) hL (fun u_61 H locs k_62 hW hL => ?_)
                      obtain ⟨iu_61, fu_61, gu_61, xu_61⟩ := k_62
                      have F_63 := F_44.trans fu_61
                      have g_64 : FF S u_61 (fl [20, 21, 24]) := FF.trans g_45 (FF.to gu_61 (fl_sub (by decide)))
                      refine lv_goto (tgt := 266) hx hb dX12_factorRead_254 (by decide) ?_
                      have q_65 : (-2147483648) ≤ u_61.1 231 20 ∧ u_61.1 231 20 ≤ 2147483647 := iu_61.fi 20
                      have q_66 : (-2147483648) ≤ u_61.1 231 24 ∧ u_61.1 231 24 ≤ 2147483647 := iu_61.fi 24
                      exact sVret Cx hr hlk hW hL ⟨iu_61, F_63, g_64, (fun h => by have e8 := (show u_61.1 231 20 = u_61.1 231 20 from rfl); have e7 := (show u_61.1 231 24 = u_61.1 231 24 from rfl); have au_61 := xu_61 (by have e9 := (show u_61.1 231 20 = u_61.1 231 20 from rfl); omega); have au_42 := xu_42 au_61.1; exact ⟨au_42.1, gF_s.mpr (.inr ⟨(xu_6.2.2 (by omega)), .inr ⟨by omega, .inr ⟨(xu_12.2.2 (by omega)), .inr ⟨(xu_16.2.2 (by omega)), by omega, .inr ⟨(xu_32.2.1 (by omega)), _, au_42.2.1, .inl ⟨(xu_57.2.2 (by omega)), au_61.2.1⟩⟩⟩⟩⟩⟩), by omega, by omega, by omega⟩)⟩ dX12_factorRead_266
                    · refine lv_aload_n hx hb dX12_factorRead_234 rfl (lv_at hl 0 rfl) ?_
                      refine lv_dup hx hb dX12_factorRead_235 rfl ?_
                      refine g_X12_315 Cx hW (k := 231) (by decide) rfl (v := u_42.1 231 24) rfl dX12_factorRead_236 ?_
                      have n_67 := hE.nx (pz := u_42.1 231 24) (by omega) (by have z := (xu_57.2.1 (by omega)); unfold gS at z; omega)
                      refine lv_iconst (v := iv 1) hx hb dX12_factorRead_239 (by decide) ?_
                      refine r_iadd hx hb dX12_factorRead_240 ?_
                      refine p_X12_315 Cx hW hL (k := 231) (by decide) rfl dX12_factorRead_241 (fun H locs hW hL => ?_)
                      have F_68 : Fr S (uF u_42 231 24 ((u_42.1 231 24) + 1)) (pl [231]) := F_44.F rfl
                      have g_69 : FF S (uF u_42 231 24 ((u_42.1 231 24) + 1)) (fl [20, 21, 24]) := FF.F g_45 rfl
                      have i_70 : dX G (uF u_42 231 24 ((u_42.1 231 24) + 1)) := iu_42.F (i := 24) (show (-2147483648) ≤ (u_42.1 231 24) + 1 ∧ (u_42.1 231 24) + 1 ≤ 2147483647 from ⟨by omega, by omega⟩)
                      refine lv_aload_n hx hb dX12_factorRead_244 rfl (lv_at hl 0 rfl) ?_
                      have lk_71 : (uF u_42 231 24 ((u_42.1 231 24) + 1)).1 231 24 = (u_42.1 231 24) + 1 := uF_on
                      have lk_72 : (uF u_42 231 24 ((u_42.1 231 24) + 1)).1 231 20 = u_42.1 231 20 := uF_ne (fun h => absurd h.2 (by decide))
                      refine sBv (sV (As := []) (rest := []) (k := 231) Cx (s_X12_indexRead l G (uF u_42 231 24 ((u_42.1 231 24) + 1)) (K := K) (V := V) (T := T) (pz := (u_42.1 231 24) + 1) i_70 ((funext fun j => (uF_a).trans (((fu_42 244 rfl).2.1 j).trans ((uF_a).trans (uF_a))) : (uF u_42 231 24 ((u_42.1 231 24) + 1)).2.1 244 = S.2.1 244).trans hK) ((funext fun j => (uF_a).trans (((fu_42 247 rfl).2.1 j).trans ((uF_a).trans (uF_a))) : (uF u_42 231 24 ((u_42.1 231 24) + 1)).2.1 247 = S.2.1 247).trans hV) hE (by omega) (fun h => by have e8 := (show (uF u_42 231 24 ((u_42.1 231 24) + 1)).1 231 20 = u_42.1 231 20 from uF_ne (fun h => absurd h.2 (by decide))); have a9 := xu_42 (by have e9 := (show (uF u_42 231 24 ((u_42.1 231 24) + 1)).1 231 20 = u_42.1 231 20 from uF_ne (fun h => absurd h.2 (by decide))); omega); omega)) (c_X12_355 Cx rfl rfl (rmk_ok (by omega) (by decide))) hW (by decide) rfl rfl rfl hl.1 rfl (Nat.le_of_ble_eq_true rfl) dX12_factorRead_245 ⟨Nat.le_of_ble_eq_true rfl, Nat.le_of_ble_eq_true rfl⟩) hL (fun u_73 H locs k_74 hW hL => ?_)
                      obtain ⟨iu_73, fu_73, gu_73, xu_73⟩ := k_74
                      have F_75 := F_68.trans fu_73
                      have g_76 : FF S u_73 (fl [20, 21, 24]) := FF.trans g_69 (FF.to gu_73 (fl_sub (by decide)))
                      refine lv_aload_n hx hb dX12_factorRead_248 rfl (lv_at hl 0 rfl) ?_
                      refine lv_bipush (v := iv 93) hx hb dX12_factorRead_249 (by decide) ?_
                      have q_77 : (-2147483648) ≤ u_73.1 231 24 ∧ u_73.1 231 24 ≤ 2147483647 := iu_73.fi 24
                      have q_78 : (-2147483648) ≤ u_73.1 231 20 ∧ u_73.1 231 20 ≤ 2147483647 := iu_73.fi 20
                      refine sBv (sV (As := [.int (iv 93)]) (rest := []) (k := 231) Cx (s_X12_want l G u_73 (sv := 93) (K := K) (V := V) (T := T) (pz := u_73.1 231 24) iu_73 (by omega) ((funext fun j => ((fu_73 244 rfl).2.1 j).trans ((uF_a).trans (((fu_42 244 rfl).2.1 j).trans ((uF_a).trans (uF_a)))) : u_73.2.1 244 = S.2.1 244).trans hK) ((funext fun j => ((fu_73 247 rfl).2.1 j).trans ((uF_a).trans (((fu_42 247 rfl).2.1 j).trans ((uF_a).trans (uF_a)))) : u_73.2.1 247 = S.2.1 247).trans hV) hE (by omega) (fun h => by have e8 := (show u_73.1 231 20 = u_73.1 231 20 from rfl); have a9 := xu_73 (by have e9 := (show u_73.1 231 20 = u_73.1 231 20 from rfl); omega); omega)) (c_X12_331 Cx rfl rfl (rmk_ok (by omega) (by decide))) hW (by decide) rfl rfl rfl hl.1 rfl (Nat.le_of_ble_eq_true rfl) dX12_factorRead_251 ⟨Nat.le_of_ble_eq_true rfl, Nat.le_of_ble_eq_true rfl⟩) hL (fun u_79 H locs k_80 hW hL => ?_)
                      obtain ⟨iu_79, fu_79, gu_79, xu_79⟩ := k_80
                      have F_81 := F_75.trans fu_79
                      have g_82 : FF S u_79 (fl [20, 21, 24]) := FF.trans g_76 (FF.to gu_79 (fl_sub (by decide)))
                      refine lv_goto (tgt := 266) hx hb dX12_factorRead_254 (by decide) ?_
                      have q_83 : (-2147483648) ≤ u_79.1 231 20 ∧ u_79.1 231 20 ≤ 2147483647 := iu_79.fi 20
                      have q_84 : (-2147483648) ≤ u_79.1 231 24 ∧ u_79.1 231 24 ≤ 2147483647 := iu_79.fi 24
                      exact sVret Cx hr hlk hW hL ⟨iu_79, F_81, g_82, (fun h => by have e8 := (show u_79.1 231 20 = u_79.1 231 20 from rfl); have e7 := (show u_79.1 231 24 = u_79.1 231 24 from rfl); have au_79 := xu_79 (by have e9 := (show u_79.1 231 20 = u_79.1 231 20 from rfl); omega); have au_73 := xu_73 au_79.1; have au_42 := xu_42 au_73.1; exact ⟨au_42.1, gF_s.mpr (.inr ⟨(xu_6.2.2 (by omega)), .inr ⟨by omega, .inr ⟨(xu_12.2.2 (by omega)), .inr ⟨(xu_16.2.2 (by omega)), by omega, .inr ⟨(xu_32.2.1 (by omega)), _, au_42.2.1, .inr ⟨(xu_57.2.1 (by omega)), _, au_73.2.1, au_79.2.1⟩⟩⟩⟩⟩⟩), by omega, by omega, by omega⟩)⟩ dX12_factorRead_266
                · have lk_85 : (uF S 231 24 ((S.1 231 24) + 1)).1 231 20 = S.1 231 20 := uF_ne (fun h => absurd h.2 (by decide))
                  exact sVret Cx hr hlk hW hL ⟨i_30, F_28, g_29, (fun h => by have e8 := (show (uF S 231 24 ((S.1 231 24) + 1)).1 231 20 = S.1 231 20 from uF_ne (fun h => absurd h.2 (by decide))); have e7 := (show (uF S 231 24 ((S.1 231 24) + 1)).1 231 24 = (S.1 231 24) + 1 from uF_on); exact ⟨(show S.1 231 20 = 0 by have e9 := (show (uF S 231 24 ((S.1 231 24) + 1)).1 231 20 = S.1 231 20 from uF_ne (fun h => absurd h.2 (by decide))); omega), gF_s.mpr (.inr ⟨(xu_6.2.2 (by omega)), .inr ⟨by omega, .inr ⟨(xu_12.2.2 (by omega)), .inr ⟨(xu_16.2.2 (by omega)), by omega, .inl ⟨(xu_32.2.2 (by omega)), by omega⟩⟩⟩⟩⟩), by omega, by omega, by omega⟩)⟩ dX12_factorRead_203
            · refine lv_aload_n hx hb dX12_factorRead_123 rfl (lv_at hl 0 rfl) ?_
              refine lv_dup hx hb dX12_factorRead_124 rfl ?_
              refine g_X12_315 Cx hW (k := 231) (by decide) rfl (v := S.1 231 24) rfl dX12_factorRead_125 ?_
              have n_86 := hE.nx (pz := pz) (by omega) (by have z := (xu_16.2.1 (by omega)); unfold gW at z; omega)
              refine lv_iconst (v := iv 1) hx hb dX12_factorRead_128 (by decide) ?_
              refine r_iadd hx hb dX12_factorRead_129 ?_
              refine p_X12_315 Cx hW hL (k := 231) (by decide) rfl dX12_factorRead_130 (fun H locs hW hL => ?_)
              have F_87 : Fr S (uF S 231 24 ((S.1 231 24) + 1)) (pl [231]) := (Fr.rf : Fr S S (pl [231])).F rfl
              have g_88 : FF S (uF S 231 24 ((S.1 231 24) + 1)) (fl [20, 21, 24]) := FF.F FF.rf rfl
              have i_89 : dX G (uF S 231 24 ((S.1 231 24) + 1)) := hI.F (i := 24) (show (-2147483648) ≤ (S.1 231 24) + 1 ∧ (S.1 231 24) + 1 ≤ 2147483647 from ⟨by omega, by omega⟩)
              refine lv_aload_n hx hb dX12_factorRead_133 rfl (lv_at hl 0 rfl) ?_
              refine lv_iconst (v := iv 1) hx hb dX12_factorRead_134 (by decide) ?_
              have lk_90 : (uF S 231 24 ((S.1 231 24) + 1)).1 231 24 = (S.1 231 24) + 1 := uF_on
              have lk_91 : (uF S 231 24 ((S.1 231 24) + 1)).1 231 20 = S.1 231 20 := uF_ne (fun h => absurd h.2 (by decide))
              refine sBv (sV (As := [.int (iv 1)]) (rest := []) (k := 231) Cx (s_X12_wantKind l G (uF S 231 24 ((S.1 231 24) + 1)) (k := 1) (K := K) (V := V) (T := T) (pz := (pz) + 1) i_89 (by omega) ((funext fun j => uF_a : (uF S 231 24 ((S.1 231 24) + 1)).2.1 244 = S.2.1 244).trans hK) ((funext fun j => uF_a : (uF S 231 24 ((S.1 231 24) + 1)).2.1 247 = S.2.1 247).trans hV) hE (by omega) (fun h => by have e8 := (show (uF S 231 24 ((S.1 231 24) + 1)).1 231 20 = S.1 231 20 from uF_ne (fun h => absurd h.2 (by decide))); have a9 := hcu (by have e9 := (show (uF S 231 24 ((S.1 231 24) + 1)).1 231 20 = S.1 231 20 from uF_ne (fun h => absurd h.2 (by decide))); omega); omega)) (c_X12_328 Cx rfl rfl (rmk_ok (by omega) (by decide))) hW (by decide) rfl rfl rfl hl.1 rfl (Nat.le_of_ble_eq_true rfl) dX12_factorRead_135 ⟨Nat.le_of_ble_eq_true rfl, Nat.le_of_ble_eq_true rfl⟩) hL (fun u_92 H locs k_93 hW hL => ?_)
              obtain ⟨iu_92, fu_92, gu_92, xu_92⟩ := k_93
              have F_94 := F_87.trans fu_92
              have g_95 : FF S u_92 (fl [20, 21, 24]) := FF.trans g_88 (FF.to gu_92 (fl_sub (by decide)))
              refine lv_aload_n hx hb dX12_factorRead_138 rfl (lv_at hl 0 rfl) ?_
              refine lv_bipush (v := iv 8) hx hb dX12_factorRead_139 (by decide) ?_
              have q_96 : (-2147483648) ≤ u_92.1 231 24 ∧ u_92.1 231 24 ≤ 2147483647 := iu_92.fi 24
              have q_97 : (-2147483648) ≤ u_92.1 231 20 ∧ u_92.1 231 20 ≤ 2147483647 := iu_92.fi 20
              refine sBv (sV (As := [.int (iv 8)]) (rest := []) (k := 231) Cx (s_X12_wantWord l G u_92 (sv := 8) (K := K) (V := V) (T := T) (pz := u_92.1 231 24) iu_92 (by omega) ((funext fun j => ((fu_92 244 rfl).2.1 j).trans (uF_a) : u_92.2.1 244 = S.2.1 244).trans hK) ((funext fun j => ((fu_92 247 rfl).2.1 j).trans (uF_a) : u_92.2.1 247 = S.2.1 247).trans hV) hE (by omega) (fun h => by have e8 := (show u_92.1 231 20 = u_92.1 231 20 from rfl); have a9 := xu_92 (by have e9 := (show u_92.1 231 20 = u_92.1 231 20 from rfl); omega); omega)) (c_X12_340 Cx rfl rfl (rmk_ok (by omega) (by decide))) hW (by decide) rfl rfl rfl hl.1 rfl (Nat.le_of_ble_eq_true rfl) dX12_factorRead_141 ⟨Nat.le_of_ble_eq_true rfl, Nat.le_of_ble_eq_true rfl⟩) hL (fun u_98 H locs k_99 hW hL => ?_)
              obtain ⟨iu_98, fu_98, gu_98, xu_98⟩ := k_99
              have F_100 := F_94.trans fu_98
              have g_101 : FF S u_98 (fl [20, 21, 24]) := FF.trans g_95 (FF.to gu_98 (fl_sub (by decide)))
              refine lv_aload_n hx hb dX12_factorRead_144 rfl (lv_at hl 0 rfl) ?_
              refine lv_iconst (v := iv 1) hx hb dX12_factorRead_145 (by decide) ?_
              have q_102 : (-2147483648) ≤ u_98.1 231 24 ∧ u_98.1 231 24 ≤ 2147483647 := iu_98.fi 24
              have q_103 : (-2147483648) ≤ u_98.1 231 20 ∧ u_98.1 231 20 ≤ 2147483647 := iu_98.fi 20
              refine sBv (sV (As := [.int (iv 1)]) (rest := []) (k := 231) Cx (s_X12_wantKind l G u_98 (k := 1) (K := K) (V := V) (T := T) (pz := u_98.1 231 24) iu_98 (by omega) ((funext fun j => ((fu_98 244 rfl).2.1 j).trans (((fu_92 244 rfl).2.1 j).trans (uF_a)) : u_98.2.1 244 = S.2.1 244).trans hK) ((funext fun j => ((fu_98 247 rfl).2.1 j).trans (((fu_92 247 rfl).2.1 j).trans (uF_a)) : u_98.2.1 247 = S.2.1 247).trans hV) hE (by omega) (fun h => by have e8 := (show u_98.1 231 20 = u_98.1 231 20 from rfl); have a9 := xu_98 (by have e9 := (show u_98.1 231 20 = u_98.1 231 20 from rfl); omega); omega)) (c_X12_328 Cx rfl rfl (rmk_ok (by omega) (by decide))) hW (by decide) rfl rfl rfl hl.1 rfl (Nat.le_of_ble_eq_true rfl) dX12_factorRead_146 ⟨Nat.le_of_ble_eq_true rfl, Nat.le_of_ble_eq_true rfl⟩) hL (fun u_104 H locs k_105 hW hL => ?_)
              obtain ⟨iu_104, fu_104, gu_104, xu_104⟩ := k_105
              have F_106 := F_100.trans fu_104
              have g_107 : FF S u_104 (fl [20, 21, 24]) := FF.trans g_101 (FF.to gu_104 (fl_sub (by decide)))
              refine lv_aload_n hx hb dX12_factorRead_149 rfl (lv_at hl 0 rfl) ?_
              refine lv_bipush (v := iv 40) hx hb dX12_factorRead_150 (by decide) ?_
              have q_108 : (-2147483648) ≤ u_104.1 231 24 ∧ u_104.1 231 24 ≤ 2147483647 := iu_104.fi 24
              have q_109 : (-2147483648) ≤ u_104.1 231 20 ∧ u_104.1 231 20 ≤ 2147483647 := iu_104.fi 20
              refine sBv (sV (As := [.int (iv 40)]) (rest := []) (k := 231) Cx (s_X12_want l G u_104 (sv := 40) (K := K) (V := V) (T := T) (pz := u_104.1 231 24) iu_104 (by omega) ((funext fun j => ((fu_104 244 rfl).2.1 j).trans (((fu_98 244 rfl).2.1 j).trans (((fu_92 244 rfl).2.1 j).trans (uF_a))) : u_104.2.1 244 = S.2.1 244).trans hK) ((funext fun j => ((fu_104 247 rfl).2.1 j).trans (((fu_98 247 rfl).2.1 j).trans (((fu_92 247 rfl).2.1 j).trans (uF_a))) : u_104.2.1 247 = S.2.1 247).trans hV) hE (by omega) (fun h => by have e8 := (show u_104.1 231 20 = u_104.1 231 20 from rfl); have a9 := xu_104 (by have e9 := (show u_104.1 231 20 = u_104.1 231 20 from rfl); omega); omega)) (c_X12_331 Cx rfl rfl (rmk_ok (by omega) (by decide))) hW (by decide) rfl rfl rfl hl.1 rfl (Nat.le_of_ble_eq_true rfl) dX12_factorRead_152 ⟨Nat.le_of_ble_eq_true rfl, Nat.le_of_ble_eq_true rfl⟩) hL (fun u_110 H locs k_111 hW hL => ?_)
              obtain ⟨iu_110, fu_110, gu_110, xu_110⟩ := k_111
              have F_112 := F_106.trans fu_110
              have g_113 : FF S u_110 (fl [20, 21, 24]) := FF.trans g_107 (FF.to gu_110 (fl_sub (by decide)))
              refine lv_aload_n hx hb dX12_factorRead_155 rfl (lv_at hl 0 rfl) ?_
              refine lv_iload_n hx hb dX12_factorRead_156 rfl (lv_at hl 1 rfl) ?_
              refine lv_iconst (v := iv 1) hx hb dX12_factorRead_157 (by decide) ?_
              refine r_iadd hx hb dX12_factorRead_158 ?_
              have q_114 : (-2147483648) ≤ u_110.1 231 24 ∧ u_110.1 231 24 ≤ 2147483647 := iu_110.fi 24
              have q_115 : (-2147483648) ≤ u_110.1 231 20 ∧ u_110.1 231 20 ≤ 2147483647 := iu_110.fi 20
              refine sBv (sV (As := [.int (iv (dp + 1))]) (rest := []) (k := 231) Cx (hU n rfl u_110 (u_110.1 231 24) (dp + 1) iu_110 ((funext fun j => ((fu_110 244 rfl).2.1 j).trans (((fu_104 244 rfl).2.1 j).trans (((fu_98 244 rfl).2.1 j).trans (((fu_92 244 rfl).2.1 j).trans (uF_a)))) : u_110.2.1 244 = S.2.1 244).trans hK) ((funext fun j => ((fu_110 247 rfl).2.1 j).trans (((fu_104 247 rfl).2.1 j).trans (((fu_98 247 rfl).2.1 j).trans (((fu_92 247 rfl).2.1 j).trans (uF_a)))) : u_110.2.1 247 = S.2.1 247).trans hV) (by omega) (fun h => by have e8 := (show u_110.1 231 20 = u_110.1 231 20 from rfl); have a9 := xu_110 (by have e9 := (show u_110.1 231 20 = u_110.1 231 20 from rfl); omega); omega) (by omega)) (c_X12_337 Cx rfl rfl (rmk_ok (by omega) (by decide))) hW (by decide) rfl rfl rfl hl.1 rfl (Nat.le_of_ble_eq_true rfl) dX12_factorRead_159 ⟨Nat.le_of_ble_eq_true rfl, Nat.le_of_ble_eq_true rfl⟩) hL (fun u_116 H locs k_117 hW hL => ?_)
              obtain ⟨iu_116, fu_116, gu_116, xu_116⟩ := k_117
              have F_118 := F_112.trans fu_116
              have g_119 : FF S u_116 (fl [20, 21, 24]) := FF.trans g_113 (FF.to gu_116 (fl_sub (by decide)))
              refine lv_aload_n hx hb dX12_factorRead_162 rfl (lv_at hl 0 rfl) ?_
              refine lv_bipush (v := iv 41) hx hb dX12_factorRead_163 (by decide) ?_
              have q_120 : (-2147483648) ≤ u_116.1 231 24 ∧ u_116.1 231 24 ≤ 2147483647 := iu_116.fi 24
              have q_121 : (-2147483648) ≤ u_116.1 231 20 ∧ u_116.1 231 20 ≤ 2147483647 := iu_116.fi 20
              refine sBv (sV (As := [.int (iv 41)]) (rest := []) (k := 231) Cx (s_X12_want l G u_116 (sv := 41) (K := K) (V := V) (T := T) (pz := u_116.1 231 24) iu_116 (by omega) ((funext fun j => ((fu_116 244 rfl).2.1 j).trans (((fu_110 244 rfl).2.1 j).trans (((fu_104 244 rfl).2.1 j).trans (((fu_98 244 rfl).2.1 j).trans (((fu_92 244 rfl).2.1 j).trans (uF_a))))) : u_116.2.1 244 = S.2.1 244).trans hK) ((funext fun j => ((fu_116 247 rfl).2.1 j).trans (((fu_110 247 rfl).2.1 j).trans (((fu_104 247 rfl).2.1 j).trans (((fu_98 247 rfl).2.1 j).trans (((fu_92 247 rfl).2.1 j).trans (uF_a))))) : u_116.2.1 247 = S.2.1 247).trans hV) hE (by omega) (fun h => by have e8 := (show u_116.1 231 20 = u_116.1 231 20 from rfl); have a9 := xu_116 (by have e9 := (show u_116.1 231 20 = u_116.1 231 20 from rfl); omega); omega)) (c_X12_331 Cx rfl rfl (rmk_ok (by omega) (by decide))) hW (by decide) rfl rfl rfl hl.1 rfl (Nat.le_of_ble_eq_true rfl) dX12_factorRead_165 ⟨Nat.le_of_ble_eq_true rfl, Nat.le_of_ble_eq_true rfl⟩) hL (fun u_122 H locs k_123 hW hL => ?_)
              obtain ⟨iu_122, fu_122, gu_122, xu_122⟩ := k_123
              have F_124 := F_118.trans fu_122
              have g_125 : FF S u_122 (fl [20, 21, 24]) := FF.trans g_119 (FF.to gu_122 (fl_sub (by decide)))
              refine lv_goto (tgt := 266) hx hb dX12_factorRead_168 (by decide) ?_
              have q_126 : (-2147483648) ≤ u_122.1 231 20 ∧ u_122.1 231 20 ≤ 2147483647 := iu_122.fi 20
              have q_127 : (-2147483648) ≤ u_122.1 231 24 ∧ u_122.1 231 24 ≤ 2147483647 := iu_122.fi 24
              exact sVret Cx hr hlk hW hL ⟨iu_122, F_124, g_125, (fun h => by have e8 := (show u_122.1 231 20 = u_122.1 231 20 from rfl); have e7 := (show u_122.1 231 24 = u_122.1 231 24 from rfl); have au_122 := xu_122 (by have e9 := (show u_122.1 231 20 = u_122.1 231 20 from rfl); omega); have au_116 := xu_116 au_122.1; have au_110 := xu_110 au_116.1; have au_104 := xu_104 au_110.1; have au_98 := xu_98 au_104.1; have au_92 := xu_92 au_98.1; exact ⟨au_92.1, gF_s.mpr (.inr ⟨(xu_6.2.2 (by omega)), .inr ⟨by omega, .inr ⟨(xu_12.2.2 (by omega)), .inl ⟨(xu_16.2.1 (by omega)), _, au_92.2.1, _, au_98.2.1, _, au_104.2.1, _, au_110.2.1, _, au_116.2.1, au_122.2.1⟩⟩⟩⟩), by omega, by omega, by omega⟩)⟩ dX12_factorRead_266
          · refine lv_aload_n hx hb dX12_factorRead_88 rfl (lv_at hl 0 rfl) ?_
            refine lv_dup hx hb dX12_factorRead_89 rfl ?_
            refine g_X12_315 Cx hW (k := 231) (by decide) rfl (v := S.1 231 24) rfl dX12_factorRead_90 ?_
            have n_128 := hE.nx (pz := pz) (by omega) (by have z := (xu_12.2.1 (by omega)); unfold gS at z; omega)
            refine lv_iconst (v := iv 1) hx hb dX12_factorRead_93 (by decide) ?_
            refine r_iadd hx hb dX12_factorRead_94 ?_
            refine p_X12_315 Cx hW hL (k := 231) (by decide) rfl dX12_factorRead_95 (fun H locs hW hL => ?_)
            have F_129 : Fr S (uF S 231 24 ((S.1 231 24) + 1)) (pl [231]) := (Fr.rf : Fr S S (pl [231])).F rfl
            have g_130 : FF S (uF S 231 24 ((S.1 231 24) + 1)) (fl [20, 21, 24]) := FF.F FF.rf rfl
            have i_131 : dX G (uF S 231 24 ((S.1 231 24) + 1)) := hI.F (i := 24) (show (-2147483648) ≤ (S.1 231 24) + 1 ∧ (S.1 231 24) + 1 ≤ 2147483647 from ⟨by omega, by omega⟩)
            refine lv_aload_n hx hb dX12_factorRead_98 rfl (lv_at hl 0 rfl) ?_
            refine lv_iload_n hx hb dX12_factorRead_99 rfl (lv_at hl 1 rfl) ?_
            refine lv_iconst (v := iv 1) hx hb dX12_factorRead_100 (by decide) ?_
            refine r_iadd hx hb dX12_factorRead_101 ?_
            have lk_132 : (uF S 231 24 ((S.1 231 24) + 1)).1 231 24 = (S.1 231 24) + 1 := uF_on
            have lk_133 : (uF S 231 24 ((S.1 231 24) + 1)).1 231 20 = S.1 231 20 := uF_ne (fun h => absurd h.2 (by decide))
            refine sBv (sV (As := [.int (iv (dp + 1))]) (rest := []) (k := 231) Cx (hU n rfl (uF S 231 24 ((S.1 231 24) + 1)) ((pz) + 1) (dp + 1) i_131 ((funext fun j => uF_a : (uF S 231 24 ((S.1 231 24) + 1)).2.1 244 = S.2.1 244).trans hK) ((funext fun j => uF_a : (uF S 231 24 ((S.1 231 24) + 1)).2.1 247 = S.2.1 247).trans hV) (by omega) (fun h => by have e8 := (show (uF S 231 24 ((S.1 231 24) + 1)).1 231 20 = S.1 231 20 from uF_ne (fun h => absurd h.2 (by decide))); have a9 := hcu (by have e9 := (show (uF S 231 24 ((S.1 231 24) + 1)).1 231 20 = S.1 231 20 from uF_ne (fun h => absurd h.2 (by decide))); omega); omega) (by omega)) (c_X12_337 Cx rfl rfl (rmk_ok (by omega) (by decide))) hW (by decide) rfl rfl rfl hl.1 rfl (Nat.le_of_ble_eq_true rfl) dX12_factorRead_102 ⟨Nat.le_of_ble_eq_true rfl, Nat.le_of_ble_eq_true rfl⟩) hL (fun u_134 H locs k_135 hW hL => ?_)
            obtain ⟨iu_134, fu_134, gu_134, xu_134⟩ := k_135
            have F_136 := F_129.trans fu_134
            have g_137 : FF S u_134 (fl [20, 21, 24]) := FF.trans g_130 (FF.to gu_134 (fl_sub (by decide)))
            refine lv_aload_n hx hb dX12_factorRead_105 rfl (lv_at hl 0 rfl) ?_
            refine lv_bipush (v := iv 41) hx hb dX12_factorRead_106 (by decide) ?_
            have q_138 : (-2147483648) ≤ u_134.1 231 24 ∧ u_134.1 231 24 ≤ 2147483647 := iu_134.fi 24
            have q_139 : (-2147483648) ≤ u_134.1 231 20 ∧ u_134.1 231 20 ≤ 2147483647 := iu_134.fi 20
            refine sBv (sV (As := [.int (iv 41)]) (rest := []) (k := 231) Cx (s_X12_want l G u_134 (sv := 41) (K := K) (V := V) (T := T) (pz := u_134.1 231 24) iu_134 (by omega) ((funext fun j => ((fu_134 244 rfl).2.1 j).trans (uF_a) : u_134.2.1 244 = S.2.1 244).trans hK) ((funext fun j => ((fu_134 247 rfl).2.1 j).trans (uF_a) : u_134.2.1 247 = S.2.1 247).trans hV) hE (by omega) (fun h => by have e8 := (show u_134.1 231 20 = u_134.1 231 20 from rfl); have a9 := xu_134 (by have e9 := (show u_134.1 231 20 = u_134.1 231 20 from rfl); omega); omega)) (c_X12_331 Cx rfl rfl (rmk_ok (by omega) (by decide))) hW (by decide) rfl rfl rfl hl.1 rfl (Nat.le_of_ble_eq_true rfl) dX12_factorRead_108 ⟨Nat.le_of_ble_eq_true rfl, Nat.le_of_ble_eq_true rfl⟩) hL (fun u_140 H locs k_141 hW hL => ?_)
            obtain ⟨iu_140, fu_140, gu_140, xu_140⟩ := k_141
            have F_142 := F_136.trans fu_140
            have g_143 : FF S u_140 (fl [20, 21, 24]) := FF.trans g_137 (FF.to gu_140 (fl_sub (by decide)))
            refine lv_goto (tgt := 266) hx hb dX12_factorRead_111 (by decide) ?_
            have q_144 : (-2147483648) ≤ u_140.1 231 20 ∧ u_140.1 231 20 ≤ 2147483647 := iu_140.fi 20
            have q_145 : (-2147483648) ≤ u_140.1 231 24 ∧ u_140.1 231 24 ≤ 2147483647 := iu_140.fi 24
            exact sVret Cx hr hlk hW hL ⟨iu_140, F_142, g_143, (fun h => by have e8 := (show u_140.1 231 20 = u_140.1 231 20 from rfl); have e7 := (show u_140.1 231 24 = u_140.1 231 24 from rfl); have au_140 := xu_140 (by have e9 := (show u_140.1 231 20 = u_140.1 231 20 from rfl); omega); have au_134 := xu_134 au_140.1; exact ⟨au_134.1, gF_s.mpr (.inr ⟨(xu_6.2.2 (by omega)), .inr ⟨by omega, .inl ⟨(xu_12.2.1 (by omega)), _, au_134.2.1, au_140.2.1⟩⟩⟩), by omega, by omega, by omega⟩)⟩ dX12_factorRead_266
        · refine lv_aload_n hx hb dX12_factorRead_66 rfl (lv_at hl 0 rfl) ?_
          refine lv_dup hx hb dX12_factorRead_67 rfl ?_
          refine g_X12_315 Cx hW (k := 231) (by decide) rfl (v := S.1 231 24) rfl dX12_factorRead_68 ?_
          have n_146 := hE.nx (pz := pz) (by omega) (by omega)
          refine lv_iconst (v := iv 1) hx hb dX12_factorRead_71 (by decide) ?_
          refine r_iadd hx hb dX12_factorRead_72 ?_
          refine p_X12_315 Cx hW hL (k := 231) (by decide) rfl dX12_factorRead_73 (fun H locs hW hL => ?_)
          have F_147 : Fr S (uF S 231 24 ((S.1 231 24) + 1)) (pl [231]) := (Fr.rf : Fr S S (pl [231])).F rfl
          have g_148 : FF S (uF S 231 24 ((S.1 231 24) + 1)) (fl [20, 21, 24]) := FF.F FF.rf rfl
          have i_149 : dX G (uF S 231 24 ((S.1 231 24) + 1)) := hI.F (i := 24) (show (-2147483648) ≤ (S.1 231 24) + 1 ∧ (S.1 231 24) + 1 ≤ 2147483647 from ⟨by omega, by omega⟩)
          refine lv_goto (tgt := 266) hx hb dX12_factorRead_76 (by decide) ?_
          have lk_150 : (uF S 231 24 ((S.1 231 24) + 1)).1 231 20 = S.1 231 20 := uF_ne (fun h => absurd h.2 (by decide))
          have lk_151 : (uF S 231 24 ((S.1 231 24) + 1)).1 231 24 = (S.1 231 24) + 1 := uF_on
          exact sVret Cx hr hlk hW hL ⟨i_149, F_147, g_148, (fun h => by have e8 := (show (uF S 231 24 ((S.1 231 24) + 1)).1 231 20 = S.1 231 20 from uF_ne (fun h => absurd h.2 (by decide))); have e7 := (show (uF S 231 24 ((S.1 231 24) + 1)).1 231 24 = (S.1 231 24) + 1 from uF_on); exact ⟨(show S.1 231 20 = 0 by have e9 := (show (uF S 231 24 ((S.1 231 24) + 1)).1 231 20 = S.1 231 20 from uF_ne (fun h => absurd h.2 (by decide))); omega), gF_s.mpr (.inr ⟨(xu_6.2.2 (by omega)), .inl ⟨by omega, by omega⟩⟩), by omega, by omega, by omega⟩)⟩ dX12_factorRead_266
      · refine lv_aload_n hx hb dX12_factorRead_33 rfl (lv_at hl 0 rfl) ?_
        refine lv_dup hx hb dX12_factorRead_34 rfl ?_
        refine g_X12_315 Cx hW (k := 231) (by decide) rfl (v := S.1 231 24) rfl dX12_factorRead_35 ?_
        have n_152 := hE.nx (pz := pz) (by omega) (by have z := (xu_6.2.1 (by omega)); unfold gS at z; omega)
        refine lv_iconst (v := iv 1) hx hb dX12_factorRead_38 (by decide) ?_
        refine r_iadd hx hb dX12_factorRead_39 ?_
        refine p_X12_315 Cx hW hL (k := 231) (by decide) rfl dX12_factorRead_40 (fun H locs hW hL => ?_)
        have F_153 : Fr S (uF S 231 24 ((S.1 231 24) + 1)) (pl [231]) := (Fr.rf : Fr S S (pl [231])).F rfl
        have g_154 : FF S (uF S 231 24 ((S.1 231 24) + 1)) (fl [20, 21, 24]) := FF.F FF.rf rfl
        have i_155 : dX G (uF S 231 24 ((S.1 231 24) + 1)) := hI.F (i := 24) (show (-2147483648) ≤ (S.1 231 24) + 1 ∧ (S.1 231 24) + 1 ≤ 2147483647 from ⟨by omega, by omega⟩)
        refine lv_aload_n hx hb dX12_factorRead_43 rfl (lv_at hl 0 rfl) ?_
        refine lv_iload_n hx hb dX12_factorRead_44 rfl (lv_at hl 1 rfl) ?_
        refine lv_iconst (v := iv 1) hx hb dX12_factorRead_45 (by decide) ?_
        refine r_iadd hx hb dX12_factorRead_46 ?_
        have lk_156 : (uF S 231 24 ((S.1 231 24) + 1)).1 231 24 = (S.1 231 24) + 1 := uF_on
        have lk_157 : (uF S 231 24 ((S.1 231 24) + 1)).1 231 20 = S.1 231 20 := uF_ne (fun h => absurd h.2 (by decide))
        refine sBv (sV (As := [.int (iv (dp + 1))]) (rest := []) (k := 231) Cx (hF n rfl (uF S 231 24 ((S.1 231 24) + 1)) ((pz) + 1) (dp + 1) i_155 ((funext fun j => uF_a : (uF S 231 24 ((S.1 231 24) + 1)).2.1 244 = S.2.1 244).trans hK) ((funext fun j => uF_a : (uF S 231 24 ((S.1 231 24) + 1)).2.1 247 = S.2.1 247).trans hV) (by omega) (fun h => by have e8 := (show (uF S 231 24 ((S.1 231 24) + 1)).1 231 20 = S.1 231 20 from uF_ne (fun h => absurd h.2 (by decide))); have a9 := hcu (by have e9 := (show (uF S 231 24 ((S.1 231 24) + 1)).1 231 20 = S.1 231 20 from uF_ne (fun h => absurd h.2 (by decide))); omega); omega) (by omega)) (c_X12_352 Cx rfl rfl (rmk_ok (by omega) (by decide))) hW (by decide) rfl rfl rfl hl.1 rfl (Nat.le_of_ble_eq_true rfl) dX12_factorRead_47 ⟨Nat.le_of_ble_eq_true rfl, Nat.le_of_ble_eq_true rfl⟩) hL (fun u_158 H locs k_159 hW hL => ?_)
        obtain ⟨iu_158, fu_158, gu_158, xu_158⟩ := k_159
        have F_160 := F_153.trans fu_158
        have g_161 : FF S u_158 (fl [20, 21, 24]) := FF.trans g_154 (FF.to gu_158 (fl_sub (by decide)))
        refine lv_goto (tgt := 266) hx hb dX12_factorRead_50 (by decide) ?_
        have q_162 : (-2147483648) ≤ u_158.1 231 20 ∧ u_158.1 231 20 ≤ 2147483647 := iu_158.fi 20
        have q_163 : (-2147483648) ≤ u_158.1 231 24 ∧ u_158.1 231 24 ≤ 2147483647 := iu_158.fi 24
        exact sVret Cx hr hlk hW hL ⟨iu_158, F_160, g_161, (fun h => by have e8 := (show u_158.1 231 20 = u_158.1 231 20 from rfl); have e7 := (show u_158.1 231 24 = u_158.1 231 24 from rfl); have au_158 := xu_158 (by have e9 := (show u_158.1 231 20 = u_158.1 231 20 from rfl); omega); exact ⟨au_158.1, gF_s.mpr (.inl ⟨(xu_6.2.1 (by omega)), au_158.2.1⟩), by omega, by omega, by omega⟩)⟩ dX12_factorRead_266
    · refine lv_aload_n hx hb dX12_factorRead_14 rfl (lv_at hl 0 rfl) ?_
      refine lv_iconst (v := iv 1) hx hb dX12_factorRead_15 (by decide) ?_
      refine lv_aload_n hx hb dX12_factorRead_16 rfl (lv_at hl 0 rfl) ?_
      have q_164 : (-2147483648) ≤ S.1 231 24 ∧ S.1 231 24 ≤ 2147483647 := hI.fi 24
      refine g_X12_315 Cx hW (k := 231) (by decide) rfl (v := S.1 231 24) rfl dX12_factorRead_17 ?_
      refine sBv (sV (As := [.int (iv 1), .int (iv (S.1 231 24))]) (rest := []) (k := 231) Cx (s_X12_wrong l G S (cd := 1) (tk := S.1 231 24) hI (by omega) (by omega)) (c_X12_321 Cx rfl rfl (rmk_ok (by omega) (by decide))) hW (by decide) rfl rfl rfl hl.1 rfl (Nat.le_of_ble_eq_true rfl) dX12_factorRead_20 ⟨Nat.le_of_ble_eq_true rfl, Nat.le_of_ble_eq_true rfl⟩) hL (fun u_165 H locs k_166 hW hL => ?_)
      obtain ⟨iu_165, fu_165, gu_165, xu_165⟩ := k_166
      have F_167 := (Fr.rf : Fr S S (pl [231])).trans fu_165
      have g_168 : FF S u_165 (fl [20, 21, 24]) := FF.trans FF.rf (FF.to gu_165 (fl_sub (by decide)))
      have q_169 : (-2147483648) ≤ u_165.1 231 20 ∧ u_165.1 231 20 ≤ 2147483647 := iu_165.fi 20
      have lk_170 : u_165.1 231 24 = S.1 231 24 := gu_165 24 rfl
      exact sVret Cx hr hlk hW hL ⟨iu_165, F_167, g_168, (fun h => absurd h (by have e9 := (show u_165.1 231 20 = u_165.1 231 20 from rfl); have a9 := xu_165; omega))⟩ dX12_factorRead_23
  · have q_171 : (-2147483648) ≤ S.1 231 24 ∧ S.1 231 24 ≤ 2147483647 := hI.fi 24
    exact sVret Cx hr hlk hW hL ⟨hI, (Fr.rf : Fr S S (pl [231])), FF.rf, (fun h => by have e8 := (show S.1 231 20 = S.1 231 20 from rfl); exfalso; omega)⟩ dX12_factorRead_7

set_option maxRecDepth 100000 in
set_option maxHeartbeats 4000000 in
theorem s_X12_productRead (l : Launch) (G : sG) (S : sS) {K V : Int → Int} {T pz : Int} {D d1 N : Nat} {dp : Int} (hI : dX G S) (hN : (N : Int) = 30 - dp ∧ 0 ≤ dp) (h1 : d1 < D) (h8 : 8 ≤ D) (hF : Hd (FrC l G d1 K V T N)) (hK : S.2.1 244 = K) (hV : S.2.1 247 = V) (hE : gE K T) (hc : S.1 231 24 = pz) (hcu : Hd (S.1 231 20 = 0 → 0 ≤ pz ∧ pz ≤ T - 1)) : Met l yX12_productRead (.code yX12_productRead cX12_productRead 2 none :: tb) (rmk D 0 0) (sPc G 294 S [.ref (G.2.2.1 + 231), .int (iv dp)]) (sQv G 294 (fun u => dX G u ∧ Fr S u (pl [231]) ∧ FF S u (fl [20, 21, 24]) ∧ (Hd (u.1 231 20 = 0 → S.1 231 20 = 0 ∧ gP K V (gF K V N) pz (u.1 231 24) ∧ pz < u.1 231 24 ∧ 0 ≤ u.1 231 24 ∧ u.1 231 24 ≤ T - 1)))) 0 0 (sF G) := by
  refine sEnter (by decide) (Nat.le_of_ble_eq_true rfl) ?_
  intro p e s m args below meth c Cx hr hlk hnm hW ls hl
  have Cx : sC G p m c cX12_productRead 2 s args RX12 := Cx
  obtain ⟨hx, hb, hml, hown, hts⟩ := id Cx.1
  have hL : sL G [] := sL_nil
  have hl : lv_has ls 2 [(0, .ref (G.2.2.1 + 231)), (1, .int (iv dp))] := hl
  have hW0 := hW
  have hE1 := hE.1
  refine lv_aload_n hx hb dX12_productRead_0 rfl (lv_at hl 0 rfl) ?_
  refine lv_iload_n hx hb dX12_productRead_1 rfl (lv_at hl 1 rfl) ?_
  have q_1 : (-2147483648) ≤ S.1 231 24 ∧ S.1 231 24 ≤ 2147483647 := hI.fi 24
  have q_2 : (-2147483648) ≤ S.1 231 20 ∧ S.1 231 20 ≤ 2147483647 := hI.fi 20
  refine sBv (sV (As := [.int (iv dp)]) (rest := []) (k := 231) Cx (hF S pz dp hI hK hV (by omega) (fun h => by have e8 := (show S.1 231 20 = S.1 231 20 from rfl); have a9 := hcu (by have e9 := (show S.1 231 20 = S.1 231 20 from rfl); omega); omega) (by omega)) (c_X12_352 Cx rfl rfl (rmk_ok (by omega) (by decide))) hW (by decide) rfl rfl rfl hl.1 rfl (Nat.le_of_ble_eq_true rfl) dX12_productRead_2 ⟨Nat.le_of_ble_eq_true rfl, Nat.le_of_ble_eq_true rfl⟩) hL (fun u_3 H locs k_4 hW hL => ?_)
  obtain ⟨iu_3, fu_3, gu_3, xu_3⟩ := k_4
  have F_5 := (Fr.rf : Fr S S (pl [231])).trans fu_3
  have g_6 : FF S u_3 (fl [20, 21, 24]) := FF.trans FF.rf (FF.to gu_3 (fl_sub (by decide)))
  have loop_5 : ∀ (fuel : Nat) (S5 : sS)  (H : Heap) (locs : List Loc) (ls : Array Slot), mf S5 T < fuel → (dX G S5) → (Fr S S5 (pl [231])) → (Fr u_3 S5 (pl [231])) → (FF S S5 (fl [20, 21, 24])) → (FF u_3 S5 (fl [20, 21, 24])) → (Hd (S5.1 231 20 = 0 → 0 ≤ S5.1 231 24 ∧ S5.1 231 24 ≤ T - 1)) → (Hd (S5.1 231 20 = 0 → u_3.1 231 20 = 0 ∧ ∀ q, gTl (fun c => gS K V c 42) (fun c x => gF K V N (c + 1) x) (S5.1 231 24) q → gTl (fun c => gS K V c 42) (fun c x => gF K V N (c + 1) x) (u_3.1 231 24) q)) → (Hd (S5.1 231 20 = 0 → u_3.1 231 24 ≤ S5.1 231 24)) → sW G 294 S5 H → sL G locs → lv_has ls 2 [(0, .ref (G.2.2.1 + 231)), (1, .int (iv dp))] → W p l e (rmk D 0 0) s m args below meth c H locs 0 0 (MQ below (sQv G 294 (fun u => dX G u ∧ Fr S u (pl [231]) ∧ FF S u (fl [20, 21, 24]) ∧ (Hd (u.1 231 20 = 0 → S.1 231 20 = 0 ∧ gP K V (gF K V N) pz (u.1 231 24) ∧ pz < u.1 231 24 ∧ 0 ≤ u.1 231 24 ∧ u.1 231 24 ≤ T - 1)))) args s 0 0 (sF G)) (F0 m 5 ls []) := by
    intro fuel
    induction fuel with
    | zero => intro S5  H locs ls hmeas hI5 hFm5 hL5_ hGm5 gL5_ hcu5 hH5 hq5 hW hL hl; exact absurd hmeas (Nat.not_lt_zero _)
    | succ fuel ih_5 =>
      intro S5  H locs ls hmeas hI5 hFm5 hL5_ hGm5 gL5_ hcu5 hH5 hq5 hW hL hl
      refine lv_aload_n hx hb dX12_productRead_5 rfl (lv_at hl 0 rfl) ?_
      have q_7 : (-2147483648) ≤ S5.1 231 20 ∧ S5.1 231 20 ≤ 2147483647 := hI5.fi 20
      refine g_X12_270 Cx hW (k := 231) (by decide) rfl (v := S5.1 231 20) rfl dX12_productRead_6 ?_
      refine r_if_ne (tgt := 39) hx hb ⟨(by omega), (by omega)⟩ dX12_productRead_9 (by decide) (fun c_8 => ?_) (fun c_8 => ?_)
      · have q_9 : (-2147483648) ≤ S5.1 231 24 ∧ S5.1 231 24 ≤ 2147483647 := hI5.fi 24
        exact sVret Cx hr hlk hW hL ⟨hI5, hFm5, hGm5, (fun h => by have e8 := (show S5.1 231 20 = S5.1 231 20 from rfl); have aS5 := hH5 (by have e9 := (show S5.1 231 20 = S5.1 231 20 from rfl); omega); have au_3 := xu_3 aS5.1; exfalso; omega)⟩ dX12_productRead_39
      · have b_10 := hcu5 (by have e9 := (show S5.1 231 20 = S5.1 231 20 from rfl); omega)
        refine lv_aload_n hx hb dX12_productRead_12 rfl (lv_at hl 0 rfl) ?_
        refine lv_bipush (v := iv 42) hx hb dX12_productRead_13 (by decide) ?_
        have q_11 : (-2147483648) ≤ S5.1 231 24 ∧ S5.1 231 24 ≤ 2147483647 := hI5.fi 24
        refine sBi (sV (As := [.int (iv 42)]) (rest := []) (k := 231) Cx (s_X12_isSign l G S5 (sv := 42) (K := K) (V := V) (pz := S5.1 231 24) hI5 (by omega) ((funext fun j => ((hL5_ 244 rfl).2.1 j).trans ((fu_3 244 rfl).2.1 j) : S5.2.1 244 = S.2.1 244).trans hK) ((funext fun j => ((hL5_ 247 rfl).2.1 j).trans ((fu_3 247 rfl).2.1 j) : S5.2.1 247 = S.2.1 247).trans hV) (by omega) (by omega)) (c_X12_318 Cx rfl rfl (rmk_ok (by omega) (by decide))) hW (by decide) rfl rfl rfl hl.1 rfl (Nat.le_of_ble_eq_true rfl) dX12_productRead_15 ⟨Nat.le_of_ble_eq_true rfl, Nat.le_of_ble_eq_true rfl⟩) hL (fun r_14 u_12 H locs k_13 hW hL => ?_)
        obtain ⟨eu_12, xu_12⟩ := k_13
        rw [eu_12] at hW
        refine r_if_eq (tgt := 39) hx hb ⟨(by omega), (by omega)⟩ dX12_productRead_18 (by decide) (fun c_15 => ?_) (fun c_15 => ?_)
        · exact sVret Cx hr hlk hW hL ⟨hI5, hFm5, hGm5, (fun h => by have e8 := (show S5.1 231 20 = S5.1 231 20 from rfl); have e7 := (show S5.1 231 24 = S5.1 231 24 from rfl); have aS5 := hH5 (by have e9 := (show S5.1 231 20 = S5.1 231 20 from rfl); omega); have au_3 := xu_3 aS5.1; have a7 := hq5 (by omega); exact ⟨au_3.1, ⟨_, au_3.2.1, aS5.2 _ (gTl.nil (xu_12.2.2 (by omega)))⟩, by omega, by omega, by omega⟩)⟩ dX12_productRead_39
        · refine lv_aload_n hx hb dX12_productRead_21 rfl (lv_at hl 0 rfl) ?_
          refine lv_dup hx hb dX12_productRead_22 rfl ?_
          refine g_X12_315 Cx hW (k := 231) (by decide) rfl (v := S5.1 231 24) rfl dX12_productRead_23 ?_
          have n_16 := hE.nx (pz := S5.1 231 24) (by omega) (by have z := (xu_12.2.1 (by omega)); unfold gS at z; omega)
          refine lv_iconst (v := iv 1) hx hb dX12_productRead_26 (by decide) ?_
          refine r_iadd hx hb dX12_productRead_27 ?_
          refine p_X12_315 Cx hW hL (k := 231) (by decide) rfl dX12_productRead_28 (fun H locs hW hL => ?_)
          have F_17 : Fr S (uF S5 231 24 ((S5.1 231 24) + 1)) (pl [231]) := hFm5.F rfl
          have F_18 : Fr u_3 (uF S5 231 24 ((S5.1 231 24) + 1)) (pl [231]) := hL5_.F rfl
          have g_19 : FF S (uF S5 231 24 ((S5.1 231 24) + 1)) (fl [20, 21, 24]) := FF.F hGm5 rfl
          have g_20 : FF u_3 (uF S5 231 24 ((S5.1 231 24) + 1)) (fl [20, 21, 24]) := FF.F gL5_ rfl
          have i_21 : dX G (uF S5 231 24 ((S5.1 231 24) + 1)) := hI5.F (i := 24) (show (-2147483648) ≤ (S5.1 231 24) + 1 ∧ (S5.1 231 24) + 1 ≤ 2147483647 from ⟨by omega, by omega⟩)
          refine lv_aload_n hx hb dX12_productRead_31 rfl (lv_at hl 0 rfl) ?_
          refine lv_iload_n hx hb dX12_productRead_32 rfl (lv_at hl 1 rfl) ?_
          have lk_22 : (uF S5 231 24 ((S5.1 231 24) + 1)).1 231 24 = (S5.1 231 24) + 1 := uF_on
          have lk_23 : (uF S5 231 24 ((S5.1 231 24) + 1)).1 231 20 = S5.1 231 20 := uF_ne (fun h => absurd h.2 (by decide))
          refine sBv (sV (As := [.int (iv dp)]) (rest := []) (k := 231) Cx (hF (uF S5 231 24 ((S5.1 231 24) + 1)) ((S5.1 231 24) + 1) dp i_21 ((funext fun j => (uF_a).trans (((hL5_ 244 rfl).2.1 j).trans ((fu_3 244 rfl).2.1 j)) : (uF S5 231 24 ((S5.1 231 24) + 1)).2.1 244 = S.2.1 244).trans hK) ((funext fun j => (uF_a).trans (((hL5_ 247 rfl).2.1 j).trans ((fu_3 247 rfl).2.1 j)) : (uF S5 231 24 ((S5.1 231 24) + 1)).2.1 247 = S.2.1 247).trans hV) (by omega) (fun h => by have e8 := (show (uF S5 231 24 ((S5.1 231 24) + 1)).1 231 20 = S5.1 231 20 from uF_ne (fun h => absurd h.2 (by decide))); have a9 := hcu5 (by have e9 := (show (uF S5 231 24 ((S5.1 231 24) + 1)).1 231 20 = S5.1 231 20 from uF_ne (fun h => absurd h.2 (by decide))); omega); omega) (by omega)) (c_X12_352 Cx rfl rfl (rmk_ok (by omega) (by decide))) hW (by decide) rfl rfl rfl hl.1 rfl (Nat.le_of_ble_eq_true rfl) dX12_productRead_33 ⟨Nat.le_of_ble_eq_true rfl, Nat.le_of_ble_eq_true rfl⟩) hL (fun u_24 H locs k_25 hW hL => ?_)
          obtain ⟨iu_24, fu_24, gu_24, xu_24⟩ := k_25
          have F_26 := F_17.trans fu_24
          have F_27 := F_18.trans fu_24
          have g_28 : FF S u_24 (fl [20, 21, 24]) := FF.trans g_19 (FF.to gu_24 (fl_sub (by decide)))
          have g_29 : FF u_3 u_24 (fl [20, 21, 24]) := FF.trans g_20 (FF.to gu_24 (fl_sub (by decide)))
          refine lv_goto (tgt := 5) hx hb dX12_productRead_36 (by decide) ?_
          have q_30 : (-2147483648) ≤ u_24.1 231 20 ∧ u_24.1 231 20 ≤ 2147483647 := iu_24.fi 20
          have q_31 : (-2147483648) ≤ u_24.1 231 24 ∧ u_24.1 231 24 ≤ 2147483647 := iu_24.fi 24
          exact ih_5 u_24  _ _ _ (Nat.lt_of_lt_of_le (mf_lt (S := S5) (by omega) (by omega) (fun h => by have a9 := xu_24 h; omega)) (Nat.le_of_lt_succ hmeas)) iu_24 F_26 F_27 g_28 g_29 (fun h => by have a9 := xu_24 h; omega) (fun h => ⟨(hH5 (by omega)).1, fun q t => (hH5 (by omega)).2 q (gTl.cons (xu_12.2.1 (by omega)) (xu_24 h).2.1 t)⟩) (fun h => by have a9 := xu_24 h; have a8 := hq5 (by omega); omega) hW hL (lv_sub hl [0, 1] rfl)
  have q_32 : (-2147483648) ≤ u_3.1 231 20 ∧ u_3.1 231 20 ≤ 2147483647 := iu_3.fi 20
  have q_33 : (-2147483648) ≤ u_3.1 231 24 ∧ u_3.1 231 24 ≤ 2147483647 := iu_3.fi 24
  exact loop_5 (_ + 1) u_3  _ _ _ (Nat.lt_succ_self _) iu_3 F_5 Fr.rf g_6 FF.rf (fun h => by have a9 := xu_3 h; omega) (fun h => ⟨h, fun _ t => t⟩) (fun _ => Int.le_refl _) hW hL (lv_sub hl [0, 1] rfl)

set_option maxRecDepth 100000 in
set_option maxHeartbeats 4000000 in
theorem s_X12_sumRead (l : Launch) (G : sG) (S : sS) {K V : Int → Int} {T pz : Int} {D d1 N : Nat} {dp : Int} (hI : dX G S) (hN : (N : Int) = 30 - dp ∧ 0 ≤ dp) (h1 : d1 < D) (h8 : 8 ≤ D) (hF : Hd (PrC l G d1 K V T N)) (hK : S.2.1 244 = K) (hV : S.2.1 247 = V) (hE : gE K T) (hc : S.1 231 24 = pz) (hcu : Hd (S.1 231 20 = 0 → 0 ≤ pz ∧ pz ≤ T - 1)) : Met l yX12_sumRead (.code yX12_sumRead cX12_sumRead 2 none :: tb) (rmk D 0 0) (sPc G 294 S [.ref (G.2.2.1 + 231), .int (iv dp)]) (sQv G 294 (fun u => dX G u ∧ Fr S u (pl [231]) ∧ FF S u (fl [20, 21, 24]) ∧ (Hd (u.1 231 20 = 0 → S.1 231 20 = 0 ∧ gU K V (gF K V N) pz (u.1 231 24) ∧ pz < u.1 231 24 ∧ 0 ≤ u.1 231 24 ∧ u.1 231 24 ≤ T - 1)))) 0 0 (sF G) := by
  refine sEnter (by decide) (Nat.le_of_ble_eq_true rfl) ?_
  intro p e s m args below meth c Cx hr hlk hnm hW ls hl
  have Cx : sC G p m c cX12_sumRead 2 s args RX12 := Cx
  obtain ⟨hx, hb, hml, hown, hts⟩ := id Cx.1
  have hL : sL G [] := sL_nil
  have hl : lv_has ls 2 [(0, .ref (G.2.2.1 + 231)), (1, .int (iv dp))] := hl
  have hW0 := hW
  have hE1 := hE.1
  refine lv_aload_n hx hb dX12_sumRead_0 rfl (lv_at hl 0 rfl) ?_
  refine lv_iload_n hx hb dX12_sumRead_1 rfl (lv_at hl 1 rfl) ?_
  have q_1 : (-2147483648) ≤ S.1 231 24 ∧ S.1 231 24 ≤ 2147483647 := hI.fi 24
  have q_2 : (-2147483648) ≤ S.1 231 20 ∧ S.1 231 20 ≤ 2147483647 := hI.fi 20
  refine sBv (sV (As := [.int (iv dp)]) (rest := []) (k := 231) Cx (hF S pz dp hI hK hV (by omega) (fun h => by have e8 := (show S.1 231 20 = S.1 231 20 from rfl); have a9 := hcu (by have e9 := (show S.1 231 20 = S.1 231 20 from rfl); omega); omega) (by omega)) (c_X12_349 Cx rfl rfl (rmk_ok (by omega) (by decide))) hW (by decide) rfl rfl rfl hl.1 rfl (Nat.le_of_ble_eq_true rfl) dX12_sumRead_2 ⟨Nat.le_of_ble_eq_true rfl, Nat.le_of_ble_eq_true rfl⟩) hL (fun u_3 H locs k_4 hW hL => ?_)
  obtain ⟨iu_3, fu_3, gu_3, xu_3⟩ := k_4
  have F_5 := (Fr.rf : Fr S S (pl [231])).trans fu_3
  have g_6 : FF S u_3 (fl [20, 21, 24]) := FF.trans FF.rf (FF.to gu_3 (fl_sub (by decide)))
  have loop_5 : ∀ (fuel : Nat) (S5 : sS)  (H : Heap) (locs : List Loc) (ls : Array Slot), mf S5 T < fuel → (dX G S5) → (Fr S S5 (pl [231])) → (Fr u_3 S5 (pl [231])) → (FF S S5 (fl [20, 21, 24])) → (FF u_3 S5 (fl [20, 21, 24])) → (Hd (S5.1 231 20 = 0 → 0 ≤ S5.1 231 24 ∧ S5.1 231 24 ≤ T - 1)) → (Hd (S5.1 231 20 = 0 → u_3.1 231 20 = 0 ∧ ∀ q, gTl (fun c => gS K V c 43 ∨ gS K V c 45) (fun c x => gP K V (gF K V N) (c + 1) x) (S5.1 231 24) q → gTl (fun c => gS K V c 43 ∨ gS K V c 45) (fun c x => gP K V (gF K V N) (c + 1) x) (u_3.1 231 24) q)) → (Hd (S5.1 231 20 = 0 → u_3.1 231 24 ≤ S5.1 231 24)) → sW G 294 S5 H → sL G locs → lv_has ls 2 [(0, .ref (G.2.2.1 + 231)), (1, .int (iv dp))] → W p l e (rmk D 0 0) s m args below meth c H locs 0 0 (MQ below (sQv G 294 (fun u => dX G u ∧ Fr S u (pl [231]) ∧ FF S u (fl [20, 21, 24]) ∧ (Hd (u.1 231 20 = 0 → S.1 231 20 = 0 ∧ gU K V (gF K V N) pz (u.1 231 24) ∧ pz < u.1 231 24 ∧ 0 ≤ u.1 231 24 ∧ u.1 231 24 ≤ T - 1)))) args s 0 0 (sF G)) (F0 m 5 ls []) := by
    intro fuel
    induction fuel with
    | zero => intro S5  H locs ls hmeas hI5 hFm5 hL5_ hGm5 gL5_ hcu5 hH5 hq5 hW hL hl; exact absurd hmeas (Nat.not_lt_zero _)
    | succ fuel ih_5 =>
      intro S5  H locs ls hmeas hI5 hFm5 hL5_ hGm5 gL5_ hcu5 hH5 hq5 hW hL hl
      refine lv_aload_n hx hb dX12_sumRead_5 rfl (lv_at hl 0 rfl) ?_
      have q_7 : (-2147483648) ≤ S5.1 231 20 ∧ S5.1 231 20 ≤ 2147483647 := hI5.fi 20
      refine g_X12_270 Cx hW (k := 231) (by decide) rfl (v := S5.1 231 20) rfl dX12_sumRead_6 ?_
      refine r_if_ne (tgt := 48) hx hb ⟨(by omega), (by omega)⟩ dX12_sumRead_9 (by decide) (fun c_8 => ?_) (fun c_8 => ?_)
      · have q_9 : (-2147483648) ≤ S5.1 231 24 ∧ S5.1 231 24 ≤ 2147483647 := hI5.fi 24
        exact sVret Cx hr hlk hW hL ⟨hI5, hFm5, hGm5, (fun h => by have e8 := (show S5.1 231 20 = S5.1 231 20 from rfl); have aS5 := hH5 (by have e9 := (show S5.1 231 20 = S5.1 231 20 from rfl); omega); have au_3 := xu_3 aS5.1; exfalso; omega)⟩ dX12_sumRead_48
      · have b_10 := hcu5 (by have e9 := (show S5.1 231 20 = S5.1 231 20 from rfl); omega)
        refine lv_aload_n hx hb dX12_sumRead_12 rfl (lv_at hl 0 rfl) ?_
        refine lv_bipush (v := iv 43) hx hb dX12_sumRead_13 (by decide) ?_
        have q_11 : (-2147483648) ≤ S5.1 231 24 ∧ S5.1 231 24 ≤ 2147483647 := hI5.fi 24
        refine sBi (sV (As := [.int (iv 43)]) (rest := []) (k := 231) Cx (s_X12_isSign l G S5 (sv := 43) (K := K) (V := V) (pz := S5.1 231 24) hI5 (by omega) ((funext fun j => ((hL5_ 244 rfl).2.1 j).trans ((fu_3 244 rfl).2.1 j) : S5.2.1 244 = S.2.1 244).trans hK) ((funext fun j => ((hL5_ 247 rfl).2.1 j).trans ((fu_3 247 rfl).2.1 j) : S5.2.1 247 = S.2.1 247).trans hV) (by omega) (by omega)) (c_X12_318 Cx rfl rfl (rmk_ok (by omega) (by decide))) hW (by decide) rfl rfl rfl hl.1 rfl (Nat.le_of_ble_eq_true rfl) dX12_sumRead_15 ⟨Nat.le_of_ble_eq_true rfl, Nat.le_of_ble_eq_true rfl⟩) hL (fun r_14 u_12 H locs k_13 hW hL => ?_)
        obtain ⟨eu_12, xu_12⟩ := k_13
        rw [eu_12] at hW
        refine r_if_ne (tgt := 30) hx hb ⟨(by omega), (by omega)⟩ dX12_sumRead_18 (by decide) (fun c_15 => ?_) (fun c_15 => ?_)
        · refine lv_aload_n hx hb dX12_sumRead_30 rfl (lv_at hl 0 rfl) ?_
          refine lv_dup hx hb dX12_sumRead_31 rfl ?_
          refine g_X12_315 Cx hW (k := 231) (by decide) rfl (v := S5.1 231 24) rfl dX12_sumRead_32 ?_
          have n_16 := hE.nx (pz := S5.1 231 24) (by omega) (by have z := (xu_12.2.1 (by omega)); unfold gS at z; omega)
          refine lv_iconst (v := iv 1) hx hb dX12_sumRead_35 (by decide) ?_
          refine r_iadd hx hb dX12_sumRead_36 ?_
          refine p_X12_315 Cx hW hL (k := 231) (by decide) rfl dX12_sumRead_37 (fun H locs hW hL => ?_)
          have F_17 : Fr S (uF S5 231 24 ((S5.1 231 24) + 1)) (pl [231]) := hFm5.F rfl
          have F_18 : Fr u_3 (uF S5 231 24 ((S5.1 231 24) + 1)) (pl [231]) := hL5_.F rfl
          have g_19 : FF S (uF S5 231 24 ((S5.1 231 24) + 1)) (fl [20, 21, 24]) := FF.F hGm5 rfl
          have g_20 : FF u_3 (uF S5 231 24 ((S5.1 231 24) + 1)) (fl [20, 21, 24]) := FF.F gL5_ rfl
          have i_21 : dX G (uF S5 231 24 ((S5.1 231 24) + 1)) := hI5.F (i := 24) (show (-2147483648) ≤ (S5.1 231 24) + 1 ∧ (S5.1 231 24) + 1 ≤ 2147483647 from ⟨by omega, by omega⟩)
          refine lv_aload_n hx hb dX12_sumRead_40 rfl (lv_at hl 0 rfl) ?_
          refine lv_iload_n hx hb dX12_sumRead_41 rfl (lv_at hl 1 rfl) ?_
          have lk_22 : (uF S5 231 24 ((S5.1 231 24) + 1)).1 231 24 = (S5.1 231 24) + 1 := uF_on
          have lk_23 : (uF S5 231 24 ((S5.1 231 24) + 1)).1 231 20 = S5.1 231 20 := uF_ne (fun h => absurd h.2 (by decide))
          refine sBv (sV (As := [.int (iv dp)]) (rest := []) (k := 231) Cx (hF (uF S5 231 24 ((S5.1 231 24) + 1)) ((S5.1 231 24) + 1) dp i_21 ((funext fun j => (uF_a).trans (((hL5_ 244 rfl).2.1 j).trans ((fu_3 244 rfl).2.1 j)) : (uF S5 231 24 ((S5.1 231 24) + 1)).2.1 244 = S.2.1 244).trans hK) ((funext fun j => (uF_a).trans (((hL5_ 247 rfl).2.1 j).trans ((fu_3 247 rfl).2.1 j)) : (uF S5 231 24 ((S5.1 231 24) + 1)).2.1 247 = S.2.1 247).trans hV) (by omega) (fun h => by have e8 := (show (uF S5 231 24 ((S5.1 231 24) + 1)).1 231 20 = S5.1 231 20 from uF_ne (fun h => absurd h.2 (by decide))); have a9 := hcu5 (by have e9 := (show (uF S5 231 24 ((S5.1 231 24) + 1)).1 231 20 = S5.1 231 20 from uF_ne (fun h => absurd h.2 (by decide))); omega); omega) (by omega)) (c_X12_349 Cx rfl rfl (rmk_ok (by omega) (by decide))) hW (by decide) rfl rfl rfl hl.1 rfl (Nat.le_of_ble_eq_true rfl) dX12_sumRead_42 ⟨Nat.le_of_ble_eq_true rfl, Nat.le_of_ble_eq_true rfl⟩) hL (fun u_24 H locs k_25 hW hL => ?_)
          obtain ⟨iu_24, fu_24, gu_24, xu_24⟩ := k_25
          have F_26 := F_17.trans fu_24
          have F_27 := F_18.trans fu_24
          have g_28 : FF S u_24 (fl [20, 21, 24]) := FF.trans g_19 (FF.to gu_24 (fl_sub (by decide)))
          have g_29 : FF u_3 u_24 (fl [20, 21, 24]) := FF.trans g_20 (FF.to gu_24 (fl_sub (by decide)))
          refine lv_goto (tgt := 5) hx hb dX12_sumRead_45 (by decide) ?_
          have q_30 : (-2147483648) ≤ u_24.1 231 20 ∧ u_24.1 231 20 ≤ 2147483647 := iu_24.fi 20
          have q_31 : (-2147483648) ≤ u_24.1 231 24 ∧ u_24.1 231 24 ≤ 2147483647 := iu_24.fi 24
          exact ih_5 u_24  _ _ _ (Nat.lt_of_lt_of_le (mf_lt (S := S5) (by omega) (by omega) (fun h => by have a9 := xu_24 h; omega)) (Nat.le_of_lt_succ hmeas)) iu_24 F_26 F_27 g_28 g_29 (fun h => by have a9 := xu_24 h; omega) (fun h => ⟨(hH5 (by omega)).1, fun q t => (hH5 (by omega)).2 q (gTl.cons (.inl (xu_12.2.1 (by omega))) (xu_24 h).2.1 t)⟩) (fun h => by have a9 := xu_24 h; have a8 := hq5 (by omega); omega) hW hL (lv_sub hl [0, 1] rfl)
        · refine lv_aload_n hx hb dX12_sumRead_21 rfl (lv_at hl 0 rfl) ?_
          refine lv_bipush (v := iv 45) hx hb dX12_sumRead_22 (by decide) ?_
          refine sBi (sV (As := [.int (iv 45)]) (rest := []) (k := 231) Cx (s_X12_isSign l G S5 (sv := 45) (K := K) (V := V) (pz := S5.1 231 24) hI5 (by omega) ((funext fun j => ((hL5_ 244 rfl).2.1 j).trans ((fu_3 244 rfl).2.1 j) : S5.2.1 244 = S.2.1 244).trans hK) ((funext fun j => ((hL5_ 247 rfl).2.1 j).trans ((fu_3 247 rfl).2.1 j) : S5.2.1 247 = S.2.1 247).trans hV) (by omega) (by omega)) (c_X12_318 Cx rfl rfl (rmk_ok (by omega) (by decide))) hW (by decide) rfl rfl rfl hl.1 rfl (Nat.le_of_ble_eq_true rfl) dX12_sumRead_24 ⟨Nat.le_of_ble_eq_true rfl, Nat.le_of_ble_eq_true rfl⟩) hL (fun r_34 u_32 H locs k_33 hW hL => ?_)
          obtain ⟨eu_32, xu_32⟩ := k_33
          rw [eu_32] at hW
          refine r_if_eq (tgt := 48) hx hb ⟨(by omega), (by omega)⟩ dX12_sumRead_27 (by decide) (fun c_35 => ?_) (fun c_35 => ?_)
          · exact sVret Cx hr hlk hW hL ⟨hI5, hFm5, hGm5, (fun h => by have e8 := (show S5.1 231 20 = S5.1 231 20 from rfl); have e7 := (show S5.1 231 24 = S5.1 231 24 from rfl); have aS5 := hH5 (by have e9 := (show S5.1 231 20 = S5.1 231 20 from rfl); omega); have au_3 := xu_3 aS5.1; have a7 := hq5 (by omega); exact ⟨au_3.1, ⟨_, au_3.2.1, aS5.2 _ (gTl.nil (fun z => z.elim (xu_12.2.2 (by omega)) (xu_32.2.2 (by omega))))⟩, by omega, by omega, by omega⟩)⟩ dX12_sumRead_48
          · refine lv_aload_n hx hb dX12_sumRead_30 rfl (lv_at hl 0 rfl) ?_
            refine lv_dup hx hb dX12_sumRead_31 rfl ?_
            refine g_X12_315 Cx hW (k := 231) (by decide) rfl (v := S5.1 231 24) rfl dX12_sumRead_32 ?_
            have n_36 := hE.nx (pz := S5.1 231 24) (by omega) (by have z := (xu_32.2.1 (by omega)); unfold gS at z; omega)
            refine lv_iconst (v := iv 1) hx hb dX12_sumRead_35 (by decide) ?_
            refine r_iadd hx hb dX12_sumRead_36 ?_
            refine p_X12_315 Cx hW hL (k := 231) (by decide) rfl dX12_sumRead_37 (fun H locs hW hL => ?_)
            have F_37 : Fr S (uF S5 231 24 ((S5.1 231 24) + 1)) (pl [231]) := hFm5.F rfl
            have F_38 : Fr u_3 (uF S5 231 24 ((S5.1 231 24) + 1)) (pl [231]) := hL5_.F rfl
            have g_39 : FF S (uF S5 231 24 ((S5.1 231 24) + 1)) (fl [20, 21, 24]) := FF.F hGm5 rfl
            have g_40 : FF u_3 (uF S5 231 24 ((S5.1 231 24) + 1)) (fl [20, 21, 24]) := FF.F gL5_ rfl
            have i_41 : dX G (uF S5 231 24 ((S5.1 231 24) + 1)) := hI5.F (i := 24) (show (-2147483648) ≤ (S5.1 231 24) + 1 ∧ (S5.1 231 24) + 1 ≤ 2147483647 from ⟨by omega, by omega⟩)
            refine lv_aload_n hx hb dX12_sumRead_40 rfl (lv_at hl 0 rfl) ?_
            refine lv_iload_n hx hb dX12_sumRead_41 rfl (lv_at hl 1 rfl) ?_
            have lk_42 : (uF S5 231 24 ((S5.1 231 24) + 1)).1 231 24 = (S5.1 231 24) + 1 := uF_on
            have lk_43 : (uF S5 231 24 ((S5.1 231 24) + 1)).1 231 20 = S5.1 231 20 := uF_ne (fun h => absurd h.2 (by decide))
            refine sBv (sV (As := [.int (iv dp)]) (rest := []) (k := 231) Cx (hF (uF S5 231 24 ((S5.1 231 24) + 1)) ((S5.1 231 24) + 1) dp i_41 ((funext fun j => (uF_a).trans (((hL5_ 244 rfl).2.1 j).trans ((fu_3 244 rfl).2.1 j)) : (uF S5 231 24 ((S5.1 231 24) + 1)).2.1 244 = S.2.1 244).trans hK) ((funext fun j => (uF_a).trans (((hL5_ 247 rfl).2.1 j).trans ((fu_3 247 rfl).2.1 j)) : (uF S5 231 24 ((S5.1 231 24) + 1)).2.1 247 = S.2.1 247).trans hV) (by omega) (fun h => by have e8 := (show (uF S5 231 24 ((S5.1 231 24) + 1)).1 231 20 = S5.1 231 20 from uF_ne (fun h => absurd h.2 (by decide))); have a9 := hcu5 (by have e9 := (show (uF S5 231 24 ((S5.1 231 24) + 1)).1 231 20 = S5.1 231 20 from uF_ne (fun h => absurd h.2 (by decide))); omega); omega) (by omega)) (c_X12_349 Cx rfl rfl (rmk_ok (by omega) (by decide))) hW (by decide) rfl rfl rfl hl.1 rfl (Nat.le_of_ble_eq_true rfl) dX12_sumRead_42 ⟨Nat.le_of_ble_eq_true rfl, Nat.le_of_ble_eq_true rfl⟩) hL (fun u_44 H locs k_45 hW hL => ?_)
            obtain ⟨iu_44, fu_44, gu_44, xu_44⟩ := k_45
            have F_46 := F_37.trans fu_44
            have F_47 := F_38.trans fu_44
            have g_48 : FF S u_44 (fl [20, 21, 24]) := FF.trans g_39 (FF.to gu_44 (fl_sub (by decide)))
            have g_49 : FF u_3 u_44 (fl [20, 21, 24]) := FF.trans g_40 (FF.to gu_44 (fl_sub (by decide)))
            refine lv_goto (tgt := 5) hx hb dX12_sumRead_45 (by decide) ?_
            have q_50 : (-2147483648) ≤ u_44.1 231 20 ∧ u_44.1 231 20 ≤ 2147483647 := iu_44.fi 20
            have q_51 : (-2147483648) ≤ u_44.1 231 24 ∧ u_44.1 231 24 ≤ 2147483647 := iu_44.fi 24
            exact ih_5 u_44  _ _ _ (Nat.lt_of_lt_of_le (mf_lt (S := S5) (by omega) (by omega) (fun h => by have a9 := xu_44 h; omega)) (Nat.le_of_lt_succ hmeas)) iu_44 F_46 F_47 g_48 g_49 (fun h => by have a9 := xu_44 h; omega) (fun h => ⟨(hH5 (by omega)).1, fun q t => (hH5 (by omega)).2 q (gTl.cons (.inr (xu_32.2.1 (by omega))) (xu_44 h).2.1 t)⟩) (fun h => by have a9 := xu_44 h; have a8 := hq5 (by omega); omega) hW hL (lv_sub hl [0, 1] rfl)
  have q_52 : (-2147483648) ≤ u_3.1 231 20 ∧ u_3.1 231 20 ≤ 2147483647 := iu_3.fi 20
  have q_53 : (-2147483648) ≤ u_3.1 231 24 ∧ u_3.1 231 24 ≤ 2147483647 := iu_3.fi 24
  exact loop_5 (_ + 1) u_3  _ _ _ (Nat.lt_succ_self _) iu_3 F_5 Fr.rf g_6 FF.rf (fun h => by have a9 := xu_3 h; omega) (fun h => ⟨h, fun _ t => t⟩) (fun _ => Int.le_refl _) hW hL (lv_sub hl [0, 1] rfl)

theorem rd_all (l : Launch) (G : sG) (K V : Int → Int) (T : Int) (hE : gE K T) : ∀ N : Nat, FrC l G (3 * N + 8) K V T N ∧ PrC l G (3 * N + 9) K V T N ∧ SuC l G (3 * N + 10) K V T N := by
  have fin : ∀ N : Nat, FrC l G (3 * N + 8) K V T N → FrC l G (3 * N + 8) K V T N ∧ PrC l G (3 * N + 9) K V T N ∧ SuC l G (3 * N + 10) K V T N := fun N hF =>
    have hP : PrC l G (3 * N + 9) K V T N := fun S pz dp hI hK hV hc hcu hN => s_X12_productRead l G S hI hN (d1 := 3 * N + 8) (by omega) (by omega) hF hK hV hE hc hcu
    ⟨hF, hP, fun S pz dp hI hK hV hc hcu hN => s_X12_sumRead l G S hI hN (d1 := 3 * N + 9) (by omega) (by omega) hP hK hV hE hc hcu⟩
  intro N
  induction N with
  | zero => exact fin 0 (fun S pz dp hI hK hV hc hcu hN => s_X12_factorRead l G S hI hN (d1 := 0) (d2 := 0) (by omega) (by omega) (by omega) (fun n h => absurd h (by omega)) (fun n h => absurd h (by omega)) hK hV hE hc hcu)
  | succ N ih => exact fin (N + 1) (fun S pz dp hI hK hV hc hcu hN => s_X12_factorRead l G S hI hN (d1 := 3 * N + 8) (d2 := 3 * N + 10) (by omega) (by omega) (by omega) (fun n h => by cases h; exact ih.1) (fun n h => by cases h; exact ih.2.2) hK hV hE hc hcu)
