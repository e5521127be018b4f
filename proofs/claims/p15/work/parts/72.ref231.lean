/-! The first reading: factors, products, sums, by the depth that is left -/
def FrC (l : Launch) (G : sG) (D : Nat) (K V : Int → Int) (T : Int) (N : Nat) : Prop := ∀ (S : sS) (pz dp : Int), dX G S → S.2.1 244 = K → S.2.1 247 = V → S.1 231 24 = pz → Hd (S.1 231 20 = 0 → 0 ≤ pz ∧ pz ≤ T - 1) → ((N : Int) = 30 - dp ∧ 0 ≤ dp) → Met l yX12_factorRead (.code yX12_factorRead cX12_factorRead 2 none :: tb) (rmk D 0 0) (sPc G 294 S [.ref (G.2.2.1 + 231), .int (iv dp)]) (sQv G 294 (fun u => dX G u ∧ Fr S u (pl [231]) ∧ FF S u (fl [20, 21, 24]) ∧ (Hd (u.1 231 20 = 0 → S.1 231 20 = 0 ∧ gF K V N pz (u.1 231 24) ∧ pz < u.1 231 24 ∧ 0 ≤ u.1 231 24 ∧ u.1 231 24 ≤ T - 1)))) 0 0 (sF G)
def PrC (l : Launch) (G : sG) (D : Nat) (K V : Int → Int) (T : Int) (N : Nat) : Prop := ∀ (S : sS) (pz dp : Int), dX G S → S.2.1 244 = K → S.2.1 247 = V → S.1 231 24 = pz → Hd (S.1 231 20 = 0 → 0 ≤ pz ∧ pz ≤ T - 1) → ((N : Int) = 30 - dp ∧ 0 ≤ dp) → Met l yX12_productRead (.code yX12_productRead cX12_productRead 2 none :: tb) (rmk D 0 0) (sPc G 294 S [.ref (G.2.2.1 + 231), .int (iv dp)]) (sQv G 294 (fun u => dX G u ∧ Fr S u (pl [231]) ∧ FF S u (fl [20, 21, 24]) ∧ (Hd (u.1 231 20 = 0 → S.1 231 20 = 0 ∧ gP K V (gF K V N) pz (u.1 231 24) ∧ pz < u.1 231 24 ∧ 0 ≤ u.1 231 24 ∧ u.1 231 24 ≤ T - 1)))) 0 0 (sF G)
def SuC (l : Launch) (G : sG) (D : Nat) (K V : Int → Int) (T : Int) (N : Nat) : Prop := ∀ (S : sS) (pz dp : Int), dX G S → S.2.1 244 = K → S.2.1 247 = V → S.1 231 24 = pz → Hd (S.1 231 20 = 0 → 0 ≤ pz ∧ pz ≤ T - 1) → ((N : Int) = 30 - dp ∧ 0 ≤ dp) → Met l yX12_sumRead (.code yX12_sumRead cX12_sumRead 2 none :: tb) (rmk D 0 0) (sPc G 294 S [.ref (G.2.2.1 + 231), .int (iv dp)]) (sQv G 294 (fun u => dX G u ∧ Fr S u (pl [231]) ∧ FF S u (fl [20, 21, 24]) ∧ (Hd (u.1 231 20 = 0 → S.1 231 20 = 0 ∧ gU K V (gF K V N) pz (u.1 231 24) ∧ pz < u.1 231 24 ∧ 0 ≤ u.1 231 24 ∧ u.1 231 24 ≤ T - 1)))) 0 0 (sF G)
def gPtE (K V : Int → Int) (T : Int) : Prop := ∃ a, gTl (fun c => gW K V c 2 ∨ gW K V c 3 ∨ gW K V c 4) (gT K V) 0 a ∧ (gW K V a 0 ∨ gW K V a 1) ∧ ∃ b, gU K V (gF K V 30) (a + 1) b ∧ ∃ c, gs K V 59 b c ∧ ∃ d, gTl (fun c => gW K V c 6) (gRo K V (gF K V 30)) c d ∧ K d = 5 ∧ d ≤ T - 1
set_option maxRecDepth 100000 in
set_option maxHeartbeats 4000000 in
theorem s_X12_factorRead (l : Launch) (G : sG) (S : sS) {K V : Int → Int} {T pz : Int} {D d1 d2 N : Nat} {dp : Int} (hI : dX G S) (hN : (N : Int) = 30 - dp ∧ 0 ≤ dp) (h1 : d1 < D) (h2 : d2 < D) (h8 : 8 ≤ D) (hF : Hd (∀ n, N = n + 1 → FrC l G d1 K V T n)) (hU : Hd (∀ n, N = n + 1 → SuC l G d2 K V T n)) (hK : S.2.1 244 = K) (hV : S.2.1 247 = V) (hE : gE K T) (hc : S.1 231 24 = pz) (hcu : Hd (S.1 231 20 = 0 → 0 ≤ pz ∧ pz ≤ T - 1)) : Met l yX12_factorRead (.code yX12_factorRead cX12_factorRead 2 none :: tb) (rmk D 0 0) (sPc G 294 S [.ref (G.2.2.1 + 231), .int (iv dp)]) (sQv G 294 (fun u => dX G u ∧ Fr S u (pl [231]) ∧ FF S u (fl [20, 21, 24]) ∧ (Hd (u.1 231 20 = 0 → S.1 231 20 = 0 ∧ gF K V N pz (u.1 231 24) ∧ pz < u.1 231 24 ∧ 0 ≤ u.1 231 24 ∧ u.1 231 24 ≤ T - 1)))) 0 0 (sF G) := by
  refine sEnter (by decide) (Nat.le_of_ble_eq_true rfl) ?_
  intro p e s m args below meth c Cx hr hlk hnm hW ls hl
  have Cx : sC G p m c cX12_factorRead 2 s args RX12 := Cx
  obtain ⟨hx, hb, hml, hown, hts⟩ := id Cx.1
  have hL : sL G [] := sL_nil
  have hl : lv_has ls 2 [(0, .ref (G.2.2.1 + 231)), (1, .int (iv dp))] := hl
  have hW0 := hW
  have hE1 := hE.1
  refine lv_aload_n hx hb dX12_factorRead_0 rfl (lv_at hl 0 rfl) ?_
  have q_1 : (-2147483648) ≤ S.1 231 20 ∧ S.1 231 20 ≤ 2147483647 := hI.fi 20
  refine g_X12_270 Cx hW (k := 231) (by decide) rfl (v := S.1 231 20) rfl dX12_factorRead_1 ?_
  refine r_if_eq (tgt := 8) hx hb ⟨(by omega), (by omega)⟩ dX12_factorRead_4 (by decide) (fun c_2 => ?_) (fun c_2 => ?_)
  · have b_3 := hcu (by have e9 := (show S.1 231 20 = S.1 231 20 from rfl); omega)
    refine lv_iload_n hx hb dX12_factorRead_8 rfl (lv_at hl 1 rfl) ?_
    refine lv_bipush (v := iv 30) hx hb dX12_factorRead_9 (by decide) ?_
    refine r_icmp_lt (tgt := 24) hx hb ⟨(by omega), (by omega)⟩ ⟨(by omega), (by omega)⟩ dX12_factorRead_11 (by decide) (fun c_4 => ?_) (fun c_4 => ?_)
    · obtain ⟨n, rfl⟩ : ∃ n, N = n + 1 := ⟨N - 1, by omega⟩
      refine lv_aload_n hx hb dX12_factorRead_24 rfl (lv_at hl 0 rfl) ?_
      refine lv_bipush (v := iv 45) hx hb dX12_factorRead_25 (by decide) ?_
      have q_5 : (-2147483648) ≤ S.1 231 24 ∧ S.1 231 24 ≤ 2147483647 := hI.fi 24
      refine sBi (sV (As := [.int (iv 45)]) (rest := []) (k := 231) Cx (s_X12_isSign l G S (sv := 45) (K := K) (V := V) (pz := pz) hI (by omega) hK hV (by omega) (by omega)) (c_X12_318 Cx rfl rfl (rmk_ok (by omega) (by decide))) hW (by decide) rfl rfl rfl hl.1 rfl (Nat.le_of_ble_eq_true rfl) dX12_factorRead_27 ⟨Nat.le_of_ble_eq_true rfl, Nat.le_of_ble_eq_true rfl⟩) hL (fun r_8 u_6 H locs k_7 hW hL => ?_)
      obtain ⟨eu_6, xu_6⟩ := k_7
      rw [eu_6] at hW
      refine r_if_eq (tgt := 53) hx hb ⟨(by omega), (by omega)⟩ dX12_factorRead_30 (by decide) (fun c_9 => ?_) (fun c_9 => ?_)
      · refine lv_aload_n hx hb dX12_factorRead_53 rfl (lv_at hl 0 rfl) ?_
        refine g_X12_47 Cx hW (k := 231) (by decide) rfl (v := .ref (G.2.2.1 + 244)) (rd_15 hI) dX12_factorRead_54 ?_
        refine lv_aload_n hx hb dX12_factorRead_57 rfl (lv_at hl 0 rfl) ?_
        refine g_X12_315 Cx hW (k := 231) (by decide) rfl (v := S.1 231 24) rfl dX12_factorRead_58 ?_
        refine rIald Cx hW (k := 244) (by decide) rfl (by decide) (by omega) (by omega) dX12_factorRead_61 ?_
        have q_10 : (-2147483648) ≤ S.2.1 244 (S.1 231 24) ∧ S.2.1 244 (S.1 231 24) ≤ 2147483647 := hI.ai 244 (S.1 231 24)
        refine r_i (b := S.2.1 244 (S.1 231 24)) rfl ?_
        have hr1 : K pz = S.2.1 244 (S.1 231 24) := by rw [← hK, ← hc]
        refine lv_iconst (v := iv 2) hx hb dX12_factorRead_62 (by decide) ?_
        refine r_icmp_ne (tgt := 79) hx hb ⟨(by omega), (by omega)⟩ ⟨(by omega), (by omega)⟩ dX12_factorRead_63 (by decide) (fun c_11 => ?_) (fun c_11 => ?_)
        · refine lv_aload_n hx hb dX12_factorRead_79 rfl (lv_at hl 0 rfl) ?_
          refine lv_bipush (v := iv 40) hx hb dX12_factorRead_80 (by decide) ?_
          refine sBi (sV (As := [.int (iv 40)]) (rest := []) (k := 231) Cx (s_X12_isSign l G S (sv := 40) (K := K) (V := V) (pz := pz) hI (by omega) hK hV (by omega) (by omega)) (c_X12_318 Cx rfl rfl (rmk_ok (by omega) (by decide))) hW (by decide) rfl rfl rfl hl.1 rfl (Nat.le_of_ble_eq_true rfl) dX12_factorRead_82 ⟨Nat.le_of_ble_eq_true rfl, Nat.le_of_ble_eq_true rfl⟩) hL (fun r_14 u_12 H locs k_13 hW hL => ?_)
          obtain ⟨eu_12, xu_12⟩ := k_13
          rw [eu_12] at hW
          refine r_if_eq (tgt := 114) hx hb ⟨(by omega), (by omega)⟩ dX12_factorRead_85 (by decide) (fun c_15 => ?_) (fun c_15 => ?_)
          · refine lv_aload_n hx hb dX12_factorRead_114 rfl (lv_at hl 0 rfl) ?_
            refine lv_bipush (v := iv 7) hx hb dX12_factorRead_115 (by decide) ?_
            refine sBi (sV (As := [.int (iv 7)]) (rest := []) (k := 231) Cx (s_X12_isWord l G S (sv := 7) (K := K) (V := V) (pz := pz) hI (by omega) hK hV (by omega) (by omega)) (c_X12_325 Cx rfl rfl (rmk_ok (by omega) (by decide))) hW (by decide) rfl rfl rfl hl.1 rfl (Nat.le_of_ble_eq_true rfl) dX12_factorRead_117 ⟨Nat.le_of_ble_eq_true rfl, Nat.le_of_ble_eq_true rfl⟩) hL (fun r_18 u_16 H locs k_17 hW hL => ?_)
            obtain ⟨eu_16, xu_16⟩ := k_17
            rw [eu_16] at hW
            refine r_if_eq (tgt := 171) hx hb ⟨(by omega), (by omega)⟩ dX12_factorRead_120 (by decide) (fun c_19 => ?_) (fun c_19 => ?_)
            · refine lv_aload_n hx hb dX12_factorRead_171 rfl (lv_at hl 0 rfl) ?_
              refine g_X12_47 Cx hW (k := 231) (by decide) rfl (v := .ref (G.2.2.1 + 244)) (rd_15 hI) dX12_factorRead_172 ?_
              refine lv_aload_n hx hb dX12_factorRead_175 rfl (lv_at hl 0 rfl) ?_
              refine g_X12_315 Cx hW (k := 231) (by decide) rfl (v := S.1 231 24) rfl dX12_factorRead_176 ?_
              refine rIald Cx hW (k := 244) (by decide) rfl (by decide) (by omega) (by omega) dX12_factorRead_179 ?_
              refine r_i (b := S.2.1 244 (S.1 231 24)) rfl ?_
              have hr1 : K pz = S.2.1 244 (S.1 231 24) := by rw [← hK, ← hc]
              refine lv_iconst (v := iv 1) hx hb dX12_factorRead_180 (by decide) ?_
              refine r_icmp_ne (tgt := 257) hx hb ⟨(by omega), (by omega)⟩ ⟨(by omega), (by omega)⟩ dX12_factorRead_181 (by decide) (fun c_20 => ?_) (fun c_20 => ?_)
              · refine lv_aload_n hx hb dX12_factorRead_257 rfl (lv_at hl 0 rfl) ?_
                refine lv_iconst (v := iv 1) hx hb dX12_factorRead_258 (by decide) ?_
                refine lv_aload_n hx hb dX12_factorRead_259 rfl (lv_at hl 0 rfl) ?_
                refine g_X12_315 Cx hW (k := 231) (by decide) rfl (v := S.1 231 24) rfl dX12_factorRead_260 ?_
                refine sBv (sV (As := [.int (iv 1), .int (iv (S.1 231 24))]) (rest := []) (k := 231) Cx (s_X12_wrong l G S (cd := 1) (tk := S.1 231 24) hI (by omega) (by omega)) (c_X12_321 Cx rfl rfl (rmk_ok (by omega) (by decide))) hW (by decide) rfl rfl rfl hl.1 rfl (Nat.le_of_ble_eq_true rfl) dX12_factorRead_263 ⟨Nat.le_of_ble_eq_true rfl, Nat.le_of_ble_eq_true rfl⟩) hL (fun u_21 H locs k_22 hW hL => ?_)
                obtain ⟨iu_21, fu_21, gu_21, xu_21⟩ := k_22
                have F_23 := (Fr.rf : Fr S S (pl [231])).trans fu_21
                have g_24 : FF S u_21 (fl [20, 21, 24]) := FF.trans FF.rf (FF.to gu_21 (fl_sub (by decide)))
                have q_25 : (-2147483648) ≤ u_21.1 231 20 ∧ u_21.1 231 20 ≤ 2147483647 := iu_21.fi 20
                have lk_26 : u_21.1 231 24 = S.1 231 24 := gu_21 24 rfl
                exact sVret Cx hr hlk hW hL ⟨iu_21, F_23, g_24, (fun h => absurd h (by have e9 := (show u_21.1 231 20 = u_21.1 231 20 from rfl); have a9 := xu_21; omega))⟩ dX12_factorRead_266
              · refine lv_aload_n hx hb dX12_factorRead_184 rfl (lv_at hl 0 rfl) ?_
                refine lv_dup hx hb dX12_factorRead_185 rfl ?_
                refine g_X12_315 Cx hW (k := 231) (by decide) rfl (v := S.1 231 24) rfl dX12_factorRead_186 ?_
                have n_27 := hE.nx (pz := pz) (by omega) (by omega)
                refine lv_iconst (v := iv 1) hx hb dX12_factorRead_189 (by decide) ?_
                refine r_iadd hx hb dX12_factorRead_190 ?_
                refine p_X12_315 Cx hW hL (k := 231) (by decide) rfl dX12_factorRead_191 (fun H locs hW hL => ?_)
                have F_28 : Fr S (uF S 231 24 ((S.1 231 24) + 1)) (pl [231]) := (Fr.rf : Fr S S (pl [231])).F rfl
                have g_29 : FF S (uF S 231 24 ((S.1 231 24) + 1)) (fl [20, 21, 24]) := FF.F FF.rf rfl
                have i_30 : dX G (uF S 231 24 ((S.1 231 24) + 1)) := hI.F (i := 24) (show (-2147483648) ≤ (S.1 231 24) + 1 ∧ (S.1 231 24) + 1 ≤ 2147483647 from ⟨by omega, by omega⟩)
                refine lv_aload_n hx hb dX12_factorRead_194 rfl (lv_at hl 0 rfl) ?_
                refine lv_bipush (v := iv 91) hx hb dX12_factorRead_195 (by decide) ?_
                have lk_31 : (uF S 231 24 ((S.1 231 24) + 1)).1 231 24 = (S.1 231 24) + 1 := uF_on
                refine sBi (sV (As := [.int (iv 91)]) (rest := []) (k := 231) Cx (s_X12_isSign l G (uF S 231 24 ((S.1 231 24) + 1)) (sv := 91) (K := K) (V := V) (pz := (pz) + 1) i_30 (by omega) ((funext fun j => uF_a : (uF S 231 24 ((S.1 231 24) + 1)).2.1 244 = S.2.1 244).trans hK) ((funext fun j => uF_a : (uF S 231 24 ((S.1 231 24) + 1)).2.1 247 = S.2.1 247).trans hV) (by omega) (by omega)) (c_X12_318 Cx rfl rfl (rmk_ok (by omega) (by decide))) hW (by decide) rfl rfl rfl hl.1 rfl (Nat.le_of_ble_eq_true rfl) dX12_factorRead_197 ⟨Nat.le_of_ble_eq_true rfl, Nat.le_of_ble_eq_true rfl⟩) hL (fun r_34 u_32 H locs k_33 hW hL => ?_)
                obtain ⟨eu_32, xu_32⟩ := k_33
                rw [eu_32] at hW
                refine r_if_ne (tgt := 204) hx hb ⟨(by omega), (by omega)⟩ dX12_factorRead_200 (by decide) (fun c_35 => ?_) (fun c_35 => ?_)
                · refine lv_aload_n hx hb dX12_factorRead_204 rfl (lv_at hl 0 rfl) ?_
                  refine lv_dup hx hb dX12_factorRead_205 rfl ?_
                  refine g_X12_315 Cx hW (k := 231) (by decide) rfl (v := (S.1 231 24) + 1) uF_on dX12_factorRead_206 ?_
                  have n_36 := hE.nx (pz := (pz) + 1) (by omega) (by have z := (xu_32.2.1 (by omega)); unfold gS at z; omega)
                  refine lv_iconst (v := iv 1) hx hb dX12_factorRead_209 (by decide) ?_
                  refine r_iadd hx hb dX12_factorRead_210 ?_
                  refine p_X12_315 Cx hW hL (k := 231) (by decide) rfl dX12_factorRead_211 (fun H locs hW hL => ?_)
                  have F_37 : Fr S (uF (uF S 231 24 ((S.1 231 24) + 1)) 231 24 (((S.1 231 24) + 1) + 1)) (pl [231]) := F_28.F rfl
                  have g_38 : FF S (uF (uF S 231 24 ((S.1 231 24) + 1)) 231 24 (((S.1 231 24) + 1) + 1)) (fl [20, 21, 24]) := FF.F g_29 rfl
                  have i_39 : dX G (uF (uF S 231 24 ((S.1 231 24) + 1)) 231 24 (((S.1 231 24) + 1) + 1)) := i_30.F (i := 24) (show (-2147483648) ≤ ((S.1 231 24) + 1) + 1 ∧ ((S.1 231 24) + 1) + 1 ≤ 2147483647 from ⟨by omega, by omega⟩)
                  refine lv_aload_n hx hb dX12_factorRead_214 rfl (lv_at hl 0 rfl) ?_
                  have lk_40 : (uF (uF S 231 24 ((S.1 231 24) + 1)) 231 24 (((S.1 231 24) + 1) + 1)).1 231 24 = ((S.1 231 24) + 1) + 1 := uF_on
                  have lk_41 : (uF (uF S 231 24 ((S.1 231 24) + 1)) 231 24 (((S.1 231 24) + 1) + 1)).1 231 20 = S.1 231 20 := (uF_ne (fun h => absurd h.2 (by decide))).trans (uF_ne (fun h => absurd h.2 (by decide)))
                  refine sBv (sV (As := []) (rest := []) (k := 231) Cx (s_X12_indexRead l G (uF (uF S 231 24 ((S.1 231 24) + 1)) 231 24 (((S.1 231 24) + 1) + 1)) (K := K) (V := V) (T := T) (pz := ((pz) + 1) + 1) i_39 ((funext fun j => (uF_a).trans (uF_a) : (uF (uF S 231 24 ((S.1 231 24) + 1)) 231 24 (((S.1 231 24) + 1) + 1)).2.1 244 = S.2.1 244).trans hK) ((funext fun j => (uF_a).trans (uF_a) : (uF (uF S 231 24 ((S.1 231 24) + 1)) 231 24 (((S.1 231 24) + 1) + 1)).2.1 247 = S.2.1 247).trans hV) hE (by omega) (fun h => by have e8 := (show (uF (uF S 231 24 ((S.1 231 24) + 1)) 231 24 (((S.1 231 24) + 1) + 1)).1 231 20 = S.1 231 20 from (uF_ne (fun h => absurd h.2 (by decide))).trans (uF_ne (fun h => absurd h.2 (by decide)))); have a9 := hcu (by have e9 := (show (uF (uF S 231 24 ((S.1 231 24) + 1)) 231 24 (((S.1 231 24) + 1) + 1)).1 231 20 = S.1 231 20 from (uF_ne (fun h => absurd h.2 (by decide))).trans (uF_ne (fun h => absurd h.2 (by decide)))); omega); omega)) (c_X12_355 Cx rfl rfl (rmk_ok (by omega) (by decide))) hW (by decide) rfl rfl rfl hl.1 rfl (Nat.le_of_ble_eq_true rfl) dX12_factorRead_215 ⟨Nat.le_of_ble_eq_true rfl, Nat.le_of_ble_eq_true rfl⟩) hL (fun u_42 H locs k_43 hW hL => ?_)
                  obtain ⟨iu_42, fu_42, gu_42, xu_42⟩ := k_43
                  have F_44 := F_37.trans fu_42
                  have g_45 : FF S u_42 (fl [20, 21, 24]) := FF.trans g_38 (FF.to gu_42 (fl_sub (by decide)))
                  refine lv_aload_n hx hb dX12_factorRead_218 rfl (lv_at hl 0 rfl) ?_
                  have q_46 : (-2147483648) ≤ u_42.1 231 20 ∧ u_42.1 231 20 ≤ 2147483647 := iu_42.fi 20
                  refine g_X12_270 Cx hW (k := 231) (by decide) rfl (v := u_42.1 231 20) rfl dX12_factorRead_219 ?_
                  refine r_if_ne (tgt := 248) hx hb ⟨(by omega), (by omega)⟩ dX12_factorRead_222 (by decide) (fun c_47 => ?_) (fun c_47 => ?_)
                  · refine lv_aload_n hx hb dX12_factorRead_248 rfl (lv_at hl 0 rfl) ?_
                    refine lv_bipush (v := iv 93) hx hb dX12_factorRead_249 (by decide) ?_
                    have q_48 : (-2147483648) ≤ u_42.1 231 24 ∧ u_42.1 231 24 ≤ 2147483647 := iu_42.fi 24
                    refine sBv (sV (As := [.int (iv 93)]) (rest := []) (k := 231) Cx (s_X12_want l G u_42 (sv := 93) (K := K) (V := V) (T := T) (pz := u_42.1 231 24) iu_42 (by omega) ((funext fun j => ((fu_42 244 rfl).2.1 j).trans ((uF_a).trans (uF_a)) : u_42.2.1 244 = S.2.1 244).trans hK) ((funext fun j => ((fu_42 247 rfl).2.1 j).trans ((uF_a).trans (uF_a)) : u_42.2.1 247 = S.2.1 247).trans hV) hE (by omega) (fun h => by have e8 := (show u_42.1 231 20 = u_42.1 231 20 from rfl); have a9 := xu_42 (by have e9 := (show u_42.1 231 20 = u_42.1 231 20 from rfl); omega); omega)) (c_X12_331 Cx rfl rfl (rmk_ok (by omega) (by decide))) hW (by decide) rfl rfl rfl hl.1 rfl (Nat.le_of_ble_eq_true rfl) dX12_factorRead_251 ⟨Nat.le_of_ble_eq_true rfl, Nat.le_of_ble_eq_true rfl⟩) hL (fun u_49 H locs k_50 hW hL => ?_)
                    obtain ⟨iu_49, fu_49, gu_49, xu_49⟩ := k_50
                    have F_51 := F_44.trans fu_49
                    have g_52 : FF S u_49 (fl [20, 21, 24]) := FF.trans g_45 (FF.to gu_49 (fl_sub (by decide)))
                    refine lv_goto (tgt := 266) hx hb dX12_factorRead_254 (by decide) ?_
                    have q_53 : (-2147483648) ≤ u_49.1 231 20 ∧ u_49.1 231 20 ≤ 2147483647 := iu_49.fi 20
                    have q_54 : (-2147483648) ≤ u_49.1 231 24 ∧ u_49.1 231 24 ≤ 2147483647 := iu_49.fi 24
                    exact sVret Cx hr hlk hW hL ⟨iu_49, F_51, g_52, (fun h => by have e8 := (show u_49.1 231 20 = u_49.1 231 20 from rfl); have au_49 := xu_49 (by have e9 := (show u_49.1 231 20 = u_49.1 231 20 from rfl); omega); have au_42 := xu_42 au_49.1; exfalso; omega)⟩ dX12_factorRead_266
                  · have b_55 := xu_42 (by have e9 := (show u_42.1 231 20 = u_42.1 231 20 from rfl); omega)
                    refine lv_aload_n hx hb dX12_factorRead_225 rfl (lv_at hl 0 rfl) ?_
                    refine lv_bipush (v := iv 44) hx hb dX12_factorRead_226 (by decide) ?_
                    have q_56 : (-2147483648) ≤ u_42.1 231 24 ∧ u_42.1 231 24 ≤ 2147483647 := iu_42.fi 24
                    refine sBi (sV (As := [.int (iv 44)]) (rest := []) (k := 231) Cx (s_X12_isSign l G u_42 (sv := 44) (K := K) (V := V) (pz := u_42.1 231 24) iu_42 (by omega) ((funext fun j => ((fu_42 244 rfl).2.1 j).trans ((uF_a).trans (uF_a)) : u_42.2.1 244 = S.2.1 244).trans hK) ((funext fun j => ((fu_42 247 rfl).2.1 j).trans ((uF_a).trans (uF_a)) : u_42.2.1 247 = S.2.1 247).trans hV) (by omega) (by omega)) (c_X12_318 Cx rfl rfl (rmk_ok (by omega) (by decide))) hW (by decide) rfl rfl rfl hl.1 rfl (Nat.le_of_ble_eq_true rfl) dX12_factorRead_228 ⟨Nat.le_of_ble_eq_true rfl, Nat.le_of_ble_eq_true rfl⟩) hL (fun r_59 u_57 H locs k_58 hW hL => ?_)
                    obtain ⟨eu_57, xu_57⟩ := k_58
                    rw [eu_57] at hW
                    refine r_if_eq (tgt := 248) hx hb ⟨(by omega), (by omega)⟩ dX12_factorRead_231 (by decide) (fun c_60 => ?_) (fun c_60 => ?_)
                    · refine lv_aload_n hx hb dX12_factorRead_248 rfl (lv_at hl 0 rfl) ?_
                      refine lv_bipush (v := iv 93) hx hb dX12_factorRead_249 (by decide) ?_
                      refine sBv (sV (As := [.int (iv 93)]) (rest := []) (k := 231) Cx (s_X12_want l G u_42 (sv := 93) (K := K) (V := V) (T := T) (pz := u_42.1 231 24) iu_42 (by omega) ((funext fun j => ((fu_42 244 rfl).2.1 j).trans ((uF_a).trans (uF_a)) : u_42.2.1 244 = S.2.1 244).trans hK) ((funext fun j => ((fu_42 247 rfl).2.1 j).trans ((uF_a).trans (uF_a)) : u_42.2.1 247 = S.2.1 247).trans hV) hE (by omega) (fun h => by have e8 := (show u_42.1 231 20 = u_42.1 231 20 from rfl); have a9 := xu_42 (by have e9 := (show u_42.1 231 20 = u_42.1 231 20 from rfl); omega); omega)) (c_X12_331 Cx rfl rfl (rmk_ok (by omega) (by decide))) hW (by decide) rfl rfl rfl hl.1 rfl (Nat.le_of_ble_eq_true rfl) dX12_factorRead_251 ⟨Nat.le_of_ble_eq_true rfl, Nat.le_of_ble_eq_true rfl⟩) hL (fun u_61 H locs k_62 hW hL => ?_)
                      obtain ⟨iu_61, fu_61, gu_61, xu_61⟩ := k_62
                      have F_63 := F_44.trans fu_61
                      have g_64 : FF S u_61 (fl [20, 21, 24]) := FF.trans g_45 (FF.to gu_61 (fl_sub (by decide)))
                      refine lv_goto (tgt := 266) hx hb dX12_factorRead_254 (by decide) ?_
                      have q_65 : (-2147483648) ≤ u_61.1 231 20 ∧ u_61.1 231 20 ≤ 2147483647 := iu_61.fi 20
                      have q_66 : (-2147483648) ≤ u_61.1 231 24 ∧ u_61.1 231 24 ≤ 2147483647 := iu_61.fi 24
                      exact sVret Cx hr hlk hW hL ⟨iu_61, F_63, g_64, (fun h => by have e8 := (show u_61.1 231 20 = u_61.1 231 20 from rfl); have e7 := (show u_61.1 231 24 = u_61.1 231 24 from rfl); have au_61 := xu_61 (by have e9 := (show u_61.1 231 20 = u_61.1 231 20 from rfl); omega); have au_42 := xu_42 au_61.1; exact ⟨au_42.1, gF_s.mpr (.inr ⟨(xu_6.2.2 (by omega)), .inr ⟨by omega, .inr ⟨(xu_12.2.2 (by omega)), .inr ⟨(xu_16.2.2 (by omega)), by omega, .inr ⟨(xu_32.2.1 (by omega)), _, au_42.2.1, .inl ⟨(xu_57.2.2 (by omega)), au_61.2.1⟩⟩⟩⟩⟩⟩), by omega, by omega, by omega⟩)⟩ dX12_factorRead_266
                    · refine lv_aload_n hx hb dX12_factorRead_234 rfl (lv_at hl 0 rfl) ?_
                      refine lv_dup hx hb dX12_factorRead_235 rfl ?_
                      refine g_X12_315 Cx hW (k := 231) (by decide) rfl (v := u_42.1 231 24) rfl dX12_factorRead_236 ?_
                      have n_67 := hE.nx (pz := u_42.1 231 24) (by omega) (by have z := (xu_57.2.1 (by omega)); unfold gS at z; omega)
                      refine lv_iconst (v := iv 1) hx hb dX12_factorRead_239 (by decide) ?_
                      refine r_iadd hx hb dX12_factorRead_240 ?_
                      refine p_X12_315 Cx hW hL (k := 231) (by decide) rfl dX12_factorRead_241 (fun H locs hW hL => ?_)
                      have F_68 : Fr S (uF u_42 231 24 ((u_42.1 231 24) + 1)) (pl [231]) := F_44.F rfl
                      have g_69 : FF S (uF u_42 231 24 ((u_42.1 231 24) + 1)) (fl [20, 21, 24]) := FF.F g_45 rfl
                      have i_70 : dX G (uF u_42 231 24 ((u_42.1 231 24) + 1)) := iu_42.F (i := 24) (show (-2147483648) ≤ (u_42.1 231 24) + 1 ∧ (u_42.1 231 24) + 1 ≤ 2147483647 from ⟨by omega, by omega⟩)
                      refine lv_aload_n hx hb dX12_factorRead_244 rfl (lv_at hl 0 rfl) ?_
                      have lk_71 : (uF u_42 231 24 ((u_42.1 231 24) + 1)).1 231 24 = (u_42.1 231 24) + 1 := uF_on
                      have lk_72 : (uF u_42 231 24 ((u_42.1 231 24) + 1)).1 231 20 = u_42.1 231 20 := uF_ne (fun h => absurd h.2 (by decide))
                      refine sBv (sV (As := []) (rest := []) (k := 231) Cx (s_X12_indexRead l G (uF u_42 231 24 ((u_42.1 231 24) + 1)) (K := K) (V := V) (T := T) (pz := (u_42.1 231 24) + 1) i_70 ((funext fun j => (uF_a).trans (((fu_42 244 rfl).2.1 j).trans ((uF_a).trans (uF_a))) : (uF u_42 231 24 ((u_42.1 231 24) + 1)).2.1 244 = S.2.1 244).trans hK) ((funext fun j => (uF_a).trans (((fu_42 247 rfl).2.1 j).trans ((uF_a).trans (uF_a))) : (uF u_42 231 24 ((u_42.1 231 24) + 1)).2.1 247 = S.2.1 247).trans hV) hE (by omega) (fun h => by have e8 := (show (uF u_42 231 24 ((u_42.1 231 24) + 1)).1 231 20 = u_42.1 231 20 from uF_ne (fun h => absurd h.2 (by decide))); have a9 := xu_42 (by have e9 := (show (uF u_42 231 24 ((u_42.1 231 24) + 1)).1 231 20 = u_42.1 231 20 from uF_ne (fun h => absurd h.2 (by decide))); omega); omega)) (c_X12_355 Cx rfl rfl (rmk_ok (by omega) (by decide))) hW (by decide) rfl rfl rfl hl.1 rfl (Nat.le_of_ble_eq_true rfl) dX12_factorRead_245 ⟨Nat.le_of_ble_eq_true rfl, Nat.le_of_ble_eq_true rfl⟩) hL (fun u_73 H locs k_74 hW hL => ?_)
                      obtain ⟨iu_73, fu_73, gu_73, xu_73⟩ := k_74
                      have F_75 := F_68.trans fu_73
                      have g_76 : FF S u_73 (fl [20, 21, 24]) := FF.trans g_69 (FF.to gu_73 (fl_sub (by decide)))
                      refine lv_aload_n hx hb dX12_factorRead_248 rfl (lv_at hl 0 rfl) ?_
                      refine lv_bipush (v := iv 93) hx hb dX12_factorRead_249 (by decide) ?_
                      have q_77 : (-2147483648) ≤ u_73.1 231 24 ∧ u_73.1 231 24 ≤ 2147483647 := iu_73.fi 24
                      have q_78 : (-2147483648) ≤ u_73.1 231 20 ∧ u_73.1 231 20 ≤ 2147483647 := iu_73.fi 20
                      refine sBv (sV (As := [.int (iv 93)]) (rest := []) (k := 231) Cx (s_X12_want l G u_73 (sv := 93) (K := K) (V := V) (T := T) (pz := u_73.1 231 24) iu_73 (by omega) ((funext fun j => ((fu_73 244 rfl).2.1 j).trans ((uF_a).trans (((fu_42 244 rfl).2.1 j).trans ((uF_a).trans (uF_a)))) : u_73.2.1 244 = S.2.1 244).trans hK) ((funext fun j => ((fu_73 247 rfl).2.1 j).trans ((uF_a).trans (((fu_42 247 rfl).2.1 j).trans ((uF_a).trans (uF_a)))) : u_73.2.1 247 = S.2.1 247).trans hV) hE (by omega) (fun h => by have e8 := (show u_73.1 231 20 = u_73.1 231 20 from rfl); have a9 := xu_73 (by have e9 := (show u_73.1 231 20 = u_73.1 231 20 from rfl); omega); omega)) (c_X12_331 Cx rfl rfl (rmk_ok (by omega) (by decide))) hW (by decide) rfl rfl rfl hl.1 rfl (Nat.le_of_ble_eq_true rfl) dX12_factorRead_251 ⟨Nat.le_of_ble_eq_true rfl, Nat.le_of_ble_eq_true rfl⟩) hL (fun u_79 H locs k_80 hW hL => ?_)
                      obtain ⟨iu_79, fu_79, gu_79, xu_79⟩ := k_80
                      have F_81 := F_75.trans fu_79
                      have g_82 : FF S u_79 (fl [20, 21, 24]) := FF.trans g_76 (FF.to gu_79 (fl_sub (by decide)))
                      refine lv_goto (tgt := 266) hx hb dX12_factorRead_254 (by decide) ?_
                      have q_83 : (-2147483648) ≤ u_79.1 231 20 ∧ u_79.1 231 20 ≤ 2147483647 := iu_79.fi 20
                      have q_84 : (-2147483648) ≤ u_79.1 231 24 ∧ u_79.1 231 24 ≤ 2147483647 := iu_79.fi 24
                      exact sVret Cx hr hlk hW hL ⟨iu_79, F_81, g_82, (fun h => by have e8 := (show u_79.1 231 20 = u_79.1 231 20 from rfl); have e7 := (show u_79.1 231 24 = u_79.1 231 24 from rfl); have au_79 := xu_79 (by have e9 := (show u_79.1 231 20 = u_79.1 231 20 from rfl); omega); have au_73 := xu_73 au_79.1; have au_42 := xu_42 au_73.1; exact ⟨au_42.1, gF_s.mpr (.inr ⟨(xu_6.2.2 (by omega)), .inr ⟨by omega, .inr ⟨(xu_12.2.2 (by omega)), .inr ⟨(xu_16.2.2 (by omega)), by omega, .inr ⟨(xu_32.2.1 (by omega)), _, au_42.2.1, .inr ⟨(xu_57.2.1 (by omega)), _, au_73.2.1, au_79.2.1⟩⟩⟩⟩⟩⟩), by omega, by omega, by omega⟩)⟩ dX12_factorRead_266
                · have lk_85 : (uF S 231 24 ((S.1 231 24) + 1)).1 231 20 = S.1 231 20 := uF_ne (fun h => absurd h.2 (by decide))
                  exact sVret Cx hr hlk hW hL ⟨i_30, F_28, g_29, (fun h => by have e8 := (show (uF S 231 24 ((S.1 231 24) + 1)).1 231 20 = S.1 231 20 from uF_ne (fun h => absurd h.2 (by decide))); have e7 := (show (uF S 231 24 ((S.1 231 24) + 1)).1 231 24 = (S.1 231 24) + 1 from uF_on); exact ⟨(show S.1 231 20 = 0 by have e9 := (show (uF S 231 24 ((S.1 231 24) + 1)).1 231 20 = S.1 231 20 from uF_ne (fun h => absurd h.2 (by decide))); omega), gF_s.mpr (.inr ⟨(xu_6.2.2 (by omega)), .inr ⟨by omega, .inr ⟨(xu_12.2.2 (by omega)), .inr ⟨(xu_16.2.2 (by omega)), by omega, .inl ⟨(xu_32.2.2 (by omega)), by omega⟩⟩⟩⟩⟩), by omega, by omega, by omega⟩)⟩ dX12_factorRead_203
            · refine lv_aload_n hx hb dX12_factorRead_123 rfl (lv_at hl 0 rfl) ?_
              refine lv_dup hx hb dX12_factorRead_124 rfl ?_
              refine g_X12_315 Cx hW (k := 231) (by decide) rfl (v := S.1 231 24) rfl dX12_factorRead_125 ?_
              have n_86 := hE.nx (pz := pz) (by omega) (by have z := (xu_16.2.1 (by omega)); unfold gW at z; omega)
              refine lv_iconst (v := iv 1) hx hb dX12_factorRead_128 (by decide) ?_
              refine r_iadd hx hb dX12_factorRead_129 ?_
              refine p_X12_315 Cx hW hL (k := 231) (by decide) rfl dX12_factorRead_130 (fun H locs hW hL => ?_)
              have F_87 : Fr S (uF S 231 24 ((S.1 231 24) + 1)) (pl [231]) := (Fr.rf : Fr S S (pl [231])).F rfl
              have g_88 : FF S (uF S 231 24 ((S.1 231 24) + 1)) (fl [20, 21, 24]) := FF.F FF.rf rfl
              have i_89 : dX G (uF S 231 24 ((S.1 231 24) + 1)) := hI.F (i := 24) (show (-2147483648) ≤ (S.1 231 24) + 1 ∧ (S.1 231 24) + 1 ≤ 2147483647 from ⟨by omega, by omega⟩)
              refine lv_aload_n hx hb dX12_factorRead_133 rfl (lv_at hl 0 rfl) ?_
              refine lv_iconst (v := iv 1) hx hb dX12_factorRead_134 (by decide) ?_
              have lk_90 : (uF S 231 24 ((S.1 231 24) + 1)).1 231 24 = (S.1 231 24) + 1 := uF_on
              have lk_91 : (uF S 231 24 ((S.1 231 24) + 1)).1 231 20 = S.1 231 20 := uF_ne (fun h => absurd h.2 (by decide))
              refine sBv (sV (As := [.int (iv 1)]) (rest := []) (k := 231) Cx (s_X12_wantKind l G (uF S 231 24 ((S.1 231 24) + 1)) (k := 1) (K := K) (V := V) (T := T) (pz := (pz) + 1) i_89 (by omega) ((funext fun j => uF_a : (uF S 231 24 ((S.1 231 24) + 1)).2.1 244 = S.2.1 244).trans hK) ((funext fun j => uF_a : (uF S 231 24 ((S.1 231 24) + 1)).2.1 247 = S.2.1 247).trans hV) hE (by omega) (fun h => by have e8 := (show (uF S 231 24 ((S.1 231 24) + 1)).1 231 20 = S.1 231 20 from uF_ne (fun h => absurd h.2 (by decide))); have a9 := hcu (by have e9 := (show (uF S 231 24 ((S.1 231 24) + 1)).1 231 20 = S.1 231 20 from uF_ne (fun h => absurd h.2 (by decide))); omega); omega)) (c_X12_328 Cx rfl rfl (rmk_ok (by omega) (by decide))) hW (by decide) rfl rfl rfl hl.1 rfl (Nat.le_of_ble_eq_true rfl) dX12_factorRead_135 ⟨Nat.le_of_ble_eq_true rfl, Nat.le_of_ble_eq_true rfl⟩) hL (fun u_92 H locs k_93 hW hL => ?_)
              obtain ⟨iu_92, fu_92, gu_92, xu_92⟩ := k_93
              have F_94 := F_87.trans fu_92
              have g_95 : FF S u_92 (fl [20, 21, 24]) := FF.trans g_88 (FF.to gu_92 (fl_sub (by decide)))
              refine lv_aload_n hx hb dX12_factorRead_138 rfl (lv_at hl 0 rfl) ?_
              refine lv_bipush (v := iv 8) hx hb dX12_factorRead_139 (by decide) ?_
              have q_96 : (-2147483648) ≤ u_92.1 231 24 ∧ u_92.1 231 24 ≤ 2147483647 := iu_92.fi 24
              have q_97 : (-2147483648) ≤ u_92.1 231 20 ∧ u_92.1 231 20 ≤ 2147483647 := iu_92.fi 20
              refine sBv (sV (As := [.int (iv 8)]) (rest := []) (k := 231) Cx (s_X12_wantWord l G u_92 (sv := 8) (K := K) (V := V) (T := T) (pz := u_92.1 231 24) iu_92 (by omega) ((funext fun j => ((fu_92 244 rfl).2.1 j).trans (uF_a) : u_92.2.1 244 = S.2.1 244).trans hK) ((funext fun j => ((fu_92 247 rfl).2.1 j).trans (uF_a) : u_92.2.1 247 = S.2.1 247).trans hV) hE (by omega) (fun h => by have e8 := (show u_92.1 231 20 = u_92.1 231 20 from rfl); have a9 := xu_92 (by have e9 := (show u_92.1 231 20 = u_92.1 231 20 from rfl); omega); omega)) (c_X12_340 Cx rfl rfl (rmk_ok (by omega) (by decide))) hW (by decide) rfl rfl rfl hl.1 rfl (Nat.le_of_ble_eq_true rfl) dX12_factorRead_141 ⟨Nat.le_of_ble_eq_true rfl, Nat.le_of_ble_eq_true rfl⟩) hL (fun u_98 H locs k_99 hW hL => ?_)
              obtain ⟨iu_98, fu_98, gu_98, xu_98⟩ := k_99
              have F_100 := F_94.trans fu_98
              have g_101 : FF S u_98 (fl [20, 21, 24]) := FF.trans g_95 (FF.to gu_98 (fl_sub (by decide)))
              refine lv_aload_n hx hb dX12_factorRead_144 rfl (lv_at hl 0 rfl) ?_
              refine lv_iconst (v := iv 1) hx hb dX12_factorRead_145 (by decide) ?_
              have q_102 : (-2147483648) ≤ u_98.1 231 24 ∧ u_98.1 231 24 ≤ 2147483647 := iu_98.fi 24
              have q_103 : (-2147483648) ≤ u_98.1 231 20 ∧ u_98.1 231 20 ≤ 2147483647 := iu_98.fi 20
              refine sBv (sV (As := [.int (iv 1)]) (rest := []) (k := 231) Cx (s_X12_wantKind l G u_98 (k := 1) (K := K) (V := V) (T := T) (pz := u_98.1 231 24) iu_98 (by omega) ((funext fun j => ((fu_98 244 rfl).2.1 j).trans (((fu_92 244 rfl).2.1 j).trans (uF_a)) : u_98.2.1 244 = S.2.1 244).trans hK) ((funext fun j => ((fu_98 247 rfl).2.1 j).trans (((fu_92 247 rfl).2.1 j).trans (uF_a)) : u_98.2.1 247 = S.2.1 247).trans hV) hE (by omega) (fun h => by have e8 := (show u_98.1 231 20 = u_98.1 231 20 from rfl); have a9 := xu_98 (by have e9 := (show u_98.1 231 20 = u_98.1 231 20 from rfl); omega); omega)) (c_X12_328 Cx rfl rfl (rmk_ok (by omega) (by decide))) hW (by decide) rfl rfl rfl hl.1 rfl (Nat.le_of_ble_eq_true rfl) dX12_factorRead_146 ⟨Nat.le_of_ble_eq_true rfl, Nat.le_of_ble_eq_true rfl⟩) hL (fun u_104 H locs k_105 hW hL => ?_)
              obtain ⟨iu_104, fu_104, gu_104, xu_104⟩ := k_105
              have F_106 := F_100.trans fu_104
              have g_107 : FF S u_104 (fl [20, 21, 24]) := FF.trans g_101 (FF.to gu_104 (fl_sub (by decide)))
              refine lv_aload_n hx hb dX12_factorRead_149 rfl (lv_at hl 0 rfl) ?_
              refine lv_bipush (v := iv 40) hx hb dX12_factorRead_150 (by decide) ?_
              have q_108 : (-2147483648) ≤ u_104.1 231 24 ∧ u_104.1 231 24 ≤ 2147483647 := iu_104.fi 24
              have q_109 : (-2147483648) ≤ u_104.1 231 20 ∧ u_104.1 231 20 ≤ 2147483647 := iu_104.fi 20
              refine sBv (sV (As := [.int (iv 40)]) (rest := []) (k := 231) Cx (s_X12_want l G u_104 (sv := 40) (K := K) (V := V) (T := T) (pz := u_104.1 231 24) iu_104 (by omega) ((funext fun j => ((fu_104 244 rfl).2.1 j).trans (((fu_98 244 rfl).2.1 j).trans (((fu_92 244 rfl).2.1 j).trans (uF_a))) : u_104.2.1 244 = S.2.1 244).trans hK) ((funext fun j => ((fu_104 247 rfl).2.1 j).trans (((fu_98 247 rfl).2.1 j).trans (((fu_92 247 rfl).2.1 j).trans (uF_a))) : u_104.2.1 247 = S.2.1 247).trans hV) hE (by omega) (fun h => by have e8 := (show u_104.1 231 20 = u_104.1 231 20 from rfl); have a9 := xu_104 (by have e9 := (show u_104.1 231 20 = u_104.1 231 20 from rfl); omega); omega)) (c_X12_331 Cx rfl rfl (rmk_ok (by omega) (by decide))) hW (by decide) rfl rfl rfl hl.1 rfl (Nat.le_of_ble_eq_true rfl) dX12_factorRead_152 ⟨Nat.le_of_ble_eq_true rfl, Nat.le_of_ble_eq_true rfl⟩) hL (fun u_110 H locs k_111 hW hL => ?_)
              obtain ⟨iu_110, fu_110, gu_110, xu_110⟩ := k_111
              have F_112 := F_106.trans fu_110
              have g_113 : FF S u_110 (fl [20, 21, 24]) := FF.trans g_107 (FF.to gu_110 (fl_sub (by decide)))
              refine lv_aload_n hx hb dX12_factorRead_155 rfl (lv_at hl 0 rfl) ?_
              refine lv_iload_n hx hb dX12_factorRead_156 rfl (lv_at hl 1 rfl) ?_
              refine lv_iconst (v := iv 1) hx hb dX12_factorRead_157 (by decide) ?_
              refine r_iadd hx hb dX12_factorRead_158 ?_
              have q_114 : (-2147483648) ≤ u_110.1 231 24 ∧ u_110.1 231 24 ≤ 2147483647 := iu_110.fi 24
              have q_115 : (-2147483648) ≤ u_110.1 231 20 ∧ u_110.1 231 20 ≤ 2147483647 := iu_110.fi 20
              refine sBv (sV (As := [.int (iv (dp + 1))]) (rest := []) (k := 231) Cx (hU n rfl u_110 (u_110.1 231 24) (dp + 1) iu_110 ((funext fun j => ((fu_110 244 rfl).2.1 j).trans (((fu_104 244 rfl).2.1 j).trans (((fu_98 244 rfl).2.1 j).trans (((fu_92 244 rfl).2.1 j).trans (uF_a)))) : u_110.2.1 244 = S.2.1 244).trans hK) ((funext fun j => ((fu_110 247 rfl).2.1 j).trans (((fu_104 247 rfl).2.1 j).trans (((fu_98 247 rfl).2.1 j).trans (((fu_92 247 rfl).2.1 j).trans (uF_a)))) : u_110.2.1 247 = S.2.1 247).trans hV) (by omega) (fun h => by have e8 := (show u_110.1 231 20 = u_110.1 231 20 from rfl); have a9 := xu_110 (by have e9 := (show u_110.1 231 20 = u_110.1 231 20 from rfl); omega); omega) (by omega)) (c_X12_337 Cx rfl rfl (rmk_ok (by omega) (by decide))) hW (by decide) rfl rfl rfl hl.1 rfl (Nat.le_of_ble_eq_true rfl) dX12_factorRead_159 ⟨Nat.le_of_ble_eq_true rfl, Nat.le_of_ble_eq_true rfl⟩) hL (fun u_116 H locs k_117 hW hL => ?_)
              obtain ⟨iu_116, fu_116, gu_116, xu_116⟩ := k_117
              have F_118 := F_112.trans fu_116
              have g_119 : FF S u_116 (fl [20, 21, 24]) := FF.trans g_113 (FF.to gu_116 (fl_sub (by decide)))
              refine lv_aload_n hx hb dX12_factorRead_162 rfl (lv_at hl 0 rfl) ?_
              refine lv_bipush (v := iv 41) hx hb dX12_factorRead_163 (by decide) ?_
              have q_120 : (-2147483648) ≤ u_116.1 231 24 ∧ u_116.1 231 24 ≤ 2147483647 := iu_116.fi 24
              have q_121 : (-2147483648) ≤ u_116.1 231 20 ∧ u_116.1 231 20 ≤ 2147483647 := iu_116.fi 20
              refine sBv (sV (As := [.int (iv 41)]) (rest := []) (k := 231) Cx (s_X12_want l G u_116 (sv := 41) (K := K) (V := V) (T := T) (pz := u_116.1 231 24) iu_116 (by omega) ((funext fun j => ((fu_116 244 rfl).2.1 j).trans (((fu_110 244 rfl).2.1 j).trans (((fu_104 244 rfl).2.1 j).trans (((fu_98 244 rfl).2.1 j).trans (((fu_92 244 rfl).2.1 j).trans (uF_a))))) : u_116.2.1 244 = S.2.1 244).trans hK) ((funext fun j => ((fu_116 247 rfl).2.1 j).trans (((fu_110 247 rfl).2.1 j).trans (((fu_104 247 rfl).2.1 j).trans (((fu_98 247 rfl).2.1 j).trans (((fu_92 247 rfl).2.1 j).trans (uF_a))))) : u_116.2.1 247 = S.2.1 247).trans hV) hE (by omega) (fun h => by have e8 := (show u_116.1 231 20 = u_116.1 231 20 from rfl); have a9 := xu_116 (by have e9 := (show u_116.1 231 20 = u_116.1 231 20 from rfl); omega); omega)) (c_X12_331 Cx rfl rfl (rmk_ok (by omega) (by decide))) hW (by decide) rfl rfl rfl hl.1 rfl (Nat.le_of_ble_eq_true rfl) dX12_factorRead_165 ⟨Nat.le_of_ble_eq_true rfl, Nat.le_of_ble_eq_true rfl⟩) hL (fun u_122 H locs k_123 hW hL => ?_)
              obtain ⟨iu_122, fu_122, gu_122, xu_122⟩ := k_123
              have F_124 := F_118.trans fu_122
              have g_125 : FF S u_122 (fl [20, 21, 24]) := FF.trans g_119 (FF.to gu_122 (fl_sub (by decide)))
              refine lv_goto (tgt := 266) hx hb dX12_factorRead_168 (by decide) ?_
              have q_126 : (-2147483648) ≤ u_122.1 231 20 ∧ u_122.1 231 20 ≤ 2147483647 := iu_122.fi 20
              have q_127 : (-2147483648) ≤ u_122.1 231 24 ∧ u_122.1 231 24 ≤ 2147483647 := iu_122.fi 24
              exact sVret Cx hr hlk hW hL ⟨iu_122, F_124, g_125, (fun h => by have e8 := (show u_122.1 231 20 = u_122.1 231 20 from rfl); have e7 := (show u_122.1 231 24 = u_122.1 231 24 from rfl); have au_122 := xu_122 (by have e9 := (show u_122.1 231 20 = u_122.1 231 20 from rfl); omega); have au_116 := xu_116 au_122.1; have au_110 := xu_110 au_116.1; have au_104 := xu_104 au_110.1; have au_98 := xu_98 au_104.1; have au_92 := xu_92 au_98.1; exact ⟨au_92.1, gF_s.mpr (.inr ⟨(xu_6.2.2 (by omega)), .inr ⟨by omega, .inr ⟨(xu_12.2.2 (by omega)), .inl ⟨(xu_16.2.1 (by omega)), _, au_92.2.1, _, au_98.2.1, _, au_104.2.1, _, au_110.2.1, _, au_116.2.1, au_122.2.1⟩⟩⟩⟩), by omega, by omega, by omega⟩)⟩ dX12_factorRead_266
          · refine lv_aload_n hx hb dX12_factorRead_88 rfl (lv_at hl 0 rfl) ?_
            refine lv_dup hx hb dX12_factorRead_89 rfl ?_
            refine g_X12_315 Cx hW (k := 231) (by decide) rfl (v := S.1 231 24) rfl dX12_factorRead_90 ?_
            have n_128 := hE.nx (pz := pz) (by omega) (by have z := (xu_12.2.1 (by omega)); unfold gS at z; omega)
            refine lv_iconst (v := iv 1) hx hb dX12_factorRead_93 (by decide) ?_
            refine r_iadd hx hb dX12_factorRead_94 ?_
            refine p_X12_315 Cx hW hL (k := 231) (by decide) rfl dX12_factorRead_95 (fun H locs hW hL => ?_)
            have F_129 : Fr S (uF S 231 24 ((S.1 231 24) + 1)) (pl [231]) := (Fr.rf : Fr S S (pl [231])).F rfl
            have g_130 : FF S (uF S 231 24 ((S.1 231 24) + 1)) (fl [20, 21, 24]) := FF.F FF.rf rfl
            have i_131 : dX G (uF S 231 24 ((S.1 231 24) + 1)) := hI.F (i := 24) (show (-2147483648) ≤ (S.1 231 24) + 1 ∧ (S.1 231 24) + 1 ≤ 2147483647 from ⟨by omega, by omega⟩)
            refine lv_aload_n hx hb dX12_factorRead_98 rfl (lv_at hl 0 rfl) ?_
            refine lv_iload_n hx hb dX12_factorRead_99 rfl (lv_at hl 1 rfl) ?_
            refine lv_iconst (v := iv 1) hx hb dX12_factorRead_100 (by decide) ?_
            refine r_iadd hx hb dX12_factorRead_101 ?_
            have lk_132 : (uF S 231 24 ((S.1 231 24) + 1)).1 231 24 = (S.1 231 24) + 1 := uF_on
            have lk_133 : (uF S 231 24 ((S.1 231 24) + 1)).1 231 20 = S.1 231 20 := uF_ne (fun h => absurd h.2 (by decide))
            refine sBv (sV (As := [.int (iv (dp + 1))]) (rest := []) (k := 231) Cx (hU n rfl (uF S 231 24 ((S.1 231 24) + 1)) ((pz) + 1) (dp + 1) i_131 ((funext fun j => uF_a : (uF S 231 24 ((S.1 231 24) + 1)).2.1 244 = S.2.1 244).trans hK) ((funext fun j => uF_a : (uF S 231 24 ((S.1 231 24) + 1)).2.1 247 = S.2.1 247).trans hV) (by omega) (fun h => by have e8 := (show (uF S 231 24 ((S.1 231 24) + 1)).1 231 20 = S.1 231 20 from uF_ne (fun h => absurd h.2 (by decide))); have a9 := hcu (by have e9 := (show (uF S 231 24 ((S.1 231 24) + 1)).1 231 20 = S.1 231 20 from uF_ne (fun h => absurd h.2 (by decide))); omega); omega) (by omega)) (c_X12_337 Cx rfl rfl (rmk_ok (by omega) (by decide))) hW (by decide) rfl rfl rfl hl.1 rfl (Nat.le_of_ble_eq_true rfl) dX12_factorRead_102 ⟨Nat.le_of_ble_eq_true rfl, Nat.le_of_ble_eq_true rfl⟩) hL (fun u_134 H locs k_135 hW hL => ?_)
            obtain ⟨iu_134, fu_134, gu_134, xu_134⟩ := k_135
            have F_136 := F_129.trans fu_134
            have g_137 : FF S u_134 (fl [20, 21, 24]) := FF.trans g_130 (FF.to gu_134 (fl_sub (by decide)))
            refine lv_aload_n hx hb dX12_factorRead_105 rfl (lv_at hl 0 rfl) ?_
            refine lv_bipush (v := iv 41) hx hb dX12_factorRead_106 (by decide) ?_
            have q_138 : (-2147483648) ≤ u_134.1 231 24 ∧ u_134.1 231 24 ≤ 2147483647 := iu_134.fi 24
            have q_139 : (-2147483648) ≤ u_134.1 231 20 ∧ u_134.1 231 20 ≤ 2147483647 := iu_134.fi 20
            refine sBv (sV (As := [.int (iv 41)]) (rest := []) (k := 231) Cx (s_X12_want l G u_134 (sv := 41) (K := K) (V := V) (T := T) (pz := u_134.1 231 24) iu_134 (by omega) ((funext fun j => ((fu_134 244 rfl).2.1 j).trans (uF_a) : u_134.2.1 244 = S.2.1 244).trans hK) ((funext fun j => ((fu_134 247 rfl).2.1 j).trans (uF_a) : u_134.2.1 247 = S.2.1 247).trans hV) hE (by omega) (fun h => by have e8 := (show u_134.1 231 20 = u_134.1 231 20 from rfl); have a9 := xu_134 (by have e9 := (show u_134.1 231 20 = u_134.1 231 20 from rfl); omega); omega)) (c_X12_331 Cx rfl rfl (rmk_ok (by omega) (by decide))) hW (by decide) rfl rfl rfl hl.1 rfl (Nat.le_of_ble_eq_true rfl) dX12_factorRead_108 ⟨Nat.le_of_ble_eq_true rfl, Nat.le_of_ble_eq_true rfl⟩) hL (fun u_140 H locs k_141 hW hL => ?_)
            obtain ⟨iu_140, fu_140, gu_140, xu_140⟩ := k_141
            have F_142 := F_136.trans fu_140
            have g_143 : FF S u_140 (fl [20, 21, 24]) := FF.trans g_137 (FF.to gu_140 (fl_sub (by decide)))
            refine lv_goto (tgt := 266) hx hb dX12_factorRead_111 (by decide) ?_
            have q_144 : (-2147483648) ≤ u_140.1 231 20 ∧ u_140.1 231 20 ≤ 2147483647 := iu_140.fi 20
            have q_145 : (-2147483648) ≤ u_140.1 231 24 ∧ u_140.1 231 24 ≤ 2147483647 := iu_140.fi 24
            exact sVret Cx hr hlk hW hL ⟨iu_140, F_142, g_143, (fun h => by have e8 := (show u_140.1 231 20 = u_140.1 231 20 from rfl); have e7 := (show u_140.1 231 24 = u_140.1 231 24 from rfl); have au_140 := xu_140 (by have e9 := (show u_140.1 231 20 = u_140.1 231 20 from rfl); omega); have au_134 := xu_134 au_140.1; exact ⟨au_134.1, gF_s.mpr (.inr ⟨(xu_6.2.2 (by omega)), .inr ⟨by omega, .inl ⟨(xu_12.2.1 (by omega)), _, au_134.2.1, au_140.2.1⟩⟩⟩), by omega, by omega, by omega⟩)⟩ dX12_factorRead_266
        · refine lv_aload_n hx hb dX12_factorRead_66 rfl (lv_at hl 0 rfl) ?_
          refine lv_dup hx hb dX12_factorRead_67 rfl ?_
          refine g_X12_315 Cx hW (k := 231) (by decide) rfl (v := S.1 231 24) rfl dX12_factorRead_68 ?_
          have n_146 := hE.nx (pz := pz) (by omega) (by omega)
          refine lv_iconst (v := iv 1) hx hb dX12_factorRead_71 (by decide) ?_
          refine r_iadd hx hb dX12_factorRead_72 ?_
          refine p_X12_315 Cx hW hL (k := 231) (by decide) rfl dX12_factorRead_73 (fun H locs hW hL => ?_)
          have F_147 : Fr S (uF S 231 24 ((S.1 231 24) + 1)) (pl [231]) := (Fr.rf : Fr S S (pl [231])).F rfl
          have g_148 : FF S (uF S 231 24 ((S.1 231 24) + 1)) (fl [20, 21, 24]) := FF.F FF.rf rfl
          have i_149 : dX G (uF S 231 24 ((S.1 231 24) + 1)) := hI.F (i := 24) (show (-2147483648) ≤ (S.1 231 24) + 1 ∧ (S.1 231 24) + 1 ≤ 2147483647 from ⟨by omega, by omega⟩)
          refine lv_goto (tgt := 266) hx hb dX12_factorRead_76 (by decide) ?_
          have lk_150 : (uF S 231 24 ((S.1 231 24) + 1)).1 231 20 = S.1 231 20 := uF_ne (fun h => absurd h.2 (by decide))
          have lk_151 : (uF S 231 24 ((S.1 231 24) + 1)).1 231 24 = (S.1 231 24) + 1 := uF_on
          exact sVret Cx hr hlk hW hL ⟨i_149, F_147, g_148, (fun h => by have e8 := (show (uF S 231 24 ((S.1 231 24) + 1)).1 231 20 = S.1 231 20 from uF_ne (fun h => absurd h.2 (by decide))); have e7 := (show (uF S 231 24 ((S.1 231 24) + 1)).1 231 24 = (S.1 231 24) + 1 from uF_on); exact ⟨(show S.1 231 20 = 0 by have e9 := (show (uF S 231 24 ((S.1 231 24) + 1)).1 231 20 = S.1 231 20 from uF_ne (fun h => absurd h.2 (by decide))); omega), gF_s.mpr (.inr ⟨(xu_6.2.2 (by omega)), .inl ⟨by omega, by omega⟩⟩), by omega, by omega, by omega⟩)⟩ dX12_factorRead_266
      · refine lv_aload_n hx hb dX12_factorRead_33 rfl (lv_at hl 0 rfl) ?_
        refine lv_dup hx hb dX12_factorRead_34 rfl ?_
        refine g_X12_315 Cx hW (k := 231) (by decide) rfl (v := S.1 231 24) rfl dX12_factorRead_35 ?_
        have n_152 := hE.nx (pz := pz) (by omega) (by have z := (xu_6.2.1 (by omega)); unfold gS at z; omega)
        refine lv_iconst (v := iv 1) hx hb dX12_factorRead_38 (by decide) ?_
        refine r_iadd hx hb dX12_factorRead_39 ?_
        refine p_X12_315 Cx hW hL (k := 231) (by decide) rfl dX12_factorRead_40 (fun H locs hW hL => ?_)
        have F_153 : Fr S (uF S 231 24 ((S.1 231 24) + 1)) (pl [231]) := (Fr.rf : Fr S S (pl [231])).F rfl
        have g_154 : FF S (uF S 231 24 ((S.1 231 24) + 1)) (fl [20, 21, 24]) := FF.F FF.rf rfl
        have i_155 : dX G (uF S 231 24 ((S.1 231 24) + 1)) := hI.F (i := 24) (show (-2147483648) ≤ (S.1 231 24) + 1 ∧ (S.1 231 24) + 1 ≤ 2147483647 from ⟨by omega, by omega⟩)
        refine lv_aload_n hx hb dX12_factorRead_43 rfl (lv_at hl 0 rfl) ?_
        refine lv_iload_n hx hb dX12_factorRead_44 rfl (lv_at hl 1 rfl) ?_
        refine lv_iconst (v := iv 1) hx hb dX12_factorRead_45 (by decide) ?_
        refine r_iadd hx hb dX12_factorRead_46 ?_
        have lk_156 : (uF S 231 24 ((S.1 231 24) + 1)).1 231 24 = (S.1 231 24) + 1 := uF_on
        have lk_157 : (uF S 231 24 ((S.1 231 24) + 1)).1 231 20 = S.1 231 20 := uF_ne (fun h => absurd h.2 (by decide))
        refine sBv (sV (As := [.int (iv (dp + 1))]) (rest := []) (k := 231) Cx (hF n rfl (uF S 231 24 ((S.1 231 24) + 1)) ((pz) + 1) (dp + 1) i_155 ((funext fun j => uF_a : (uF S 231 24 ((S.1 231 24) + 1)).2.1 244 = S.2.1 244).trans hK) ((funext fun j => uF_a : (uF S 231 24 ((S.1 231 24) + 1)).2.1 247 = S.2.1 247).trans hV) (by omega) (fun h => by have e8 := (show (uF S 231 24 ((S.1 231 24) + 1)).1 231 20 = S.1 231 20 from uF_ne (fun h => absurd h.2 (by decide))); have a9 := hcu (by have e9 := (show (uF S 231 24 ((S.1 231 24) + 1)).1 231 20 = S.1 231 20 from uF_ne (fun h => absurd h.2 (by decide))); omega); omega) (by omega)) (c_X12_352 Cx rfl rfl (rmk_ok (by omega) (by decide))) hW (by decide) rfl rfl rfl hl.1 rfl (Nat.le_of_ble_eq_true rfl) dX12_factorRead_47 ⟨Nat.le_of_ble_eq_true rfl, Nat.le_of_ble_eq_true rfl⟩) hL (fun u_158 H locs k_159 hW hL => ?_)
        obtain ⟨iu_158, fu_158, gu_158, xu_158⟩ := k_159
        have F_160 := F_153.trans fu_158
        have g_161 : FF S u_158 (fl [20, 21, 24]) := FF.trans g_154 (FF.to gu_158 (fl_sub (by decide)))
        refine lv_goto (tgt := 266) hx hb dX12_factorRead_50 (by decide) ?_
        have q_162 : (-2147483648) ≤ u_158.1 231 20 ∧ u_158.1 231 20 ≤ 2147483647 := iu_158.fi 20
        have q_163 : (-2147483648) ≤ u_158.1 231 24 ∧ u_158.1 231 24 ≤ 2147483647 := iu_158.fi 24
        exact sVret Cx hr hlk hW hL ⟨iu_158, F_160, g_161, (fun h => by have e8 := (show u_158.1 231 20 = u_158.1 231 20 from rfl); have e7 := (show u_158.1 231 24 = u_158.1 231 24 from rfl); have au_158 := xu_158 (by have e9 := (show u_158.1 231 20 = u_158.1 231 20 from rfl); omega); exact ⟨au_158.1, gF_s.mpr (.inl ⟨(xu_6.2.1 (by omega)), au_158.2.1⟩), by omega, by omega, by omega⟩)⟩ dX12_factorRead_266
    · refine lv_aload_n hx hb dX12_factorRead_14 rfl (lv_at hl 0 rfl) ?_
      refine lv_iconst (v := iv 1) hx hb dX12_factorRead_15 (by decide) ?_
      refine lv_aload_n hx hb dX12_factorRead_16 rfl (lv_at hl 0 rfl) ?_
      have q_164 : (-2147483648) ≤ S.1 231 24 ∧ S.1 231 24 ≤ 2147483647 := hI.fi 24
      refine g_X12_315 Cx hW (k := 231) (by decide) rfl (v := S.1 231 24) rfl dX12_factorRead_17 ?_
      refine sBv (sV (As := [.int (iv 1), .int (iv (S.1 231 24))]) (rest := []) (k := 231) Cx (s_X12_wrong l G S (cd := 1) (tk := S.1 231 24) hI (by omega) (by omega)) (c_X12_321 Cx rfl rfl (rmk_ok (by omega) (by decide))) hW (by decide) rfl rfl rfl hl.1 rfl (Nat.le_of_ble_eq_true rfl) dX12_factorRead_20 ⟨Nat.le_of_ble_eq_true rfl, Nat.le_of_ble_eq_true rfl⟩) hL (fun u_165 H locs k_166 hW hL => ?_)
      obtain ⟨iu_165, fu_165, gu_165, xu_165⟩ := k_166
      have F_167 := (Fr.rf : Fr S S (pl [231])).trans fu_165
      have g_168 : FF S u_165 (fl [20, 21, 24]) := FF.trans FF.rf (FF.to gu_165 (fl_sub (by decide)))
      have q_169 : (-2147483648) ≤ u_165.1 231 20 ∧ u_165.1 231 20 ≤ 2147483647 := iu_165.fi 20
      have lk_170 : u_165.1 231 24 = S.1 231 24 := gu_165 24 rfl
      exact sVret Cx hr hlk hW hL ⟨iu_165, F_167, g_168, (fun h => absurd h (by have e9 := (show u_165.1 231 20 = u_165.1 231 20 from rfl); have a9 := xu_165; omega))⟩ dX12_factorRead_23
  · have q_171 : (-2147483648) ≤ S.1 231 24 ∧ S.1 231 24 ≤ 2147483647 := hI.fi 24
    exact sVret Cx hr hlk hW hL ⟨hI, (Fr.rf : Fr S S (pl [231])), FF.rf, (fun h => by have e8 := (show S.1 231 20 = S.1 231 20 from rfl); exfalso; omega)⟩ dX12_factorRead_7

set_option maxRecDepth 100000 in
set_option maxHeartbeats 4000000 in
theorem s_X12_productRead (l : Launch) (G : sG) (S : sS) {K V : Int → Int} {T pz : Int} {D d1 N : Nat} {dp : Int} (hI : dX G S) (hN : (N : Int) = 30 - dp ∧ 0 ≤ dp) (h1 : d1 < D) (h8 : 8 ≤ D) (hF : Hd (FrC l G d1 K V T N)) (hK : S.2.1 244 = K) (hV : S.2.1 247 = V) (hE : gE K T) (hc : S.1 231 24 = pz) (hcu : Hd (S.1 231 20 = 0 → 0 ≤ pz ∧ pz ≤ T - 1)) : Met l yX12_productRead (.code yX12_productRead cX12_productRead 2 none :: tb) (rmk D 0 0) (sPc G 294 S [.ref (G.2.2.1 + 231), .int (iv dp)]) (sQv G 294 (fun u => dX G u ∧ Fr S u (pl [231]) ∧ FF S u (fl [20, 21, 24]) ∧ (Hd (u.1 231 20 = 0 → S.1 231 20 = 0 ∧ gP K V (gF K V N) pz (u.1 231 24) ∧ pz < u.1 231 24 ∧ 0 ≤ u.1 231 24 ∧ u.1 231 24 ≤ T - 1)))) 0 0 (sF G) := by
  refine sEnter (by decide) (Nat.le_of_ble_eq_true rfl) ?_
  intro p e s m args below meth c Cx hr hlk hnm hW ls hl
  have Cx : sC G p m c cX12_productRead 2 s args RX12 := Cx
  obtain ⟨hx, hb, hml, hown, hts⟩ := id Cx.1
  have hL : sL G [] := sL_nil
  have hl : lv_has ls 2 [(0, .ref (G.2.2.1 + 231)), (1, .int (iv dp))] := hl
  have hW0 := hW
  have hE1 := hE.1
  refine lv_aload_n hx hb dX12_productRead_0 rfl (lv_at hl 0 rfl) ?_
  refine lv_iload_n hx hb dX12_productRead_1 rfl (lv_at hl 1 rfl) ?_
  have q_1 : (-2147483648) ≤ S.1 231 24 ∧ S.1 231 24 ≤ 2147483647 := hI.fi 24
  have q_2 : (-2147483648) ≤ S.1 231 20 ∧ S.1 231 20 ≤ 2147483647 := hI.fi 20
  refine sBv (sV (As := [.int (iv dp)]) (rest := []) (k := 231) Cx (hF S pz dp hI hK hV (by omega) (fun h => by have e8 := (show S.1 231 20 = S.1 231 20 from rfl); have a9 := hcu (by have e9 := (show S.1 231 20 = S.1 231 20 from rfl); omega); omega) (by omega)) (c_X12_352 Cx rfl rfl (rmk_ok (by omega) (by decide))) hW (by decide) rfl rfl rfl hl.1 rfl (Nat.le_of_ble_eq_true rfl) dX12_productRead_2 ⟨Nat.le_of_ble_eq_true rfl, Nat.le_of_ble_eq_true rfl⟩) hL (fun u_3 H locs k_4 hW hL => ?_)
  obtain ⟨iu_3, fu_3, gu_3, xu_3⟩ := k_4
  have F_5 := (Fr.rf : Fr S S (pl [231])).trans fu_3
  have g_6 : FF S u_3 (fl [20, 21, 24]) := FF.trans FF.rf (FF.to gu_3 (fl_sub (by decide)))
  have loop_5 : ∀ (fuel : Nat) (S5 : sS)  (H : Heap) (locs : List Loc) (ls : Array Slot), mf S5 T < fuel → (dX G S5) → (Fr S S5 (pl [231])) → (Fr u_3 S5 (pl [231])) → (FF S S5 (fl [20, 21, 24])) → (FF u_3 S5 (fl [20, 21, 24])) → (Hd (S5.1 231 20 = 0 → 0 ≤ S5.1 231 24 ∧ S5.1 231 24 ≤ T - 1)) → (Hd (S5.1 231 20 = 0 → u_3.1 231 20 = 0 ∧ ∀ q, gTl (fun c => gS K V c 42) (fun c x => gF K V N (c + 1) x) (S5.1 231 24) q → gTl (fun c => gS K V c 42) (fun c x => gF K V N (c + 1) x) (u_3.1 231 24) q)) → (Hd (S5.1 231 20 = 0 → u_3.1 231 24 ≤ S5.1 231 24)) → sW G 294 S5 H → sL G locs → lv_has ls 2 [(0, .ref (G.2.2.1 + 231)), (1, .int (iv dp))] → W p l e (rmk D 0 0) s m args below meth c H locs 0 0 (MQ below (sQv G 294 (fun u => dX G u ∧ Fr S u (pl [231]) ∧ FF S u (fl [20, 21, 24]) ∧ (Hd (u.1 231 20 = 0 → S.1 231 20 = 0 ∧ gP K V (gF K V N) pz (u.1 231 24) ∧ pz < u.1 231 24 ∧ 0 ≤ u.1 231 24 ∧ u.1 231 24 ≤ T - 1)))) args s 0 0 (sF G)) (F0 m 5 ls []) := by
    intro fuel
    induction fuel with
    | zero => intro S5  H locs ls hmeas hI5 hFm5 hL5_ hGm5 gL5_ hcu5 hH5 hq5 hW hL hl; exact absurd hmeas (Nat.not_lt_zero _)
    | succ fuel ih_5 =>
      intro S5  H locs ls hmeas hI5 hFm5 hL5_ hGm5 gL5_ hcu5 hH5 hq5 hW hL hl
      refine lv_aload_n hx hb dX12_productRead_5 rfl (lv_at hl 0 rfl) ?_
      have q_7 : (-2147483648) ≤ S5.1 231 20 ∧ S5.1 231 20 ≤ 2147483647 := hI5.fi 20
      refine g_X12_270 Cx hW (k := 231) (by decide) rfl (v := S5.1 231 20) rfl dX12_productRead_6 ?_
      refine r_if_ne (tgt := 39) hx hb ⟨(by omega), (by omega)⟩ dX12_productRead_9 (by decide) (fun c_8 => ?_) (fun c_8 => ?_)
      · have q_9 : (-2147483648) ≤ S5.1 231 24 ∧ S5.1 231 24 ≤ 2147483647 := hI5.fi 24
        exact sVret Cx hr hlk hW hL ⟨hI5, hFm5, hGm5, (fun h => by have e8 := (show S5.1 231 20 = S5.1 231 20 from rfl); have aS5 := hH5 (by have e9 := (show S5.1 231 20 = S5.1 231 20 from rfl); omega); have au_3 := xu_3 aS5.1; exfalso; omega)⟩ dX12_productRead_39
      · have b_10 := hcu5 (by have e9 := (show S5.1 231 20 = S5.1 231 20 from rfl); omega)
        refine lv_aload_n hx hb dX12_productRead_12 rfl (lv_at hl 0 rfl) ?_
        refine lv_bipush (v := iv 42) hx hb dX12_productRead_13 (by decide) ?_
        have q_11 : (-2147483648) ≤ S5.1 231 24 ∧ S5.1 231 24 ≤ 2147483647 := hI5.fi 24
        refine sBi (sV (As := [.int (iv 42)]) (rest := []) (k := 231) Cx (s_X12_isSign l G S5 (sv := 42) (K := K) (V := V) (pz := S5.1 231 24) hI5 (by omega) ((funext fun j => ((hL5_ 244 rfl).2.1 j).trans ((fu_3 244 rfl).2.1 j) : S5.2.1 244 = S.2.1 244).trans hK) ((funext fun j => ((hL5_ 247 rfl).2.1 j).trans ((fu_3 247 rfl).2.1 j) : S5.2.1 247 = S.2.1 247).trans hV) (by omega) (by omega)) (c_X12_318 Cx rfl rfl (rmk_ok (by omega) (by decide))) hW (by decide) rfl rfl rfl hl.1 rfl (Nat.le_of_ble_eq_true rfl) dX12_productRead_15 ⟨Nat.le_of_ble_eq_true rfl, Nat.le_of_ble_eq_true rfl⟩) hL (fun r_14 u_12 H locs k_13 hW hL => ?_)
        obtain ⟨eu_12, xu_12⟩ := k_13
        rw [eu_12] at hW
        refine r_if_eq (tgt := 39) hx hb ⟨(by omega), (by omega)⟩ dX12_productRead_18 (by decide) (fun c_15 => ?_) (fun c_15 => ?_)
        · exact sVret Cx hr hlk hW hL ⟨hI5, hFm5, hGm5, (fun h => by have e8 := (show S5.1 231 20 = S5.1 231 20 from rfl); have e7 := (show S5.1 231 24 = S5.1 231 24 from rfl); have aS5 := hH5 (by have e9 := (show S5.1 231 20 = S5.1 231 20 from rfl); omega); have au_3 := xu_3 aS5.1; have a7 := hq5 (by omega); exact ⟨au_3.1, ⟨_, au_3.2.1, aS5.2 _ (gTl.nil (xu_12.2.2 (by omega)))⟩, by omega, by omega, by omega⟩)⟩ dX12_productRead_39
        · refine lv_aload_n hx hb dX12_productRead_21 rfl (lv_at hl 0 rfl) ?_
          refine lv_dup hx hb dX12_productRead_22 rfl ?_
          refine g_X12_315 Cx hW (k := 231) (by decide) rfl (v := S5.1 231 24) rfl dX12_productRead_23 ?_
          have n_16 := hE.nx (pz := S5.1 231 24) (by omega) (by have z := (xu_12.2.1 (by omega)); unfold gS at z; omega)
          refine lv_iconst (v := iv 1) hx hb dX12_productRead_26 (by decide) ?_
          refine r_iadd hx hb dX12_productRead_27 ?_
          refine p_X12_315 Cx hW hL (k := 231) (by decide) rfl dX12_productRead_28 (fun H locs hW hL => ?_)
          have F_17 : Fr S (uF S5 231 24 ((S5.1 231 24) + 1)) (pl [231]) := hFm5.F rfl
          have F_18 : Fr u_3 (uF S5 231 24 ((S5.1 231 24) + 1)) (pl [231]) := hL5_.F rfl
          have g_19 : FF S (uF S5 231 24 ((S5.1 231 24) + 1)) (fl [20, 21, 24]) := FF.F hGm5 rfl
          have g_20 : FF u_3 (uF S5 231 24 ((S5.1 231 24) + 1)) (fl [20, 21, 24]) := FF.F gL5_ rfl
          have i_21 : dX G (uF S5 231 24 ((S5.1 231 24) + 1)) := hI5.F (i := 24) (show (-2147483648) ≤ (S5.1 231 24) + 1 ∧ (S5.1 231 24) + 1 ≤ 2147483647 from ⟨by omega, by omega⟩)
          refine lv_aload_n hx hb dX12_productRead_31 rfl (lv_at hl 0 rfl) ?_
          refine lv_iload_n hx hb dX12_productRead_32 rfl (lv_at hl 1 rfl) ?_
          have lk_22 : (uF S5 231 24 ((S5.1 231 24) + 1)).1 231 24 = (S5.1 231 24) + 1 := uF_on
          have lk_23 : (uF S5 231 24 ((S5.1 231 24) + 1)).1 231 20 = S5.1 231 20 := uF_ne (fun h => absurd h.2 (by decide))
          refine sBv (sV (As := [.int (iv dp)]) (rest := []) (k := 231) Cx (hF (uF S5 231 24 ((S5.1 231 24) + 1)) ((S5.1 231 24) + 1) dp i_21 ((funext fun j => (uF_a).trans (((hL5_ 244 rfl).2.1 j).trans ((fu_3 244 rfl).2.1 j)) : (uF S5 231 24 ((S5.1 231 24) + 1)).2.1 244 = S.2.1 244).trans hK) ((funext fun j => (uF_a).trans (((hL5_ 247 rfl).2.1 j).trans ((fu_3 247 rfl).2.1 j)) : (uF S5 231 24 ((S5.1 231 24) + 1)).2.1 247 = S.2.1 247).trans hV) (by omega) (fun h => by have e8 := (show (uF S5 231 24 ((S5.1 231 24) + 1)).1 231 20 = S5.1 231 20 from uF_ne (fun h => absurd h.2 (by decide))); have a9 := hcu5 (by have e9 := (show (uF S5 231 24 ((S5.1 231 24) + 1)).1 231 20 = S5.1 231 20 from uF_ne (fun h => absurd h.2 (by decide))); omega); omega) (by omega)) (c_X12_352 Cx rfl rfl (rmk_ok (by omega) (by decide))) hW (by decide) rfl rfl rfl hl.1 rfl (Nat.le_of_ble_eq_true rfl) dX12_productRead_33 ⟨Nat.le_of_ble_eq_true rfl, Nat.le_of_ble_eq_true rfl⟩) hL (fun u_24 H locs k_25 hW hL => ?_)
          obtain ⟨iu_24, fu_24, gu_24, xu_24⟩ := k_25
          have F_26 := F_17.trans fu_24
          have F_27 := F_18.trans fu_24
          have g_28 : FF S u_24 (fl [20, 21, 24]) := FF.trans g_19 (FF.to gu_24 (fl_sub (by decide)))
          have g_29 : FF u_3 u_24 (fl [20, 21, 24]) := FF.trans g_20 (FF.to gu_24 (fl_sub (by decide)))
          refine lv_goto (tgt := 5) hx hb dX12_productRead_36 (by decide) ?_
          have q_30 : (-2147483648) ≤ u_24.1 231 20 ∧ u_24.1 231 20 ≤ 2147483647 := iu_24.fi 20
          have q_31 : (-2147483648) ≤ u_24.1 231 24 ∧ u_24.1 231 24 ≤ 2147483647 := iu_24.fi 24
          exact ih_5 u_24  _ _ _ (Nat.lt_of_lt_of_le (mf_lt (S := S5) (by omega) (by omega) (fun h => by have a9 := xu_24 h; omega)) (Nat.le_of_lt_succ hmeas)) iu_24 F_26 F_27 g_28 g_29 (fun h => by have a9 := xu_24 h; omega) (fun h => ⟨(hH5 (by omega)).1, fun q t => (hH5 (by omega)).2 q (gTl.cons (xu_12.2.1 (by omega)) (xu_24 h).2.1 t)⟩) (fun h => by have a9 := xu_24 h; have a8 := hq5 (by omega); omega) hW hL (lv_sub hl [0, 1] rfl)
  have q_32 : (-2147483648) ≤ u_3.1 231 20 ∧ u_3.1 231 20 ≤ 2147483647 := iu_3.fi 20
  have q_33 : (-2147483648) ≤ u_3.1 231 24 ∧ u_3.1 231 24 ≤ 2147483647 := iu_3.fi 24
  exact loop_5 (_ + 1) u_3  _ _ _ (Nat.lt_succ_self _) iu_3 F_5 Fr.rf g_6 FF.rf (fun h => by have a9 := xu_3 h; omega) (fun h => ⟨h, fun _ t => t⟩) (fun _ => Int.le_refl _) hW hL (lv_sub hl [0, 1] rfl)

set_option maxRecDepth 100000 in
set_option maxHeartbeats 4000000 in
theorem s_X12_sumRead (l : Launch) (G : sG) (S : sS) {K V : Int → Int} {T pz : Int} {D d1 N : Nat} {dp : Int} (hI : dX G S) (hN : (N : Int) = 30 - dp ∧ 0 ≤ dp) (h1 : d1 < D) (h8 : 8 ≤ D) (hF : Hd (PrC l G d1 K V T N)) (hK : S.2.1 244 = K) (hV : S.2.1 247 = V) (hE : gE K T) (hc : S.1 231 24 = pz) (hcu : Hd (S.1 231 20 = 0 → 0 ≤ pz ∧ pz ≤ T - 1)) : Met l yX12_sumRead (.code yX12_sumRead cX12_sumRead 2 none :: tb) (rmk D 0 0) (sPc G 294 S [.ref (G.2.2.1 + 231), .int (iv dp)]) (sQv G 294 (fun u => dX G u ∧ Fr S u (pl [231]) ∧ FF S u (fl [20, 21, 24]) ∧ (Hd (u.1 231 20 = 0 → S.1 231 20 = 0 ∧ gU K V (gF K V N) pz (u.1 231 24) ∧ pz < u.1 231 24 ∧ 0 ≤ u.1 231 24 ∧ u.1 231 24 ≤ T - 1)))) 0 0 (sF G) := by
  refine sEnter (by decide) (Nat.le_of_ble_eq_true rfl) ?_
  intro p e s m args below meth c Cx hr hlk hnm hW ls hl
  have Cx : sC G p m c cX12_sumRead 2 s args RX12 := Cx
  obtain ⟨hx, hb, hml, hown, hts⟩ := id Cx.1
  have hL : sL G [] := sL_nil
  have hl : lv_has ls 2 [(0, .ref (G.2.2.1 + 231)), (1, .int (iv dp))] := hl
  have hW0 := hW
  have hE1 := hE.1
  refine lv_aload_n hx hb dX12_sumRead_0 rfl (lv_at hl 0 rfl) ?_
  refine lv_iload_n hx hb dX12_sumRead_1 rfl (lv_at hl 1 rfl) ?_
  have q_1 : (-2147483648) ≤ S.1 231 24 ∧ S.1 231 24 ≤ 2147483647 := hI.fi 24
  have q_2 : (-2147483648) ≤ S.1 231 20 ∧ S.1 231 20 ≤ 2147483647 := hI.fi 20
  refine sBv (sV (As := [.int (iv dp)]) (rest := []) (k := 231) Cx (hF S pz dp hI hK hV (by omega) (fun h => by have e8 := (show S.1 231 20 = S.1 231 20 from rfl); have a9 := hcu (by have e9 := (show S.1 231 20 = S.1 231 20 from rfl); omega); omega) (by omega)) (c_X12_349 Cx rfl rfl (rmk_ok (by omega) (by decide))) hW (by decide) rfl rfl rfl hl.1 rfl (Nat.le_of_ble_eq_true rfl) dX12_sumRead_2 ⟨Nat.le_of_ble_eq_true rfl, Nat.le_of_ble_eq_true rfl⟩) hL (fun u_3 H locs k_4 hW hL => ?_)
  obtain ⟨iu_3, fu_3, gu_3, xu_3⟩ := k_4
  have F_5 := (Fr.rf : Fr S S (pl [231])).trans fu_3
  have g_6 : FF S u_3 (fl [20, 21, 24]) := FF.trans FF.rf (FF.to gu_3 (fl_sub (by decide)))
  have loop_5 : ∀ (fuel : Nat) (S5 : sS)  (H : Heap) (locs : List Loc) (ls : Array Slot), mf S5 T < fuel → (dX G S5) → (Fr S S5 (pl [231])) → (Fr u_3 S5 (pl [231])) → (FF S S5 (fl [20, 21, 24])) → (FF u_3 S5 (fl [20, 21, 24])) → (Hd (S5.1 231 20 = 0 → 0 ≤ S5.1 231 24 ∧ S5.1 231 24 ≤ T - 1)) → (Hd (S5.1 231 20 = 0 → u_3.1 231 20 = 0 ∧ ∀ q, gTl (fun c => gS K V c 43 ∨ gS K V c 45) (fun c x => gP K V (gF K V N) (c + 1) x) (S5.1 231 24) q → gTl (fun c => gS K V c 43 ∨ gS K V c 45) (fun c x => gP K V (gF K V N) (c + 1) x) (u_3.1 231 24) q)) → (Hd (S5.1 231 20 = 0 → u_3.1 231 24 ≤ S5.1 231 24)) → sW G 294 S5 H → sL G locs → lv_has ls 2 [(0, .ref (G.2.2.1 + 231)), (1, .int (iv dp))] → W p l e (rmk D 0 0) s m args below meth c H locs 0 0 (MQ below (sQv G 294 (fun u => dX G u ∧ Fr S u (pl [231]) ∧ FF S u (fl [20, 21, 24]) ∧ (Hd (u.1 231 20 = 0 → S.1 231 20 = 0 ∧ gU K V (gF K V N) pz (u.1 231 24) ∧ pz < u.1 231 24 ∧ 0 ≤ u.1 231 24 ∧ u.1 231 24 ≤ T - 1)))) args s 0 0 (sF G)) (F0 m 5 ls []) := by
    intro fuel
    induction fuel with
    | zero => intro S5  H locs ls hmeas hI5 hFm5 hL5_ hGm5 gL5_ hcu5 hH5 hq5 hW hL hl; exact absurd hmeas (Nat.not_lt_zero _)
    | succ fuel ih_5 =>
      intro S5  H locs ls hmeas hI5 hFm5 hL5_ hGm5 gL5_ hcu5 hH5 hq5 hW hL hl
      refine lv_aload_n hx hb dX12_sumRead_5 rfl (lv_at hl 0 rfl) ?_
      have q_7 : (-2147483648) ≤ S5.1 231 20 ∧ S5.1 231 20 ≤ 2147483647 := hI5.fi 20
      refine g_X12_270 Cx hW (k := 231) (by decide) rfl (v := S5.1 231 20) rfl dX12_sumRead_6 ?_
      refine r_if_ne (tgt := 48) hx hb ⟨(by omega), (by omega)⟩ dX12_sumRead_9 (by decide) (fun c_8 => ?_) (fun c_8 => ?_)
      · have q_9 : (-2147483648) ≤ S5.1 231 24 ∧ S5.1 231 24 ≤ 2147483647 := hI5.fi 24
        exact sVret Cx hr hlk hW hL ⟨hI5, hFm5, hGm5, (fun h => by have e8 := (show S5.1 231 20 = S5.1 231 20 from rfl); have aS5 := hH5 (by have e9 := (show S5.1 231 20 = S5.1 231 20 from rfl); omega); have au_3 := xu_3 aS5.1; exfalso; omega)⟩ dX12_sumRead_48
      · have b_10 := hcu5 (by have e9 := (show S5.1 231 20 = S5.1 231 20 from rfl); omega)
        refine lv_aload_n hx hb dX12_sumRead_12 rfl (lv_at hl 0 rfl) ?_
        refine lv_bipush (v := iv 43) hx hb dX12_sumRead_13 (by decide) ?_
        have q_11 : (-2147483648) ≤ S5.1 231 24 ∧ S5.1 231 24 ≤ 2147483647 := hI5.fi 24
        refine sBi (sV (As := [.int (iv 43)]) (rest := []) (k := 231) Cx (s_X12_isSign l G S5 (sv := 43) (K := K) (V := V) (pz := S5.1 231 24) hI5 (by omega) ((funext fun j => ((hL5_ 244 rfl).2.1 j).trans ((fu_3 244 rfl).2.1 j) : S5.2.1 244 = S.2.1 244).trans hK) ((funext fun j => ((hL5_ 247 rfl).2.1 j).trans ((fu_3 247 rfl).2.1 j) : S5.2.1 247 = S.2.1 247).trans hV) (by omega) (by omega)) (c_X12_318 Cx rfl rfl (rmk_ok (by omega) (by decide))) hW (by decide) rfl rfl rfl hl.1 rfl (Nat.le_of_ble_eq_true rfl) dX12_sumRead_15 ⟨Nat.le_of_ble_eq_true rfl, Nat.le_of_ble_eq_true rfl⟩) hL (fun r_14 u_12 H locs k_13 hW hL => ?_)
        obtain ⟨eu_12, xu_12⟩ := k_13
        rw [eu_12] at hW
        refine r_if_ne (tgt := 30) hx hb ⟨(by omega), (by omega)⟩ dX12_sumRead_18 (by decide) (fun c_15 => ?_) (fun c_15 => ?_)
        · refine lv_aload_n hx hb dX12_sumRead_30 rfl (lv_at hl 0 rfl) ?_
          refine lv_dup hx hb dX12_sumRead_31 rfl ?_
          refine g_X12_315 Cx hW (k := 231) (by decide) rfl (v := S5.1 231 24) rfl dX12_sumRead_32 ?_
          have n_16 := hE.nx (pz := S5.1 231 24) (by omega) (by have z := (xu_12.2.1 (by omega)); unfold gS at z; omega)
          refine lv_iconst (v := iv 1) hx hb dX12_sumRead_35 (by decide) ?_
          refine r_iadd hx hb dX12_sumRead_36 ?_
          refine p_X12_315 Cx hW hL (k := 231) (by decide) rfl dX12_sumRead_37 (fun H locs hW hL => ?_)
          have F_17 : Fr S (uF S5 231 24 ((S5.1 231 24) + 1)) (pl [231]) := hFm5.F rfl
          have F_18 : Fr u_3 (uF S5 231 24 ((S5.1 231 24) + 1)) (pl [231]) := hL5_.F rfl
          have g_19 : FF S (uF S5 231 24 ((S5.1 231 24) + 1)) (fl [20, 21, 24]) := FF.F hGm5 rfl
          have g_20 : FF u_3 (uF S5 231 24 ((S5.1 231 24) + 1)) (fl [20, 21, 24]) := FF.F gL5_ rfl
          have i_21 : dX G (uF S5 231 24 ((S5.1 231 24) + 1)) := hI5.F (i := 24) (show (-2147483648) ≤ (S5.1 231 24) + 1 ∧ (S5.1 231 24) + 1 ≤ 2147483647 from ⟨by omega, by omega⟩)
          refine lv_aload_n hx hb dX12_sumRead_40 rfl (lv_at hl 0 rfl) ?_
          refine lv_iload_n hx hb dX12_sumRead_41 rfl (lv_at hl 1 rfl) ?_
          have lk_22 : (uF S5 231 24 ((S5.1 231 24) + 1)).1 231 24 = (S5.1 231 24) + 1 := uF_on
          have lk_23 : (uF S5 231 24 ((S5.1 231 24) + 1)).1 231 20 = S5.1 231 20 := uF_ne (fun h => absurd h.2 (by decide))
          refine sBv (sV (As := [.int (iv dp)]) (rest := []) (k := 231) Cx (hF (uF S5 231 24 ((S5.1 231 24) + 1)) ((S5.1 231 24) + 1) dp i_21 ((funext fun j => (uF_a).trans (((hL5_ 244 rfl).2.1 j).trans ((fu_3 244 rfl).2.1 j)) : (uF S5 231 24 ((S5.1 231 24) + 1)).2.1 244 = S.2.1 244).trans hK) ((funext fun j => (uF_a).trans (((hL5_ 247 rfl).2.1 j).trans ((fu_3 247 rfl).2.1 j)) : (uF S5 231 24 ((S5.1 231 24) + 1)).2.1 247 = S.2.1 247).trans hV) (by omega) (fun h => by have e8 := (show (uF S5 231 24 ((S5.1 231 24) + 1)).1 231 20 = S5.1 231 20 from uF_ne (fun h => absurd h.2 (by decide))); have a9 := hcu5 (by have e9 := (show (uF S5 231 24 ((S5.1 231 24) + 1)).1 231 20 = S5.1 231 20 from uF_ne (fun h => absurd h.2 (by decide))); omega); omega) (by omega)) (c_X12_349 Cx rfl rfl (rmk_ok (by omega) (by decide))) hW (by decide) rfl rfl rfl hl.1 rfl (Nat.le_of_ble_eq_true rfl) dX12_sumRead_42 ⟨Nat.le_of_ble_eq_true rfl, Nat.le_of_ble_eq_true rfl⟩) hL (fun u_24 H locs k_25 hW hL => ?_)
          obtain ⟨iu_24, fu_24, gu_24, xu_24⟩ := k_25
          have F_26 := F_17.trans fu_24
          have F_27 := F_18.trans fu_24
          have g_28 : FF S u_24 (fl [20, 21, 24]) := FF.trans g_19 (FF.to gu_24 (fl_sub (by decide)))
          have g_29 : FF u_3 u_24 (fl [20, 21, 24]) := FF.trans g_20 (FF.to gu_24 (fl_sub (by decide)))
          refine lv_goto (tgt := 5) hx hb dX12_sumRead_45 (by decide) ?_
          have q_30 : (-2147483648) ≤ u_24.1 231 20 ∧ u_24.1 231 20 ≤ 2147483647 := iu_24.fi 20
          have q_31 : (-2147483648) ≤ u_24.1 231 24 ∧ u_24.1 231 24 ≤ 2147483647 := iu_24.fi 24
          exact ih_5 u_24  _ _ _ (Nat.lt_of_lt_of_le (mf_lt (S := S5) (by omega) (by omega) (fun h => by have a9 := xu_24 h; omega)) (Nat.le_of_lt_succ hmeas)) iu_24 F_26 F_27 g_28 g_29 (fun h => by have a9 := xu_24 h; omega) (fun h => ⟨(hH5 (by omega)).1, fun q t => (hH5 (by omega)).2 q (gTl.cons (.inl (xu_12.2.1 (by omega))) (xu_24 h).2.1 t)⟩) (fun h => by have a9 := xu_24 h; have a8 := hq5 (by omega); omega) hW hL (lv_sub hl [0, 1] rfl)
        · refine lv_aload_n hx hb dX12_sumRead_21 rfl (lv_at hl 0 rfl) ?_
          refine lv_bipush (v := iv 45) hx hb dX12_sumRead_22 (by decide) ?_
          refine sBi (sV (As := [.int (iv 45)]) (rest := []) (k := 231) Cx (s_X12_isSign l G S5 (sv := 45) (K := K) (V := V) (pz := S5.1 231 24) hI5 (by omega) ((funext fun j => ((hL5_ 244 rfl).2.1 j).trans ((fu_3 244 rfl).2.1 j) : S5.2.1 244 = S.2.1 244).trans hK) ((funext fun j => ((hL5_ 247 rfl).2.1 j).trans ((fu_3 247 rfl).2.1 j) : S5.2.1 247 = S.2.1 247).trans hV) (by omega) (by omega)) (c_X12_318 Cx rfl rfl (rmk_ok (by omega) (by decide))) hW (by decide) rfl rfl rfl hl.1 rfl (Nat.le_of_ble_eq_true rfl) dX12_sumRead_24 ⟨Nat.le_of_ble_eq_true rfl, Nat.le_of_ble_eq_true rfl⟩) hL (fun r_34 u_32 H locs k_33 hW hL => ?_)
          obtain ⟨eu_32, xu_32⟩ := k_33
          rw [eu_32] at hW
          refine r_if_eq (tgt := 48) hx hb ⟨(by omega), (by omega)⟩ dX12_sumRead_27 (by decide) (fun c_35 => ?_) (fun c_35 => ?_)
          · exact sVret Cx hr hlk hW hL ⟨hI5, hFm5, hGm5, (fun h => by have e8 := (show S5.1 231 20 = S5.1 231 20 from rfl); have e7 := (show S5.1 231 24 = S5.1 231 24 from rfl); have aS5 := hH5 (by have e9 := (show S5.1 231 20 = S5.1 231 20 from rfl); omega); have au_3 := xu_3 aS5.1; have a7 := hq5 (by omega); exact ⟨au_3.1, ⟨_, au_3.2.1, aS5.2 _ (gTl.nil (fun z => z.elim (xu_12.2.2 (by omega)) (xu_32.2.2 (by omega))))⟩, by omega, by omega, by omega⟩)⟩ dX12_sumRead_48
          · refine lv_aload_n hx hb dX12_sumRead_30 rfl (lv_at hl 0 rfl) ?_
            refine lv_dup hx hb dX12_sumRead_31 rfl ?_
            refine g_X12_315 Cx hW (k := 231) (by decide) rfl (v := S5.1 231 24) rfl dX12_sumRead_32 ?_
            have n_36 := hE.nx (pz := S5.1 231 24) (by omega) (by have z := (xu_32.2.1 (by omega)); unfold gS at z; omega)
            refine lv_iconst (v := iv 1) hx hb dX12_sumRead_35 (by decide) ?_
            refine r_iadd hx hb dX12_sumRead_36 ?_
            refine p_X12_315 Cx hW hL (k := 231) (by decide) rfl dX12_sumRead_37 (fun H locs hW hL => ?_)
            have F_37 : Fr S (uF S5 231 24 ((S5.1 231 24) + 1)) (pl [231]) := hFm5.F rfl
            have F_38 : Fr u_3 (uF S5 231 24 ((S5.1 231 24) + 1)) (pl [231]) := hL5_.F rfl
            have g_39 : FF S (uF S5 231 24 ((S5.1 231 24) + 1)) (fl [20, 21, 24]) := FF.F hGm5 rfl
            have g_40 : FF u_3 (uF S5 231 24 ((S5.1 231 24) + 1)) (fl [20, 21, 24]) := FF.F gL5_ rfl
            have i_41 : dX G (uF S5 231 24 ((S5.1 231 24) + 1)) := hI5.F (i := 24) (show (-2147483648) ≤ (S5.1 231 24) + 1 ∧ (S5.1 231 24) + 1 ≤ 2147483647 from ⟨by omega, by omega⟩)
            refine lv_aload_n hx hb dX12_sumRead_40 rfl (lv_at hl 0 rfl) ?_
            refine lv_iload_n hx hb dX12_sumRead_41 rfl (lv_at hl 1 rfl) ?_
            have lk_42 : (uF S5 231 24 ((S5.1 231 24) + 1)).1 231 24 = (S5.1 231 24) + 1 := uF_on
            have lk_43 : (uF S5 231 24 ((S5.1 231 24) + 1)).1 231 20 = S5.1 231 20 := uF_ne (fun h => absurd h.2 (by decide))
            refine sBv (sV (As := [.int (iv dp)]) (rest := []) (k := 231) Cx (hF (uF S5 231 24 ((S5.1 231 24) + 1)) ((S5.1 231 24) + 1) dp i_41 ((funext fun j => (uF_a).trans (((hL5_ 244 rfl).2.1 j).trans ((fu_3 244 rfl).2.1 j)) : (uF S5 231 24 ((S5.1 231 24) + 1)).2.1 244 = S.2.1 244).trans hK) ((funext fun j => (uF_a).trans (((hL5_ 247 rfl).2.1 j).trans ((fu_3 247 rfl).2.1 j)) : (uF S5 231 24 ((S5.1 231 24) + 1)).2.1 247 = S.2.1 247).trans hV) (by omega) (fun h => by have e8 := (show (uF S5 231 24 ((S5.1 231 24) + 1)).1 231 20 = S5.1 231 20 from uF_ne (fun h => absurd h.2 (by decide))); have a9 := hcu5 (by have e9 := (show (uF S5 231 24 ((S5.1 231 24) + 1)).1 231 20 = S5.1 231 20 from uF_ne (fun h => absurd h.2 (by decide))); omega); omega) (by omega)) (c_X12_349 Cx rfl rfl (rmk_ok (by omega) (by decide))) hW (by decide) rfl rfl rfl hl.1 rfl (Nat.le_of_ble_eq_true rfl) dX12_sumRead_42 ⟨Nat.le_of_ble_eq_true rfl, Nat.le_of_ble_eq_true rfl⟩) hL (fun u_44 H locs k_45 hW hL => ?_)
            obtain ⟨iu_44, fu_44, gu_44, xu_44⟩ := k_45
            have F_46 := F_37.trans fu_44
            have F_47 := F_38.trans fu_44
            have g_48 : FF S u_44 (fl [20, 21, 24]) := FF.trans g_39 (FF.to gu_44 (fl_sub (by decide)))
            have g_49 : FF u_3 u_44 (fl [20, 21, 24]) := FF.trans g_40 (FF.to gu_44 (fl_sub (by decide)))
            refine lv_goto (tgt := 5) hx hb dX12_sumRead_45 (by decide) ?_
            have q_50 : (-2147483648) ≤ u_44.1 231 20 ∧ u_44.1 231 20 ≤ 2147483647 := iu_44.fi 20
            have q_51 : (-2147483648) ≤ u_44.1 231 24 ∧ u_44.1 231 24 ≤ 2147483647 := iu_44.fi 24
            exact ih_5 u_44  _ _ _ (Nat.lt_of_lt_of_le (mf_lt (S := S5) (by omega) (by omega) (fun h => by have a9 := xu_44 h; omega)) (Nat.le_of_lt_succ hmeas)) iu_44 F_46 F_47 g_48 g_49 (fun h => by have a9 := xu_44 h; omega) (fun h => ⟨(hH5 (by omega)).1, fun q t => (hH5 (by omega)).2 q (gTl.cons (.inr (xu_32.2.1 (by omega))) (xu_44 h).2.1 t)⟩) (fun h => by have a9 := xu_44 h; have a8 := hq5 (by omega); omega) hW hL (lv_sub hl [0, 1] rfl)
  have q_52 : (-2147483648) ≤ u_3.1 231 20 ∧ u_3.1 231 20 ≤ 2147483647 := iu_3.fi 20
  have q_53 : (-2147483648) ≤ u_3.1 231 24 ∧ u_3.1 231 24 ≤ 2147483647 := iu_3.fi 24
  exact loop_5 (_ + 1) u_3  _ _ _ (Nat.lt_succ_self _) iu_3 F_5 Fr.rf g_6 FF.rf (fun h => by have a9 := xu_3 h; omega) (fun h => ⟨h, fun _ t => t⟩) (fun _ => Int.le_refl _) hW hL (lv_sub hl [0, 1] rfl)

theorem rd_all (l : Launch) (G : sG) (K V : Int → Int) (T : Int) (hE : gE K T) : ∀ N : Nat, FrC l G (3 * N + 8) K V T N ∧ PrC l G (3 * N + 9) K V T N ∧ SuC l G (3 * N + 10) K V T N := by
  have fin : ∀ N : Nat, FrC l G (3 * N + 8) K V T N → FrC l G (3 * N + 8) K V T N ∧ PrC l G (3 * N + 9) K V T N ∧ SuC l G (3 * N + 10) K V T N := fun N hF =>
    have hP : PrC l G (3 * N + 9) K V T N := fun S pz dp hI hK hV hc hcu hN => s_X12_productRead l G S hI hN (d1 := 3 * N + 8) (by omega) (by omega) hF hK hV hE hc hcu
    ⟨hF, hP, fun S pz dp hI hK hV hc hcu hN => s_X12_sumRead l G S hI hN (d1 := 3 * N + 9) (by omega) (by omega) hP hK hV hE hc hcu⟩
  intro N
  induction N with
  | zero => exact fin 0 (fun S pz dp hI hK hV hc hcu hN => s_X12_factorRead l G S hI hN (d1 := 0) (d2 := 0) (by omega) (by omega) (by omega) (fun n h => absurd h (by omega)) (fun n h => absurd h (by omega)) hK hV hE hc hcu)
  | succ N ih => exact fin (N + 1) (fun S pz dp hI hK hV hc hcu hN => s_X12_factorRead l G S hI hN (d1 := 3 * N + 8) (d2 := 3 * N + 10) (by omega) (by omega) (by omega) (fun n h => by cases h; exact ih.1) (fun n h => by cases h; exact ih.2.2) hK hV hE hc hcu)

set_option maxRecDepth 100000 in
set_option maxHeartbeats 4000000 in
theorem s_X12_read (l : Launch) (G : sG) (S : sS) {K V : Int → Int} {T pz : Int}  (hI : dX G S) (hK : S.2.1 244 = K) (hV : S.2.1 247 = V) (hE : gE K T) (h20 : S.1 231 20 = 0) : Met l yX12_read (.code yX12_read cX12_read 1 none :: tb) (rmk 101 0 0) (sPc G 294 S [.ref (G.2.2.1 + 231)]) (sQv G 294 (fun u => dX G u ∧ Fr S u (pl [231]) ∧ FF S u (fl [20, 21, 24]) ∧ (Hd (u.1 231 20 = 0 → gPtE K V T)))) 0 0 (sF G) := by
  refine sEnter (by decide) (Nat.le_of_ble_eq_true rfl) ?_
  intro p e s m args below meth c Cx hr hlk hnm hW ls hl
  have Cx : sC G p m c cX12_read 1 s args RX12 := Cx
  obtain ⟨hx, hb, hml, hown, hts⟩ := id Cx.1
  have hL : sL G [] := sL_nil
  have hl : lv_has ls 1 [(0, .ref (G.2.2.1 + 231))] := hl
  have hW0 := hW
  have hE1 := hE.1
  have join_85 : ∀ (S85 : sS)  (H : Heap) (locs : List Loc) (ls : Array Slot), (dX G S85) → (Fr S S85 (pl [231])) → (Fr S S85 (pl [231])) → (FF S S85 (fl [20, 21, 24])) → (FF S S85 (fl [20, 21, 24])) → (Hd (S85.1 231 20 = 0 → 0 ≤ S85.1 231 24 ∧ S85.1 231 24 ≤ T - 1)) → (Hd (S85.1 231 20 = 0 → ∃ a, gTl (fun c => gW K V c 2 ∨ gW K V c 3 ∨ gW K V c 4) (gT K V) 0 a ∧ (gW K V a 0 ∨ gW K V a 1) ∧ S85.1 231 24 = a + 1)) → sW G 294 S85 H → sL G locs → lv_has ls 1 [(0, .ref (G.2.2.1 + 231))] → W p l e (rmk 101 0 0) s m args below meth c H locs 0 0 (MQ below (sQv G 294 (fun u => dX G u ∧ Fr S u (pl [231]) ∧ FF S u (fl [20, 21, 24]) ∧ (Hd (u.1 231 20 = 0 → gPtE K V T)))) args s 0 0 (sF G)) (F0 m 85 ls []) := by
    intro S85  H locs ls hI85 hFm85 hL85_ hGm85 gL85_ hcu85 hH85 hW hL hl
    refine lv_aload_n hx hb dX12_read_85 rfl (lv_at hl 0 rfl) ?_
    refine lv_iconst (v := iv 0) hx hb dX12_read_86 (by decide) ?_
    have q_1 : (-2147483648) ≤ S85.1 231 24 ∧ S85.1 231 24 ≤ 2147483647 := hI85.fi 24
    have q_2 : (-2147483648) ≤ S85.1 231 20 ∧ S85.1 231 20 ≤ 2147483647 := hI85.fi 20
    refine sBv (sV (As := [.int (iv 0)]) (rest := []) (k := 231) Cx ((rd_all l G K V T hE 30).2.2 S85 (S85.1 231 24) 0 hI85 ((funext fun j => (hL85_ 244 rfl).2.1 j : S85.2.1 244 = S.2.1 244).trans hK) ((funext fun j => (hL85_ 247 rfl).2.1 j : S85.2.1 247 = S.2.1 247).trans hV) (by omega) (fun h => by have e8 := (show S85.1 231 20 = S85.1 231 20 from rfl); have a9 := hcu85 (by have e9 := (show S85.1 231 20 = S85.1 231 20 from rfl); omega); omega) (by omega)) (c_X12_337 Cx rfl rfl (rmk_ok (by omega) (by decide))) hW (by decide) rfl rfl rfl hl.1 rfl (Nat.le_of_ble_eq_true rfl) dX12_read_87 ⟨Nat.le_of_ble_eq_true rfl, Nat.le_of_ble_eq_true rfl⟩) hL (fun u_3 H locs k_4 hW hL => ?_)
    obtain ⟨iu_3, fu_3, gu_3, xu_3⟩ := k_4
    have F_5 := hFm85.trans fu_3
    have F_6 := hL85_.trans fu_3
    have g_7 : FF S u_3 (fl [20, 21, 24]) := FF.trans hGm85 (FF.to gu_3 (fl_sub (by decide)))
    have g_8 : FF S u_3 (fl [20, 21, 24]) := FF.trans gL85_ (FF.to gu_3 (fl_sub (by decide)))
    refine lv_aload_n hx hb dX12_read_90 rfl (lv_at hl 0 rfl) ?_
    refine lv_bipush (v := iv 59) hx hb dX12_read_91 (by decide) ?_
    have q_9 : (-2147483648) ≤ u_3.1 231 24 ∧ u_3.1 231 24 ≤ 2147483647 := iu_3.fi 24
    have q_10 : (-2147483648) ≤ u_3.1 231 20 ∧ u_3.1 231 20 ≤ 2147483647 := iu_3.fi 20
    refine sBv (sV (As := [.int (iv 59)]) (rest := []) (k := 231) Cx (s_X12_want l G u_3 (sv := 59) (K := K) (V := V) (T := T) (pz := u_3.1 231 24) iu_3 (by omega) ((funext fun j => ((fu_3 244 rfl).2.1 j).trans ((hL85_ 244 rfl).2.1 j) : u_3.2.1 244 = S.2.1 244).trans hK) ((funext fun j => ((fu_3 247 rfl).2.1 j).trans ((hL85_ 247 rfl).2.1 j) : u_3.2.1 247 = S.2.1 247).trans hV) hE (by omega) (fun h => by have e8 := (show u_3.1 231 20 = u_3.1 231 20 from rfl); have a9 := xu_3 (by have e9 := (show u_3.1 231 20 = u_3.1 231 20 from rfl); omega); omega)) (c_X12_331 Cx rfl rfl (rmk_ok (by omega) (by decide))) hW (by decide) rfl rfl rfl hl.1 rfl (Nat.le_of_ble_eq_true rfl) dX12_read_93 ⟨Nat.le_of_ble_eq_true rfl, Nat.le_of_ble_eq_true rfl⟩) hL (fun u_11 H locs k_12 hW hL => ?_)
    obtain ⟨iu_11, fu_11, gu_11, xu_11⟩ := k_12
    have F_13 := F_5.trans fu_11
    have F_14 := F_6.trans fu_11
    have g_15 : FF S u_11 (fl [20, 21, 24]) := FF.trans g_7 (FF.to gu_11 (fl_sub (by decide)))
    have g_16 : FF S u_11 (fl [20, 21, 24]) := FF.trans g_8 (FF.to gu_11 (fl_sub (by decide)))
    have loop_96 : ∀ (fuel : Nat) (S96 : sS)  (H : Heap) (locs : List Loc) (ls : Array Slot), mf S96 T < fuel → (dX G S96) → (Fr S S96 (pl [231])) → (Fr S S96 (pl [231])) → (Fr u_11 S96 (pl [231])) → (FF S S96 (fl [20, 21, 24])) → (FF S S96 (fl [20, 21, 24])) → (FF u_11 S96 (fl [20, 21, 24])) → (Hd (S96.1 231 20 = 0 → 0 ≤ S96.1 231 24 ∧ S96.1 231 24 ≤ T - 1)) → (Hd (S96.1 231 20 = 0 → u_11.1 231 20 = 0 ∧ ∀ q, gTl (fun c => gW K V c 6) (gRo K V (gF K V 30)) (S96.1 231 24) q → gTl (fun c => gW K V c 6) (gRo K V (gF K V 30)) (u_11.1 231 24) q)) → sW G 294 S96 H → sL G locs → lv_has ls 1 [(0, .ref (G.2.2.1 + 231))] → W p l e (rmk 101 0 0) s m args below meth c H locs 0 0 (MQ below (sQv G 294 (fun u => dX G u ∧ Fr S u (pl [231]) ∧ FF S u (fl [20, 21, 24]) ∧ (Hd (u.1 231 20 = 0 → gPtE K V T)))) args s 0 0 (sF G)) (F0 m 96 ls []) := by
      intro fuel
      induction fuel with
      | zero => intro S96  H locs ls hmeas hI96 hFm96 hFL8596 hL96_ hGm96 hGL8596 gL96_ hcu96 hH96 hW hL hl; exact absurd hmeas (Nat.not_lt_zero _)
      | succ fuel ih_96 =>
        intro S96  H locs ls hmeas hI96 hFm96 hFL8596 hL96_ hGm96 hGL8596 gL96_ hcu96 hH96 hW hL hl
        refine lv_aload_n hx hb dX12_read_96 rfl (lv_at hl 0 rfl) ?_
        have q_17 : (-2147483648) ≤ S96.1 231 20 ∧ S96.1 231 20 ≤ 2147483647 := hI96.fi 20
        refine g_X12_270 Cx hW (k := 231) (by decide) rfl (v := S96.1 231 20) rfl dX12_read_97 ?_
        refine r_if_ne (tgt := 251) hx hb ⟨(by omega), (by omega)⟩ dX12_read_100 (by decide) (fun c_18 => ?_) (fun c_18 => ?_)
        · refine lv_aload_n hx hb dX12_read_251 rfl (lv_at hl 0 rfl) ?_
          refine g_X12_270 Cx hW (k := 231) (by decide) rfl (v := S96.1 231 20) rfl dX12_read_252 ?_
          refine r_if_ne (tgt := 280) hx hb ⟨(by omega), (by omega)⟩ dX12_read_255 (by decide) (fun _ => ?_) (fun c => absurd c (by omega))
          exact sVret Cx hr hlk hW hL ⟨hI96, hFm96, hGm96, (fun h => absurd h (by have e9 := (show S96.1 231 20 = S96.1 231 20 from rfl); omega))⟩ dX12_read_280
        · have b_19 := hcu96 (by have e9 := (show S96.1 231 20 = S96.1 231 20 from rfl); omega)
          refine lv_aload_n hx hb dX12_read_103 rfl (lv_at hl 0 rfl) ?_
          refine lv_bipush (v := iv 6) hx hb dX12_read_104 (by decide) ?_
          have q_20 : (-2147483648) ≤ S96.1 231 24 ∧ S96.1 231 24 ≤ 2147483647 := hI96.fi 24
          refine sBi (sV (As := [.int (iv 6)]) (rest := []) (k := 231) Cx (s_X12_isWord l G S96 (sv := 6) (K := K) (V := V) (pz := S96.1 231 24) hI96 (by omega) ((funext fun j => ((hL96_ 244 rfl).2.1 j).trans (((fu_11 244 rfl).2.1 j).trans (((fu_3 244 rfl).2.1 j).trans ((hL85_ 244 rfl).2.1 j))) : S96.2.1 244 = S.2.1 244).trans hK) ((funext fun j => ((hL96_ 247 rfl).2.1 j).trans (((fu_11 247 rfl).2.1 j).trans (((fu_3 247 rfl).2.1 j).trans ((hL85_ 247 rfl).2.1 j))) : S96.2.1 247 = S.2.1 247).trans hV) (by omega) (by omega)) (c_X12_325 Cx rfl rfl (rmk_ok (by omega) (by decide))) hW (by decide) rfl rfl rfl hl.1 rfl (Nat.le_of_ble_eq_true rfl) dX12_read_106 ⟨Nat.le_of_ble_eq_true rfl, Nat.le_of_ble_eq_true rfl⟩) hL (fun r_23 u_21 H locs k_22 hW hL => ?_)
          obtain ⟨eu_21, xu_21⟩ := k_22
          rw [eu_21] at hW
          refine r_if_eq (tgt := 251) hx hb ⟨(by omega), (by omega)⟩ dX12_read_109 (by decide) (fun c_24 => ?_) (fun c_24 => ?_)
          · refine lv_aload_n hx hb dX12_read_251 rfl (lv_at hl 0 rfl) ?_
            refine g_X12_270 Cx hW (k := 231) (by decide) rfl (v := S96.1 231 20) rfl dX12_read_252 ?_
            refine r_if_ne (tgt := 280) hx hb ⟨(by omega), (by omega)⟩ dX12_read_255 (by decide) (fun c => absurd (by omega) c) (fun _ => ?_)
            have b_25 := hcu96 (by have e9 := (show S96.1 231 20 = S96.1 231 20 from rfl); omega)
            refine lv_aload_n hx hb dX12_read_258 rfl (lv_at hl 0 rfl) ?_
            refine g_X12_47 Cx hW (k := 231) (by decide) rfl (v := .ref (G.2.2.1 + 244)) (rd_15 hI96) dX12_read_259 ?_
            refine lv_aload_n hx hb dX12_read_262 rfl (lv_at hl 0 rfl) ?_
            refine g_X12_315 Cx hW (k := 231) (by decide) rfl (v := S96.1 231 24) rfl dX12_read_263 ?_
            refine rIald Cx hW (k := 244) (by decide) rfl (by decide) (by omega) (by omega) dX12_read_266 ?_
            have q_26 : (-2147483648) ≤ S.2.1 244 (S96.1 231 24) ∧ S.2.1 244 (S96.1 231 24) ≤ 2147483647 := hI.ai 244 (S96.1 231 24)
            refine r_i (b := S.2.1 244 (S96.1 231 24)) (((hL96_ 244 rfl).2.1 (S96.1 231 24)).trans (((fu_11 244 rfl).2.1 (S96.1 231 24)).trans (((fu_3 244 rfl).2.1 (S96.1 231 24)).trans ((hL85_ 244 rfl).2.1 (S96.1 231 24))))) ?_
            have hr9 : K (S96.1 231 24) = S.2.1 244 (S96.1 231 24) := by rw [← hK]
            refine lv_iconst (v := iv 5) hx hb dX12_read_267 (by decide) ?_
            refine r_icmp_eq (tgt := 280) hx hb ⟨(by omega), (by omega)⟩ ⟨(by omega), (by omega)⟩ dX12_read_268 (by decide) (fun c_27 => ?_) (fun c_27 => ?_)
            · exact sVret Cx hr hlk hW hL ⟨hI96, hFm96, hGm96, (fun h => by have aS96 := hH96 (by omega); have au_11 := xu_11 aS96.1; have au_3 := xu_3 au_11.1; obtain ⟨a, ht, hw, ec⟩ := hH85 au_3.1; exact ⟨a, ht, hw, _, (by rw [← ec]; exact au_3.2.1), _, au_11.2.1, _, aS96.2 _ (gTl.nil (xu_21.2.2 (by omega))), (by omega), (hcu96 (by omega)).2⟩)⟩ dX12_read_280
            · refine lv_aload_n hx hb dX12_read_271 rfl (lv_at hl 0 rfl) ?_
              refine lv_iconst (v := iv 1) hx hb dX12_read_272 (by decide) ?_
              refine lv_aload_n hx hb dX12_read_273 rfl (lv_at hl 0 rfl) ?_
              refine g_X12_315 Cx hW (k := 231) (by decide) rfl (v := S96.1 231 24) rfl dX12_read_274 ?_
              refine sBv (sV (As := [.int (iv 1), .int (iv (S96.1 231 24))]) (rest := []) (k := 231) Cx (s_X12_wrong l G S96 (cd := 1) (tk := S96.1 231 24) hI96 (by omega) (by omega)) (c_X12_321 Cx rfl rfl (rmk_ok (by omega) (by decide))) hW (by decide) rfl rfl rfl hl.1 rfl (Nat.le_of_ble_eq_true rfl) dX12_read_277 ⟨Nat.le_of_ble_eq_true rfl, Nat.le_of_ble_eq_true rfl⟩) hL (fun u_28 H locs k_29 hW hL => ?_)
              obtain ⟨iu_28, fu_28, gu_28, xu_28⟩ := k_29
              have F_30 := hFm96.trans fu_28
              have F_31 := hFL8596.trans fu_28
              have F_32 := hL96_.trans fu_28
              have g_33 : FF S u_28 (fl [20, 21, 24]) := FF.trans hGm96 (FF.to gu_28 (fl_sub (by decide)))
              have g_34 : FF S u_28 (fl [20, 21, 24]) := FF.trans hGL8596 (FF.to gu_28 (fl_sub (by decide)))
              have g_35 : FF u_11 u_28 (fl [20, 21, 24]) := FF.trans gL96_ (FF.to gu_28 (fl_sub (by decide)))
              have q_36 : (-2147483648) ≤ u_28.1 231 20 ∧ u_28.1 231 20 ≤ 2147483647 := iu_28.fi 20
              exact sVret Cx hr hlk hW hL ⟨iu_28, F_30, g_33, (fun h => absurd h (by have e9 := (show u_28.1 231 20 = u_28.1 231 20 from rfl); have a9 := xu_28; omega))⟩ dX12_read_280
          · refine lv_aload_n hx hb dX12_read_112 rfl (lv_at hl 0 rfl) ?_
            refine lv_dup hx hb dX12_read_113 rfl ?_
            refine g_X12_315 Cx hW (k := 231) (by decide) rfl (v := S96.1 231 24) rfl dX12_read_114 ?_
            have n_37 := hE.nx (pz := S96.1 231 24) (by omega) (by have z := (xu_21.2.1 (by omega)); unfold gW at z; omega)
            refine lv_iconst (v := iv 1) hx hb dX12_read_117 (by decide) ?_
            refine r_iadd hx hb dX12_read_118 ?_
            refine p_X12_315 Cx hW hL (k := 231) (by decide) rfl dX12_read_119 (fun H locs hW hL => ?_)
            have F_38 : Fr S (uF S96 231 24 ((S96.1 231 24) + 1)) (pl [231]) := hFm96.F rfl
            have F_39 : Fr S (uF S96 231 24 ((S96.1 231 24) + 1)) (pl [231]) := hFL8596.F rfl
            have F_40 : Fr u_11 (uF S96 231 24 ((S96.1 231 24) + 1)) (pl [231]) := hL96_.F rfl
            have g_41 : FF S (uF S96 231 24 ((S96.1 231 24) + 1)) (fl [20, 21, 24]) := FF.F hGm96 rfl
            have g_42 : FF S (uF S96 231 24 ((S96.1 231 24) + 1)) (fl [20, 21, 24]) := FF.F hGL8596 rfl
            have g_43 : FF u_11 (uF S96 231 24 ((S96.1 231 24) + 1)) (fl [20, 21, 24]) := FF.F gL96_ rfl
            have i_44 : dX G (uF S96 231 24 ((S96.1 231 24) + 1)) := hI96.F (i := 24) (show (-2147483648) ≤ (S96.1 231 24) + 1 ∧ (S96.1 231 24) + 1 ≤ 2147483647 from ⟨by omega, by omega⟩)
            have join_175 : ∀ (S175 : sS)  (H : Heap) (locs : List Loc) (ls : Array Slot), (dX G S175) → (Fr S S175 (pl [231])) → (Fr S S175 (pl [231])) → (Fr u_11 S175 (pl [231])) → (Fr ((uF S96 231 24 ((S96.1 231 24) + 1))) S175 (pl [231])) → (FF S S175 (fl [20, 21, 24])) → (FF S S175 (fl [20, 21, 24])) → (FF u_11 S175 (fl [20, 21, 24])) → (FF ((uF S96 231 24 ((S96.1 231 24) + 1))) S175 (fl [20, 21, 24])) → (Hd (S175.1 231 20 = 0 → 0 ≤ S175.1 231 24 ∧ S175.1 231 24 ≤ T - 1)) → (Hd (S175.1 231 20 = 0 → S96.1 231 20 = 0 ∧ S96.1 231 24 < S175.1 231 24 ∧ ∃ a, gk K 1 (S96.1 231 24 + 1) a ∧ gRi K V a (S175.1 231 24))) → sW G 294 S175 H → sL G locs → lv_has ls 1 [(0, .ref (G.2.2.1 + 231))] → W p l e (rmk 101 0 0) s m args below meth c H locs 0 0 (MQ below (sQv G 294 (fun u => dX G u ∧ Fr S u (pl [231]) ∧ FF S u (fl [20, 21, 24]) ∧ (Hd (u.1 231 20 = 0 → gPtE K V T)))) args s 0 0 (sF G)) (F0 m 175 ls []) := by
              intro S175  H locs ls hI175 hFm175 hFL85175 hFL96175 hL175_ hGm175 hGL85175 hGL96175 gL175_ hcu175 hH175 hW hL hl
              refine lv_aload_n hx hb dX12_read_175 rfl (lv_at hl 0 rfl) ?_
              refine lv_bipush (v := iv 58) hx hb dX12_read_176 (by decide) ?_
              have q_45 : (-2147483648) ≤ S175.1 231 24 ∧ S175.1 231 24 ≤ 2147483647 := hI175.fi 24
              have q_46 : (-2147483648) ≤ S175.1 231 20 ∧ S175.1 231 20 ≤ 2147483647 := hI175.fi 20
              refine sBv (sV (As := [.int (iv 58)]) (rest := []) (k := 231) Cx (s_X12_want l G S175 (sv := 58) (K := K) (V := V) (T := T) (pz := S175.1 231 24) hI175 (by omega) ((funext fun j => ((hL175_ 244 rfl).2.1 j).trans ((uF_a).trans (((hL96_ 244 rfl).2.1 j).trans (((fu_11 244 rfl).2.1 j).trans (((fu_3 244 rfl).2.1 j).trans ((hL85_ 244 rfl).2.1 j))))) : S175.2.1 244 = S.2.1 244).trans hK) ((funext fun j => ((hL175_ 247 rfl).2.1 j).trans ((uF_a).trans (((hL96_ 247 rfl).2.1 j).trans (((fu_11 247 rfl).2.1 j).trans (((fu_3 247 rfl).2.1 j).trans ((hL85_ 247 rfl).2.1 j))))) : S175.2.1 247 = S.2.1 247).trans hV) hE (by omega) (fun h => by have e8 := (show S175.1 231 20 = S175.1 231 20 from rfl); have a9 := hcu175 (by have e9 := (show S175.1 231 20 = S175.1 231 20 from rfl); omega); omega)) (c_X12_331 Cx rfl rfl (rmk_ok (by omega) (by decide))) hW (by decide) rfl rfl rfl hl.1 rfl (Nat.le_of_ble_eq_true rfl) dX12_read_178 ⟨Nat.le_of_ble_eq_true rfl, Nat.le_of_ble_eq_true rfl⟩) hL (fun u_47 H locs k_48 hW hL => ?_)
              obtain ⟨iu_47, fu_47, gu_47, xu_47⟩ := k_48
              have F_49 := hFm175.trans fu_47
              have F_50 := hFL85175.trans fu_47
              have F_51 := hFL96175.trans fu_47
              have F_52 := hL175_.trans fu_47
              have g_53 : FF S u_47 (fl [20, 21, 24]) := FF.trans hGm175 (FF.to gu_47 (fl_sub (by decide)))
              have g_54 : FF S u_47 (fl [20, 21, 24]) := FF.trans hGL85175 (FF.to gu_47 (fl_sub (by decide)))
              have g_55 : FF u_11 u_47 (fl [20, 21, 24]) := FF.trans hGL96175 (FF.to gu_47 (fl_sub (by decide)))
              have g_56 : FF ((uF S96 231 24 ((S96.1 231 24) + 1))) u_47 (fl [20, 21, 24]) := FF.trans gL175_ (FF.to gu_47 (fl_sub (by decide)))
              refine lv_aload_n hx hb dX12_read_181 rfl (lv_at hl 0 rfl) ?_
              refine lv_iconst (v := iv 0) hx hb dX12_read_182 (by decide) ?_
              have q_57 : (-2147483648) ≤ u_47.1 231 24 ∧ u_47.1 231 24 ≤ 2147483647 := iu_47.fi 24
              have q_58 : (-2147483648) ≤ u_47.1 231 20 ∧ u_47.1 231 20 ≤ 2147483647 := iu_47.fi 20
              refine sBv (sV (As := [.int (iv 0)]) (rest := []) (k := 231) Cx ((rd_all l G K V T hE 30).2.2 u_47 (u_47.1 231 24) 0 iu_47 ((funext fun j => ((fu_47 244 rfl).2.1 j).trans (((hL175_ 244 rfl).2.1 j).trans ((uF_a).trans (((hL96_ 244 rfl).2.1 j).trans (((fu_11 244 rfl).2.1 j).trans (((fu_3 244 rfl).2.1 j).trans ((hL85_ 244 rfl).2.1 j)))))) : u_47.2.1 244 = S.2.1 244).trans hK) ((funext fun j => ((fu_47 247 rfl).2.1 j).trans (((hL175_ 247 rfl).2.1 j).trans ((uF_a).trans (((hL96_ 247 rfl).2.1 j).trans (((fu_11 247 rfl).2.1 j).trans (((fu_3 247 rfl).2.1 j).trans ((hL85_ 247 rfl).2.1 j)))))) : u_47.2.1 247 = S.2.1 247).trans hV) (by omega) (fun h => by have e8 := (show u_47.1 231 20 = u_47.1 231 20 from rfl); have a9 := xu_47 (by have e9 := (show u_47.1 231 20 = u_47.1 231 20 from rfl); omega); omega) (by omega)) (c_X12_337 Cx rfl rfl (rmk_ok (by omega) (by decide))) hW (by decide) rfl rfl rfl hl.1 rfl (Nat.le_of_ble_eq_true rfl) dX12_read_183 ⟨Nat.le_of_ble_eq_true rfl, Nat.le_of_ble_eq_true rfl⟩) hL (fun u_59 H locs k_60 hW hL => ?_)
              obtain ⟨iu_59, fu_59, gu_59, xu_59⟩ := k_60
              have F_61 := F_49.trans fu_59
              have F_62 := F_50.trans fu_59
              have F_63 := F_51.trans fu_59
              have F_64 := F_52.trans fu_59
              have g_65 : FF S u_59 (fl [20, 21, 24]) := FF.trans g_53 (FF.to gu_59 (fl_sub (by decide)))
              have g_66 : FF S u_59 (fl [20, 21, 24]) := FF.trans g_54 (FF.to gu_59 (fl_sub (by decide)))
              have g_67 : FF u_11 u_59 (fl [20, 21, 24]) := FF.trans g_55 (FF.to gu_59 (fl_sub (by decide)))
              have g_68 : FF ((uF S96 231 24 ((S96.1 231 24) + 1))) u_59 (fl [20, 21, 24]) := FF.trans g_56 (FF.to gu_59 (fl_sub (by decide)))
              have join_237 : ∀ (S237 : sS)  (H : Heap) (locs : List Loc) (ls : Array Slot), (dX G S237) → (Fr S S237 (pl [231])) → (Fr S S237 (pl [231])) → (Fr u_11 S237 (pl [231])) → (Fr ((uF S96 231 24 ((S96.1 231 24) + 1))) S237 (pl [231])) → (Fr u_59 S237 (pl [231])) → (FF S S237 (fl [20, 21, 24])) → (FF S S237 (fl [20, 21, 24])) → (FF u_11 S237 (fl [20, 21, 24])) → (FF ((uF S96 231 24 ((S96.1 231 24) + 1))) S237 (fl [20, 21, 24])) → (FF u_59 S237 (fl [20, 21, 24])) → (Hd (S237.1 231 20 = 0 → 0 ≤ S237.1 231 24 ∧ S237.1 231 24 ≤ T - 1)) → (Hd (S237.1 231 20 = 0 → u_59.1 231 20 = 0 ∧ (gS K V (u_59.1 231 24) 2 ∨ gS K V (u_59.1 231 24) 3 ∨ gS K V (u_59.1 231 24) 61) ∧ S237.1 231 24 = u_59.1 231 24 + 1)) → sW G 294 S237 H → sL G locs → lv_has ls 1 [(0, .ref (G.2.2.1 + 231))] → W p l e (rmk 101 0 0) s m args below meth c H locs 0 0 (MQ below (sQv G 294 (fun u => dX G u ∧ Fr S u (pl [231]) ∧ FF S u (fl [20, 21, 24]) ∧ (Hd (u.1 231 20 = 0 → gPtE K V T)))) args s 0 0 (sF G)) (F0 m 237 ls []) := by
                intro S237  H locs ls hI237 hFm237 hFL85237 hFL96237 hFL175237 hL237_ hGm237 hGL85237 hGL96237 hGL175237 gL237_ hcu237 hH237 hW hL hl
                refine lv_aload_n hx hb dX12_read_237 rfl (lv_at hl 0 rfl) ?_
                refine lv_iconst (v := iv 0) hx hb dX12_read_238 (by decide) ?_
                have q_69 : (-2147483648) ≤ S237.1 231 24 ∧ S237.1 231 24 ≤ 2147483647 := hI237.fi 24
                have q_70 : (-2147483648) ≤ S237.1 231 20 ∧ S237.1 231 20 ≤ 2147483647 := hI237.fi 20
                refine sBv (sV (As := [.int (iv 0)]) (rest := []) (k := 231) Cx ((rd_all l G K V T hE 30).2.2 S237 (S237.1 231 24) 0 hI237 ((funext fun j => ((hL237_ 244 rfl).2.1 j).trans (((fu_59 244 rfl).2.1 j).trans (((fu_47 244 rfl).2.1 j).trans (((hL175_ 244 rfl).2.1 j).trans ((uF_a).trans (((hL96_ 244 rfl).2.1 j).trans (((fu_11 244 rfl).2.1 j).trans (((fu_3 244 rfl).2.1 j).trans ((hL85_ 244 rfl).2.1 j)))))))) : S237.2.1 244 = S.2.1 244).trans hK) ((funext fun j => ((hL237_ 247 rfl).2.1 j).trans (((fu_59 247 rfl).2.1 j).trans (((fu_47 247 rfl).2.1 j).trans (((hL175_ 247 rfl).2.1 j).trans ((uF_a).trans (((hL96_ 247 rfl).2.1 j).trans (((fu_11 247 rfl).2.1 j).trans (((fu_3 247 rfl).2.1 j).trans ((hL85_ 247 rfl).2.1 j)))))))) : S237.2.1 247 = S.2.1 247).trans hV) (by omega) (fun h => by have e8 := (show S237.1 231 20 = S237.1 231 20 from rfl); have a9 := hcu237 (by have e9 := (show S237.1 231 20 = S237.1 231 20 from rfl); omega); omega) (by omega)) (c_X12_337 Cx rfl rfl (rmk_ok (by omega) (by decide))) hW (by decide) rfl rfl rfl hl.1 rfl (Nat.le_of_ble_eq_true rfl) dX12_read_239 ⟨Nat.le_of_ble_eq_true rfl, Nat.le_of_ble_eq_true rfl⟩) hL (fun u_71 H locs k_72 hW hL => ?_)
                obtain ⟨iu_71, fu_71, gu_71, xu_71⟩ := k_72
                have F_73 := hFm237.trans fu_71
                have F_74 := hFL85237.trans fu_71
                have F_75 := hFL96237.trans fu_71
                have F_76 := hFL175237.trans fu_71
                have F_77 := hL237_.trans fu_71
                have g_78 : FF S u_71 (fl [20, 21, 24]) := FF.trans hGm237 (FF.to gu_71 (fl_sub (by decide)))
                have g_79 : FF S u_71 (fl [20, 21, 24]) := FF.trans hGL85237 (FF.to gu_71 (fl_sub (by decide)))
                have g_80 : FF u_11 u_71 (fl [20, 21, 24]) := FF.trans hGL96237 (FF.to gu_71 (fl_sub (by decide)))
                have g_81 : FF ((uF S96 231 24 ((S96.1 231 24) + 1))) u_71 (fl [20, 21, 24]) := FF.trans hGL175237 (FF.to gu_71 (fl_sub (by decide)))
                have g_82 : FF u_59 u_71 (fl [20, 21, 24]) := FF.trans gL237_ (FF.to gu_71 (fl_sub (by decide)))
                refine lv_aload_n hx hb dX12_read_242 rfl (lv_at hl 0 rfl) ?_
                refine lv_bipush (v := iv 59) hx hb dX12_read_243 (by decide) ?_
                have q_83 : (-2147483648) ≤ u_71.1 231 24 ∧ u_71.1 231 24 ≤ 2147483647 := iu_71.fi 24
                have q_84 : (-2147483648) ≤ u_71.1 231 20 ∧ u_71.1 231 20 ≤ 2147483647 := iu_71.fi 20
                refine sBv (sV (As := [.int (iv 59)]) (rest := []) (k := 231) Cx (s_X12_want l G u_71 (sv := 59) (K := K) (V := V) (T := T) (pz := u_71.1 231 24) iu_71 (by omega) ((funext fun j => ((fu_71 244 rfl).2.1 j).trans (((hL237_ 244 rfl).2.1 j).trans (((fu_59 244 rfl).2.1 j).trans (((fu_47 244 rfl).2.1 j).trans (((hL175_ 244 rfl).2.1 j).trans ((uF_a).trans (((hL96_ 244 rfl).2.1 j).trans (((fu_11 244 rfl).2.1 j).trans (((fu_3 244 rfl).2.1 j).trans ((hL85_ 244 rfl).2.1 j))))))))) : u_71.2.1 244 = S.2.1 244).trans hK) ((funext fun j => ((fu_71 247 rfl).2.1 j).trans (((hL237_ 247 rfl).2.1 j).trans (((fu_59 247 rfl).2.1 j).trans (((fu_47 247 rfl).2.1 j).trans (((hL175_ 247 rfl).2.1 j).trans ((uF_a).trans (((hL96_ 247 rfl).2.1 j).trans (((fu_11 247 rfl).2.1 j).trans (((fu_3 247 rfl).2.1 j).trans ((hL85_ 247 rfl).2.1 j))))))))) : u_71.2.1 247 = S.2.1 247).trans hV) hE (by omega) (fun h => by have e8 := (show u_71.1 231 20 = u_71.1 231 20 from rfl); have a9 := xu_71 (by have e9 := (show u_71.1 231 20 = u_71.1 231 20 from rfl); omega); omega)) (c_X12_331 Cx rfl rfl (rmk_ok (by omega) (by decide))) hW (by decide) rfl rfl rfl hl.1 rfl (Nat.le_of_ble_eq_true rfl) dX12_read_245 ⟨Nat.le_of_ble_eq_true rfl, Nat.le_of_ble_eq_true rfl⟩) hL (fun u_85 H locs k_86 hW hL => ?_)
                obtain ⟨iu_85, fu_85, gu_85, xu_85⟩ := k_86
                have F_87 := F_73.trans fu_85
                have F_88 := F_74.trans fu_85
                have F_89 := F_75.trans fu_85
                have F_90 := F_76.trans fu_85
                have F_91 := F_77.trans fu_85
                have g_92 : FF S u_85 (fl [20, 21, 24]) := FF.trans g_78 (FF.to gu_85 (fl_sub (by decide)))
                have g_93 : FF S u_85 (fl [20, 21, 24]) := FF.trans g_79 (FF.to gu_85 (fl_sub (by decide)))
                have g_94 : FF u_11 u_85 (fl [20, 21, 24]) := FF.trans g_80 (FF.to gu_85 (fl_sub (by decide)))
                have g_95 : FF ((uF S96 231 24 ((S96.1 231 24) + 1))) u_85 (fl [20, 21, 24]) := FF.trans g_81 (FF.to gu_85 (fl_sub (by decide)))
                have g_96 : FF u_59 u_85 (fl [20, 21, 24]) := FF.trans g_82 (FF.to gu_85 (fl_sub (by decide)))
                refine lv_goto (tgt := 96) hx hb dX12_read_248 (by decide) ?_
                have q_97 : (-2147483648) ≤ u_85.1 231 20 ∧ u_85.1 231 20 ≤ 2147483647 := iu_85.fi 20
                have q_98 : (-2147483648) ≤ u_85.1 231 24 ∧ u_85.1 231 24 ≤ 2147483647 := iu_85.fi 24
                exact ih_96 u_85  _ _ _ (Nat.lt_of_lt_of_le (mf_lt (S := S96) (by omega) (by omega) (fun h => by have au_85 := xu_85 (by have e9 := (show u_85.1 231 20 = u_85.1 231 20 from rfl); omega); have au_71 := xu_71 au_85.1; have aS237 := hH237 au_71.1; have au_59 := xu_59 aS237.1; have au_47 := xu_47 au_59.1; have aS175 := hH175 au_47.1; omega)) (Nat.le_of_lt_succ hmeas)) iu_85 F_87 F_88 F_89 g_92 g_93 g_94 (fun h => by have e8 := (show u_85.1 231 20 = u_85.1 231 20 from rfl); have e7 := (show u_85.1 231 24 = u_85.1 231 24 from rfl); have a9 := xu_85 (by have e9 := (show u_85.1 231 20 = u_85.1 231 20 from rfl); omega); omega) (fun h => by have au_85 := xu_85 (by have e9 := (show u_85.1 231 20 = u_85.1 231 20 from rfl); omega); have au_71 := xu_71 au_85.1; have aS237 := hH237 au_71.1; have au_59 := xu_59 aS237.1; have au_47 := xu_47 au_59.1; have aS175 := hH175 au_47.1; exact ⟨(hH96 (by omega)).1, fun q t => (hH96 (by omega)).2 q (gTl.cons (xu_21.2.1 (by omega)) ⟨_, (aS175.2.2.choose_spec).1, _, (aS175.2.2.choose_spec).2, _, au_47.2.1, _, au_59.2.1, aS237.2.1, _, (by rw [← aS237.2.2]; exact au_71.2.1), au_85.2.1⟩ t)⟩) hW hL (lv_sub hl [0] rfl)
              refine lv_aload_n hx hb dX12_read_186 rfl (lv_at hl 0 rfl) ?_
              have q_99 : (-2147483648) ≤ u_59.1 231 20 ∧ u_59.1 231 20 ≤ 2147483647 := iu_59.fi 20
              refine g_X12_270 Cx hW (k := 231) (by decide) rfl (v := u_59.1 231 20) rfl dX12_read_187 ?_
              refine r_if_ne (tgt := 227) hx hb ⟨(by omega), (by omega)⟩ dX12_read_190 (by decide) (fun c_100 => ?_) (fun c_100 => ?_)
              · refine lv_aload_n hx hb dX12_read_227 rfl (lv_at hl 0 rfl) ?_
                refine lv_dup hx hb dX12_read_228 rfl ?_
                have q_101 : (-2147483648) ≤ u_59.1 231 24 ∧ u_59.1 231 24 ≤ 2147483647 := iu_59.fi 24
                refine g_X12_315 Cx hW (k := 231) (by decide) rfl (v := u_59.1 231 24) rfl dX12_read_229 ?_
                refine lv_iconst (v := iv 1) hx hb dX12_read_232 (by decide) ?_
                refine r_iadd hx hb dX12_read_233 ?_
                obtain ⟨z_102, ez_102, hz_102, kz_102⟩ := iv_of (iv ((u_59.1 231 24) + 1))
                rw [ez_102]
                refine p_X12_315 Cx hW hL (k := 231) (by decide) rfl dX12_read_234 (fun H locs hW hL => ?_)
                have F_103 : Fr S (uF u_59 231 24 z_102) (pl [231]) := F_61.F rfl
                have F_104 : Fr S (uF u_59 231 24 z_102) (pl [231]) := F_62.F rfl
                have F_105 : Fr u_11 (uF u_59 231 24 z_102) (pl [231]) := F_63.F rfl
                have F_106 : Fr ((uF S96 231 24 ((S96.1 231 24) + 1))) (uF u_59 231 24 z_102) (pl [231]) := F_64.F rfl
                have F_107 : Fr u_59 (uF u_59 231 24 z_102) (pl [231]) := (Fr.rf : Fr u_59 u_59 (pl [231])).F rfl
                have g_108 : FF S (uF u_59 231 24 z_102) (fl [20, 21, 24]) := FF.F g_65 rfl
                have g_109 : FF S (uF u_59 231 24 z_102) (fl [20, 21, 24]) := FF.F g_66 rfl
                have g_110 : FF u_11 (uF u_59 231 24 z_102) (fl [20, 21, 24]) := FF.F g_67 rfl
                have g_111 : FF ((uF S96 231 24 ((S96.1 231 24) + 1))) (uF u_59 231 24 z_102) (fl [20, 21, 24]) := FF.F g_68 rfl
                have g_112 : FF u_59 (uF u_59 231 24 z_102) (fl [20, 21, 24]) := FF.F (FF.rf : FF u_59 u_59 (fl [20, 21, 24])) rfl
                have i_113 : dX G (uF u_59 231 24 z_102) := iu_59.F (i := 24) (show (-2147483648) ≤ z_102 ∧ z_102 ≤ 2147483647 from ⟨by omega, by omega⟩)
                have lk_114 : (uF u_59 231 24 z_102).1 231 20 = u_59.1 231 20 := uF_ne (fun h => absurd h.2 (by decide))
                have lk_115 : (uF u_59 231 24 z_102).1 231 24 = z_102 := uF_on
                exact join_237 (uF u_59 231 24 z_102)  _ _ _ i_113 F_103 F_104 F_105 F_106 F_107 g_108 g_109 g_110 g_111 g_112 (fun h => by have e8 := (show (uF u_59 231 24 z_102).1 231 20 = u_59.1 231 20 from uF_ne (fun h => absurd h.2 (by decide))); have e7 := (show (uF u_59 231 24 z_102).1 231 24 = z_102 from uF_on); have a9 := xu_59 (by have e9 := (show (uF u_59 231 24 z_102).1 231 20 = u_59.1 231 20 from uF_ne (fun h => absurd h.2 (by decide))); omega); omega) (fun h => absurd h (by have e9 := (show (uF u_59 231 24 z_102).1 231 20 = u_59.1 231 20 from uF_ne (fun h => absurd h.2 (by decide))); omega)) hW hL (lv_sub hl [0] rfl)
              · have b_116 := xu_59 (by have e9 := (show u_59.1 231 20 = u_59.1 231 20 from rfl); omega)
                refine lv_aload_n hx hb dX12_read_193 rfl (lv_at hl 0 rfl) ?_
                refine lv_iconst (v := iv 2) hx hb dX12_read_194 (by decide) ?_
                have q_117 : (-2147483648) ≤ u_59.1 231 24 ∧ u_59.1 231 24 ≤ 2147483647 := iu_59.fi 24
                refine sBi (sV (As := [.int (iv 2)]) (rest := []) (k := 231) Cx (s_X12_isSign l G u_59 (sv := 2) (K := K) (V := V) (pz := u_59.1 231 24) iu_59 (by omega) ((funext fun j => ((fu_59 244 rfl).2.1 j).trans (((fu_47 244 rfl).2.1 j).trans (((hL175_ 244 rfl).2.1 j).trans ((uF_a).trans (((hL96_ 244 rfl).2.1 j).trans (((fu_11 244 rfl).2.1 j).trans (((fu_3 244 rfl).2.1 j).trans ((hL85_ 244 rfl).2.1 j))))))) : u_59.2.1 244 = S.2.1 244).trans hK) ((funext fun j => ((fu_59 247 rfl).2.1 j).trans (((fu_47 247 rfl).2.1 j).trans (((hL175_ 247 rfl).2.1 j).trans ((uF_a).trans (((hL96_ 247 rfl).2.1 j).trans (((fu_11 247 rfl).2.1 j).trans (((fu_3 247 rfl).2.1 j).trans ((hL85_ 247 rfl).2.1 j))))))) : u_59.2.1 247 = S.2.1 247).trans hV) (by omega) (by omega)) (c_X12_318 Cx rfl rfl (rmk_ok (by omega) (by decide))) hW (by decide) rfl rfl rfl hl.1 rfl (Nat.le_of_ble_eq_true rfl) dX12_read_195 ⟨Nat.le_of_ble_eq_true rfl, Nat.le_of_ble_eq_true rfl⟩) hL (fun r_120 u_118 H locs k_119 hW hL => ?_)
                obtain ⟨eu_118, xu_118⟩ := k_119
                rw [eu_118] at hW
                refine r_if_ne (tgt := 227) hx hb ⟨(by omega), (by omega)⟩ dX12_read_198 (by decide) (fun c_121 => ?_) (fun c_121 => ?_)
                · refine lv_aload_n hx hb dX12_read_227 rfl (lv_at hl 0 rfl) ?_
                  refine lv_dup hx hb dX12_read_228 rfl ?_
                  refine g_X12_315 Cx hW (k := 231) (by decide) rfl (v := u_59.1 231 24) rfl dX12_read_229 ?_
                  have n_122 := hE.nx (pz := u_59.1 231 24) (by omega) (by have z := (xu_118.2.1 (by omega)); unfold gS at z; omega)
                  refine lv_iconst (v := iv 1) hx hb dX12_read_232 (by decide) ?_
                  refine r_iadd hx hb dX12_read_233 ?_
                  refine p_X12_315 Cx hW hL (k := 231) (by decide) rfl dX12_read_234 (fun H locs hW hL => ?_)
                  have F_123 : Fr S (uF u_59 231 24 ((u_59.1 231 24) + 1)) (pl [231]) := F_61.F rfl
                  have F_124 : Fr S (uF u_59 231 24 ((u_59.1 231 24) + 1)) (pl [231]) := F_62.F rfl
                  have F_125 : Fr u_11 (uF u_59 231 24 ((u_59.1 231 24) + 1)) (pl [231]) := F_63.F rfl
                  have F_126 : Fr ((uF S96 231 24 ((S96.1 231 24) + 1))) (uF u_59 231 24 ((u_59.1 231 24) + 1)) (pl [231]) := F_64.F rfl
                  have F_127 : Fr u_59 (uF u_59 231 24 ((u_59.1 231 24) + 1)) (pl [231]) := (Fr.rf : Fr u_59 u_59 (pl [231])).F rfl
                  have g_128 : FF S (uF u_59 231 24 ((u_59.1 231 24) + 1)) (fl [20, 21, 24]) := FF.F g_65 rfl
                  have g_129 : FF S (uF u_59 231 24 ((u_59.1 231 24) + 1)) (fl [20, 21, 24]) := FF.F g_66 rfl
                  have g_130 : FF u_11 (uF u_59 231 24 ((u_59.1 231 24) + 1)) (fl [20, 21, 24]) := FF.F g_67 rfl
                  have g_131 : FF ((uF S96 231 24 ((S96.1 231 24) + 1))) (uF u_59 231 24 ((u_59.1 231 24) + 1)) (fl [20, 21, 24]) := FF.F g_68 rfl
                  have g_132 : FF u_59 (uF u_59 231 24 ((u_59.1 231 24) + 1)) (fl [20, 21, 24]) := FF.F (FF.rf : FF u_59 u_59 (fl [20, 21, 24])) rfl
                  have i_133 : dX G (uF u_59 231 24 ((u_59.1 231 24) + 1)) := iu_59.F (i := 24) (show (-2147483648) ≤ (u_59.1 231 24) + 1 ∧ (u_59.1 231 24) + 1 ≤ 2147483647 from ⟨by omega, by omega⟩)
                  have lk_134 : (uF u_59 231 24 ((u_59.1 231 24) + 1)).1 231 20 = u_59.1 231 20 := uF_ne (fun h => absurd h.2 (by decide))
                  have lk_135 : (uF u_59 231 24 ((u_59.1 231 24) + 1)).1 231 24 = (u_59.1 231 24) + 1 := uF_on
                  exact join_237 (uF u_59 231 24 ((u_59.1 231 24) + 1))  _ _ _ i_133 F_123 F_124 F_125 F_126 F_127 g_128 g_129 g_130 g_131 g_132 (fun h => by have e8 := (show (uF u_59 231 24 ((u_59.1 231 24) + 1)).1 231 20 = u_59.1 231 20 from uF_ne (fun h => absurd h.2 (by decide))); have e7 := (show (uF u_59 231 24 ((u_59.1 231 24) + 1)).1 231 24 = (u_59.1 231 24) + 1 from uF_on); have a9 := xu_59 (by have e9 := (show (uF u_59 231 24 ((u_59.1 231 24) + 1)).1 231 20 = u_59.1 231 20 from uF_ne (fun h => absurd h.2 (by decide))); omega); omega) (fun h => ⟨(by have e9 := (show (uF u_59 231 24 ((u_59.1 231 24) + 1)).1 231 20 = u_59.1 231 20 from uF_ne (fun h => absurd h.2 (by decide))); omega), .inl (xu_118.2.1 (by omega)), (by have e7 := (show (uF u_59 231 24 ((u_59.1 231 24) + 1)).1 231 24 = (u_59.1 231 24) + 1 from uF_on); omega)⟩) hW hL (lv_sub hl [0] rfl)
                · refine lv_aload_n hx hb dX12_read_201 rfl (lv_at hl 0 rfl) ?_
                  refine lv_iconst (v := iv 3) hx hb dX12_read_202 (by decide) ?_
                  refine sBi (sV (As := [.int (iv 3)]) (rest := []) (k := 231) Cx (s_X12_isSign l G u_59 (sv := 3) (K := K) (V := V) (pz := u_59.1 231 24) iu_59 (by omega) ((funext fun j => ((fu_59 244 rfl).2.1 j).trans (((fu_47 244 rfl).2.1 j).trans (((hL175_ 244 rfl).2.1 j).trans ((uF_a).trans (((hL96_ 244 rfl).2.1 j).trans (((fu_11 244 rfl).2.1 j).trans (((fu_3 244 rfl).2.1 j).trans ((hL85_ 244 rfl).2.1 j))))))) : u_59.2.1 244 = S.2.1 244).trans hK) ((funext fun j => ((fu_59 247 rfl).2.1 j).trans (((fu_47 247 rfl).2.1 j).trans (((hL175_ 247 rfl).2.1 j).trans ((uF_a).trans (((hL96_ 247 rfl).2.1 j).trans (((fu_11 247 rfl).2.1 j).trans (((fu_3 247 rfl).2.1 j).trans ((hL85_ 247 rfl).2.1 j))))))) : u_59.2.1 247 = S.2.1 247).trans hV) (by omega) (by omega)) (c_X12_318 Cx rfl rfl (rmk_ok (by omega) (by decide))) hW (by decide) rfl rfl rfl hl.1 rfl (Nat.le_of_ble_eq_true rfl) dX12_read_203 ⟨Nat.le_of_ble_eq_true rfl, Nat.le_of_ble_eq_true rfl⟩) hL (fun r_138 u_136 H locs k_137 hW hL => ?_)
                  obtain ⟨eu_136, xu_136⟩ := k_137
                  rw [eu_136] at hW
                  refine r_if_ne (tgt := 227) hx hb ⟨(by omega), (by omega)⟩ dX12_read_206 (by decide) (fun c_139 => ?_) (fun c_139 => ?_)
                  · refine lv_aload_n hx hb dX12_read_227 rfl (lv_at hl 0 rfl) ?_
                    refine lv_dup hx hb dX12_read_228 rfl ?_
                    refine g_X12_315 Cx hW (k := 231) (by decide) rfl (v := u_59.1 231 24) rfl dX12_read_229 ?_
                    have n_140 := hE.nx (pz := u_59.1 231 24) (by omega) (by have z := (xu_136.2.1 (by omega)); unfold gS at z; omega)
                    refine lv_iconst (v := iv 1) hx hb dX12_read_232 (by decide) ?_
                    refine r_iadd hx hb dX12_read_233 ?_
                    refine p_X12_315 Cx hW hL (k := 231) (by decide) rfl dX12_read_234 (fun H locs hW hL => ?_)
                    have F_141 : Fr S (uF u_59 231 24 ((u_59.1 231 24) + 1)) (pl [231]) := F_61.F rfl
                    have F_142 : Fr S (uF u_59 231 24 ((u_59.1 231 24) + 1)) (pl [231]) := F_62.F rfl
                    have F_143 : Fr u_11 (uF u_59 231 24 ((u_59.1 231 24) + 1)) (pl [231]) := F_63.F rfl
                    have F_144 : Fr ((uF S96 231 24 ((S96.1 231 24) + 1))) (uF u_59 231 24 ((u_59.1 231 24) + 1)) (pl [231]) := F_64.F rfl
                    have F_145 : Fr u_59 (uF u_59 231 24 ((u_59.1 231 24) + 1)) (pl [231]) := (Fr.rf : Fr u_59 u_59 (pl [231])).F rfl
                    have g_146 : FF S (uF u_59 231 24 ((u_59.1 231 24) + 1)) (fl [20, 21, 24]) := FF.F g_65 rfl
                    have g_147 : FF S (uF u_59 231 24 ((u_59.1 231 24) + 1)) (fl [20, 21, 24]) := FF.F g_66 rfl
                    have g_148 : FF u_11 (uF u_59 231 24 ((u_59.1 231 24) + 1)) (fl [20, 21, 24]) := FF.F g_67 rfl
                    have g_149 : FF ((uF S96 231 24 ((S96.1 231 24) + 1))) (uF u_59 231 24 ((u_59.1 231 24) + 1)) (fl [20, 21, 24]) := FF.F g_68 rfl
                    have g_150 : FF u_59 (uF u_59 231 24 ((u_59.1 231 24) + 1)) (fl [20, 21, 24]) := FF.F (FF.rf : FF u_59 u_59 (fl [20, 21, 24])) rfl
                    have i_151 : dX G (uF u_59 231 24 ((u_59.1 231 24) + 1)) := iu_59.F (i := 24) (show (-2147483648) ≤ (u_59.1 231 24) + 1 ∧ (u_59.1 231 24) + 1 ≤ 2147483647 from ⟨by omega, by omega⟩)
                    have lk_152 : (uF u_59 231 24 ((u_59.1 231 24) + 1)).1 231 20 = u_59.1 231 20 := uF_ne (fun h => absurd h.2 (by decide))
                    have lk_153 : (uF u_59 231 24 ((u_59.1 231 24) + 1)).1 231 24 = (u_59.1 231 24) + 1 := uF_on
                    exact join_237 (uF u_59 231 24 ((u_59.1 231 24) + 1))  _ _ _ i_151 F_141 F_142 F_143 F_144 F_145 g_146 g_147 g_148 g_149 g_150 (fun h => by have e8 := (show (uF u_59 231 24 ((u_59.1 231 24) + 1)).1 231 20 = u_59.1 231 20 from uF_ne (fun h => absurd h.2 (by decide))); have e7 := (show (uF u_59 231 24 ((u_59.1 231 24) + 1)).1 231 24 = (u_59.1 231 24) + 1 from uF_on); have a9 := xu_59 (by have e9 := (show (uF u_59 231 24 ((u_59.1 231 24) + 1)).1 231 20 = u_59.1 231 20 from uF_ne (fun h => absurd h.2 (by decide))); omega); omega) (fun h => ⟨(by have e9 := (show (uF u_59 231 24 ((u_59.1 231 24) + 1)).1 231 20 = u_59.1 231 20 from uF_ne (fun h => absurd h.2 (by decide))); omega), .inr (.inl (xu_136.2.1 (by omega))), (by have e7 := (show (uF u_59 231 24 ((u_59.1 231 24) + 1)).1 231 24 = (u_59.1 231 24) + 1 from uF_on); omega)⟩) hW hL (lv_sub hl [0] rfl)
                  · refine lv_aload_n hx hb dX12_read_209 rfl (lv_at hl 0 rfl) ?_
                    refine lv_bipush (v := iv 61) hx hb dX12_read_210 (by decide) ?_
                    refine sBi (sV (As := [.int (iv 61)]) (rest := []) (k := 231) Cx (s_X12_isSign l G u_59 (sv := 61) (K := K) (V := V) (pz := u_59.1 231 24) iu_59 (by omega) ((funext fun j => ((fu_59 244 rfl).2.1 j).trans (((fu_47 244 rfl).2.1 j).trans (((hL175_ 244 rfl).2.1 j).trans ((uF_a).trans (((hL96_ 244 rfl).2.1 j).trans (((fu_11 244 rfl).2.1 j).trans (((fu_3 244 rfl).2.1 j).trans ((hL85_ 244 rfl).2.1 j))))))) : u_59.2.1 244 = S.2.1 244).trans hK) ((funext fun j => ((fu_59 247 rfl).2.1 j).trans (((fu_47 247 rfl).2.1 j).trans (((hL175_ 247 rfl).2.1 j).trans ((uF_a).trans (((hL96_ 247 rfl).2.1 j).trans (((fu_11 247 rfl).2.1 j).trans (((fu_3 247 rfl).2.1 j).trans ((hL85_ 247 rfl).2.1 j))))))) : u_59.2.1 247 = S.2.1 247).trans hV) (by omega) (by omega)) (c_X12_318 Cx rfl rfl (rmk_ok (by omega) (by decide))) hW (by decide) rfl rfl rfl hl.1 rfl (Nat.le_of_ble_eq_true rfl) dX12_read_212 ⟨Nat.le_of_ble_eq_true rfl, Nat.le_of_ble_eq_true rfl⟩) hL (fun r_156 u_154 H locs k_155 hW hL => ?_)
                    obtain ⟨eu_154, xu_154⟩ := k_155
                    rw [eu_154] at hW
                    refine r_if_ne (tgt := 227) hx hb ⟨(by omega), (by omega)⟩ dX12_read_215 (by decide) (fun c_157 => ?_) (fun c_157 => ?_)
                    · refine lv_aload_n hx hb dX12_read_227 rfl (lv_at hl 0 rfl) ?_
                      refine lv_dup hx hb dX12_read_228 rfl ?_
                      refine g_X12_315 Cx hW (k := 231) (by decide) rfl (v := u_59.1 231 24) rfl dX12_read_229 ?_
                      have n_158 := hE.nx (pz := u_59.1 231 24) (by omega) (by have z := (xu_154.2.1 (by omega)); unfold gS at z; omega)
                      refine lv_iconst (v := iv 1) hx hb dX12_read_232 (by decide) ?_
                      refine r_iadd hx hb dX12_read_233 ?_
                      refine p_X12_315 Cx hW hL (k := 231) (by decide) rfl dX12_read_234 (fun H locs hW hL => ?_)
                      have F_159 : Fr S (uF u_59 231 24 ((u_59.1 231 24) + 1)) (pl [231]) := F_61.F rfl
                      have F_160 : Fr S (uF u_59 231 24 ((u_59.1 231 24) + 1)) (pl [231]) := F_62.F rfl
                      have F_161 : Fr u_11 (uF u_59 231 24 ((u_59.1 231 24) + 1)) (pl [231]) := F_63.F rfl
                      have F_162 : Fr ((uF S96 231 24 ((S96.1 231 24) + 1))) (uF u_59 231 24 ((u_59.1 231 24) + 1)) (pl [231]) := F_64.F rfl
                      have F_163 : Fr u_59 (uF u_59 231 24 ((u_59.1 231 24) + 1)) (pl [231]) := (Fr.rf : Fr u_59 u_59 (pl [231])).F rfl
                      have g_164 : FF S (uF u_59 231 24 ((u_59.1 231 24) + 1)) (fl [20, 21, 24]) := FF.F g_65 rfl
                      have g_165 : FF S (uF u_59 231 24 ((u_59.1 231 24) + 1)) (fl [20, 21, 24]) := FF.F g_66 rfl
                      have g_166 : FF u_11 (uF u_59 231 24 ((u_59.1 231 24) + 1)) (fl [20, 21, 24]) := FF.F g_67 rfl
                      have g_167 : FF ((uF S96 231 24 ((S96.1 231 24) + 1))) (uF u_59 231 24 ((u_59.1 231 24) + 1)) (fl [20, 21, 24]) := FF.F g_68 rfl
                      have g_168 : FF u_59 (uF u_59 231 24 ((u_59.1 231 24) + 1)) (fl [20, 21, 24]) := FF.F (FF.rf : FF u_59 u_59 (fl [20, 21, 24])) rfl
                      have i_169 : dX G (uF u_59 231 24 ((u_59.1 231 24) + 1)) := iu_59.F (i := 24) (show (-2147483648) ≤ (u_59.1 231 24) + 1 ∧ (u_59.1 231 24) + 1 ≤ 2147483647 from ⟨by omega, by omega⟩)
                      have lk_170 : (uF u_59 231 24 ((u_59.1 231 24) + 1)).1 231 20 = u_59.1 231 20 := uF_ne (fun h => absurd h.2 (by decide))
                      have lk_171 : (uF u_59 231 24 ((u_59.1 231 24) + 1)).1 231 24 = (u_59.1 231 24) + 1 := uF_on
                      exact join_237 (uF u_59 231 24 ((u_59.1 231 24) + 1))  _ _ _ i_169 F_159 F_160 F_161 F_162 F_163 g_164 g_165 g_166 g_167 g_168 (fun h => by have e8 := (show (uF u_59 231 24 ((u_59.1 231 24) + 1)).1 231 20 = u_59.1 231 20 from uF_ne (fun h => absurd h.2 (by decide))); have e7 := (show (uF u_59 231 24 ((u_59.1 231 24) + 1)).1 231 24 = (u_59.1 231 24) + 1 from uF_on); have a9 := xu_59 (by have e9 := (show (uF u_59 231 24 ((u_59.1 231 24) + 1)).1 231 20 = u_59.1 231 20 from uF_ne (fun h => absurd h.2 (by decide))); omega); omega) (fun h => ⟨(by have e9 := (show (uF u_59 231 24 ((u_59.1 231 24) + 1)).1 231 20 = u_59.1 231 20 from uF_ne (fun h => absurd h.2 (by decide))); omega), .inr (.inr (xu_154.2.1 (by omega))), (by have e7 := (show (uF u_59 231 24 ((u_59.1 231 24) + 1)).1 231 24 = (u_59.1 231 24) + 1 from uF_on); omega)⟩) hW hL (lv_sub hl [0] rfl)
                    · refine lv_aload_n hx hb dX12_read_218 rfl (lv_at hl 0 rfl) ?_
                      refine lv_iconst (v := iv 1) hx hb dX12_read_219 (by decide) ?_
                      refine lv_aload_n hx hb dX12_read_220 rfl (lv_at hl 0 rfl) ?_
                      refine g_X12_315 Cx hW (k := 231) (by decide) rfl (v := u_59.1 231 24) rfl dX12_read_221 ?_
                      refine sBv (sV (As := [.int (iv 1), .int (iv (u_59.1 231 24))]) (rest := []) (k := 231) Cx (s_X12_wrong l G u_59 (cd := 1) (tk := u_59.1 231 24) iu_59 (by omega) (by omega)) (c_X12_321 Cx rfl rfl (rmk_ok (by omega) (by decide))) hW (by decide) rfl rfl rfl hl.1 rfl (Nat.le_of_ble_eq_true rfl) dX12_read_224 ⟨Nat.le_of_ble_eq_true rfl, Nat.le_of_ble_eq_true rfl⟩) hL (fun u_172 H locs k_173 hW hL => ?_)
                      obtain ⟨iu_172, fu_172, gu_172, xu_172⟩ := k_173
                      have F_174 := F_61.trans fu_172
                      have F_175 := F_62.trans fu_172
                      have F_176 := F_63.trans fu_172
                      have F_177 := F_64.trans fu_172
                      have F_178 := (Fr.rf : Fr u_59 u_59 (pl [231])).trans fu_172
                      have g_179 : FF S u_172 (fl [20, 21, 24]) := FF.trans g_65 (FF.to gu_172 (fl_sub (by decide)))
                      have g_180 : FF S u_172 (fl [20, 21, 24]) := FF.trans g_66 (FF.to gu_172 (fl_sub (by decide)))
                      have g_181 : FF u_11 u_172 (fl [20, 21, 24]) := FF.trans g_67 (FF.to gu_172 (fl_sub (by decide)))
                      have g_182 : FF ((uF S96 231 24 ((S96.1 231 24) + 1))) u_172 (fl [20, 21, 24]) := FF.trans g_68 (FF.to gu_172 (fl_sub (by decide)))
                      have g_183 : FF u_59 u_172 (fl [20, 21, 24]) := FF.trans (FF.rf : FF u_59 u_59 (fl [20, 21, 24])) (FF.to gu_172 (fl_sub (by decide)))
                      refine lv_aload_n hx hb dX12_read_227 rfl (lv_at hl 0 rfl) ?_
                      refine lv_dup hx hb dX12_read_228 rfl ?_
                      refine g_X12_315 Cx hW (k := 231) (by decide) rfl (v := u_59.1 231 24) (gu_172 24 rfl) dX12_read_229 ?_
                      refine lv_iconst (v := iv 1) hx hb dX12_read_232 (by decide) ?_
                      refine r_iadd hx hb dX12_read_233 ?_
                      refine p_X12_315 Cx hW hL (k := 231) (by decide) rfl dX12_read_234 (fun H locs hW hL => ?_)
                      have F_184 : Fr S (uF u_172 231 24 ((u_59.1 231 24) + 1)) (pl [231]) := F_174.F rfl
                      have F_185 : Fr S (uF u_172 231 24 ((u_59.1 231 24) + 1)) (pl [231]) := F_175.F rfl
                      have F_186 : Fr u_11 (uF u_172 231 24 ((u_59.1 231 24) + 1)) (pl [231]) := F_176.F rfl
                      have F_187 : Fr ((uF S96 231 24 ((S96.1 231 24) + 1))) (uF u_172 231 24 ((u_59.1 231 24) + 1)) (pl [231]) := F_177.F rfl
                      have F_188 : Fr u_59 (uF u_172 231 24 ((u_59.1 231 24) + 1)) (pl [231]) := F_178.F rfl
                      have g_189 : FF S (uF u_172 231 24 ((u_59.1 231 24) + 1)) (fl [20, 21, 24]) := FF.F g_179 rfl
                      have g_190 : FF S (uF u_172 231 24 ((u_59.1 231 24) + 1)) (fl [20, 21, 24]) := FF.F g_180 rfl
                      have g_191 : FF u_11 (uF u_172 231 24 ((u_59.1 231 24) + 1)) (fl [20, 21, 24]) := FF.F g_181 rfl
                      have g_192 : FF ((uF S96 231 24 ((S96.1 231 24) + 1))) (uF u_172 231 24 ((u_59.1 231 24) + 1)) (fl [20, 21, 24]) := FF.F g_182 rfl
                      have g_193 : FF u_59 (uF u_172 231 24 ((u_59.1 231 24) + 1)) (fl [20, 21, 24]) := FF.F g_183 rfl
                      have i_194 : dX G (uF u_172 231 24 ((u_59.1 231 24) + 1)) := iu_172.F (i := 24) (show (-2147483648) ≤ (u_59.1 231 24) + 1 ∧ (u_59.1 231 24) + 1 ≤ 2147483647 from ⟨by omega, by omega⟩)
                      have q_195 : (-2147483648) ≤ u_172.1 231 20 ∧ u_172.1 231 20 ≤ 2147483647 := iu_172.fi 20
                      have lk_196 : (uF u_172 231 24 ((u_59.1 231 24) + 1)).1 231 20 = u_172.1 231 20 := uF_ne (fun h => absurd h.2 (by decide))
                      have lk_197 : (uF u_172 231 24 ((u_59.1 231 24) + 1)).1 231 24 = (u_59.1 231 24) + 1 := uF_on
                      exact join_237 (uF u_172 231 24 ((u_59.1 231 24) + 1))  _ _ _ i_194 F_184 F_185 F_186 F_187 F_188 g_189 g_190 g_191 g_192 g_193 (fun h => by have e8 := (show (uF u_172 231 24 ((u_59.1 231 24) + 1)).1 231 20 = u_172.1 231 20 from uF_ne (fun h => absurd h.2 (by decide))); have e7 := (show (uF u_172 231 24 ((u_59.1 231 24) + 1)).1 231 24 = (u_59.1 231 24) + 1 from uF_on); have a9 := xu_172; omega) (fun h => absurd h (by have e9 := (show (uF u_172 231 24 ((u_59.1 231 24) + 1)).1 231 20 = u_172.1 231 20 from uF_ne (fun h => absurd h.2 (by decide))); have a9 := xu_172; omega)) hW hL (lv_sub hl [0] rfl)
            refine lv_aload_n hx hb dX12_read_122 rfl (lv_at hl 0 rfl) ?_
            refine lv_iconst (v := iv 1) hx hb dX12_read_123 (by decide) ?_
            have lk_198 : (uF S96 231 24 ((S96.1 231 24) + 1)).1 231 24 = (S96.1 231 24) + 1 := uF_on
            have lk_199 : (uF S96 231 24 ((S96.1 231 24) + 1)).1 231 20 = S96.1 231 20 := uF_ne (fun h => absurd h.2 (by decide))
            refine sBv (sV (As := [.int (iv 1)]) (rest := []) (k := 231) Cx (s_X12_wantKind l G (uF S96 231 24 ((S96.1 231 24) + 1)) (k := 1) (K := K) (V := V) (T := T) (pz := (S96.1 231 24) + 1) i_44 (by omega) ((funext fun j => (uF_a).trans (((hL96_ 244 rfl).2.1 j).trans (((fu_11 244 rfl).2.1 j).trans (((fu_3 244 rfl).2.1 j).trans ((hL85_ 244 rfl).2.1 j)))) : (uF S96 231 24 ((S96.1 231 24) + 1)).2.1 244 = S.2.1 244).trans hK) ((funext fun j => (uF_a).trans (((hL96_ 247 rfl).2.1 j).trans (((fu_11 247 rfl).2.1 j).trans (((fu_3 247 rfl).2.1 j).trans ((hL85_ 247 rfl).2.1 j)))) : (uF S96 231 24 ((S96.1 231 24) + 1)).2.1 247 = S.2.1 247).trans hV) hE (by omega) (fun h => by have e8 := (show (uF S96 231 24 ((S96.1 231 24) + 1)).1 231 20 = S96.1 231 20 from uF_ne (fun h => absurd h.2 (by decide))); have a9 := hcu96 (by have e9 := (show (uF S96 231 24 ((S96.1 231 24) + 1)).1 231 20 = S96.1 231 20 from uF_ne (fun h => absurd h.2 (by decide))); omega); omega)) (c_X12_328 Cx rfl rfl (rmk_ok (by omega) (by decide))) hW (by decide) rfl rfl rfl hl.1 rfl (Nat.le_of_ble_eq_true rfl) dX12_read_124 ⟨Nat.le_of_ble_eq_true rfl, Nat.le_of_ble_eq_true rfl⟩) hL (fun u_200 H locs k_201 hW hL => ?_)
            obtain ⟨iu_200, fu_200, gu_200, xu_200⟩ := k_201
            have F_202 := F_38.trans fu_200
            have F_203 := F_39.trans fu_200
            have F_204 := F_40.trans fu_200
            have F_205 := (Fr.rf : Fr (uF S96 231 24 ((S96.1 231 24) + 1)) (uF S96 231 24 ((S96.1 231 24) + 1)) (pl [231])).trans fu_200
            have g_206 : FF S u_200 (fl [20, 21, 24]) := FF.trans g_41 (FF.to gu_200 (fl_sub (by decide)))
            have g_207 : FF S u_200 (fl [20, 21, 24]) := FF.trans g_42 (FF.to gu_200 (fl_sub (by decide)))
            have g_208 : FF u_11 u_200 (fl [20, 21, 24]) := FF.trans g_43 (FF.to gu_200 (fl_sub (by decide)))
            have g_209 : FF ((uF S96 231 24 ((S96.1 231 24) + 1))) u_200 (fl [20, 21, 24]) := FF.trans (FF.rf : FF ((uF S96 231 24 ((S96.1 231 24) + 1))) ((uF S96 231 24 ((S96.1 231 24) + 1))) (fl [20, 21, 24])) (FF.to gu_200 (fl_sub (by decide)))
            refine lv_aload_n hx hb dX12_read_127 rfl (lv_at hl 0 rfl) ?_
            have q_210 : (-2147483648) ≤ u_200.1 231 20 ∧ u_200.1 231 20 ≤ 2147483647 := iu_200.fi 20
            refine g_X12_270 Cx hW (k := 231) (by decide) rfl (v := u_200.1 231 20) rfl dX12_read_128 ?_
            refine r_if_ne (tgt := 175) hx hb ⟨(by omega), (by omega)⟩ dX12_read_131 (by decide) (fun c_211 => ?_) (fun c_211 => ?_)
            · have q_212 : (-2147483648) ≤ u_200.1 231 24 ∧ u_200.1 231 24 ≤ 2147483647 := iu_200.fi 24
              exact join_175 u_200  _ _ _ iu_200 F_202 F_203 F_204 F_205 g_206 g_207 g_208 g_209 (fun h => by have e8 := (show u_200.1 231 20 = u_200.1 231 20 from rfl); have e7 := (show u_200.1 231 24 = u_200.1 231 24 from rfl); have a9 := xu_200 (by have e9 := (show u_200.1 231 20 = u_200.1 231 20 from rfl); omega); omega) (fun h => by have e8 := (show u_200.1 231 20 = u_200.1 231 20 from rfl); exfalso; omega) hW hL (lv_sub hl [0] rfl)
            · have b_213 := xu_200 (by have e9 := (show u_200.1 231 20 = u_200.1 231 20 from rfl); omega)
              refine lv_aload_n hx hb dX12_read_134 rfl (lv_at hl 0 rfl) ?_
              refine lv_bipush (v := iv 91) hx hb dX12_read_135 (by decide) ?_
              have q_214 : (-2147483648) ≤ u_200.1 231 24 ∧ u_200.1 231 24 ≤ 2147483647 := iu_200.fi 24
              refine sBi (sV (As := [.int (iv 91)]) (rest := []) (k := 231) Cx (s_X12_isSign l G u_200 (sv := 91) (K := K) (V := V) (pz := u_200.1 231 24) iu_200 (by omega) ((funext fun j => ((fu_200 244 rfl).2.1 j).trans ((uF_a).trans (((hL96_ 244 rfl).2.1 j).trans (((fu_11 244 rfl).2.1 j).trans (((fu_3 244 rfl).2.1 j).trans ((hL85_ 244 rfl).2.1 j))))) : u_200.2.1 244 = S.2.1 244).trans hK) ((funext fun j => ((fu_200 247 rfl).2.1 j).trans ((uF_a).trans (((hL96_ 247 rfl).2.1 j).trans (((fu_11 247 rfl).2.1 j).trans (((fu_3 247 rfl).2.1 j).trans ((hL85_ 247 rfl).2.1 j))))) : u_200.2.1 247 = S.2.1 247).trans hV) (by omega) (by omega)) (c_X12_318 Cx rfl rfl (rmk_ok (by omega) (by decide))) hW (by decide) rfl rfl rfl hl.1 rfl (Nat.le_of_ble_eq_true rfl) dX12_read_137 ⟨Nat.le_of_ble_eq_true rfl, Nat.le_of_ble_eq_true rfl⟩) hL (fun r_217 u_215 H locs k_216 hW hL => ?_)
              obtain ⟨eu_215, xu_215⟩ := k_216
              rw [eu_215] at hW
              refine r_if_eq (tgt := 175) hx hb ⟨(by omega), (by omega)⟩ dX12_read_140 (by decide) (fun c_218 => ?_) (fun c_218 => ?_)
              · exact join_175 u_200  _ _ _ iu_200 F_202 F_203 F_204 F_205 g_206 g_207 g_208 g_209 (fun h => by have e8 := (show u_200.1 231 20 = u_200.1 231 20 from rfl); have e7 := (show u_200.1 231 24 = u_200.1 231 24 from rfl); have a9 := xu_200 (by have e9 := (show u_200.1 231 20 = u_200.1 231 20 from rfl); omega); omega) (fun h => by have e8 := (show u_200.1 231 20 = u_200.1 231 20 from rfl); have e7 := (show u_200.1 231 24 = u_200.1 231 24 from rfl); have au_200 := xu_200 (by have e9 := (show u_200.1 231 20 = u_200.1 231 20 from rfl); omega); exact ⟨by omega, by omega, _, au_200.2.1, .inl ⟨(xu_215.2.2 (by omega)), by omega⟩⟩) hW hL (lv_sub hl [0] rfl)
              · refine lv_aload_n hx hb dX12_read_143 rfl (lv_at hl 0 rfl) ?_
                refine lv_dup hx hb dX12_read_144 rfl ?_
                refine g_X12_315 Cx hW (k := 231) (by decide) rfl (v := u_200.1 231 24) rfl dX12_read_145 ?_
                have n_219 := hE.nx (pz := u_200.1 231 24) (by omega) (by have z := (xu_215.2.1 (by omega)); unfold gS at z; omega)
                refine lv_iconst (v := iv 1) hx hb dX12_read_148 (by decide) ?_
                refine r_iadd hx hb dX12_read_149 ?_
                refine p_X12_315 Cx hW hL (k := 231) (by decide) rfl dX12_read_150 (fun H locs hW hL => ?_)
                have F_220 : Fr S (uF u_200 231 24 ((u_200.1 231 24) + 1)) (pl [231]) := F_202.F rfl
                have F_221 : Fr S (uF u_200 231 24 ((u_200.1 231 24) + 1)) (pl [231]) := F_203.F rfl
                have F_222 : Fr u_11 (uF u_200 231 24 ((u_200.1 231 24) + 1)) (pl [231]) := F_204.F rfl
                have F_223 : Fr ((uF S96 231 24 ((S96.1 231 24) + 1))) (uF u_200 231 24 ((u_200.1 231 24) + 1)) (pl [231]) := F_205.F rfl
                have g_224 : FF S (uF u_200 231 24 ((u_200.1 231 24) + 1)) (fl [20, 21, 24]) := FF.F g_206 rfl
                have g_225 : FF S (uF u_200 231 24 ((u_200.1 231 24) + 1)) (fl [20, 21, 24]) := FF.F g_207 rfl
                have g_226 : FF u_11 (uF u_200 231 24 ((u_200.1 231 24) + 1)) (fl [20, 21, 24]) := FF.F g_208 rfl
                have g_227 : FF ((uF S96 231 24 ((S96.1 231 24) + 1))) (uF u_200 231 24 ((u_200.1 231 24) + 1)) (fl [20, 21, 24]) := FF.F g_209 rfl
                have i_228 : dX G (uF u_200 231 24 ((u_200.1 231 24) + 1)) := iu_200.F (i := 24) (show (-2147483648) ≤ (u_200.1 231 24) + 1 ∧ (u_200.1 231 24) + 1 ≤ 2147483647 from ⟨by omega, by omega⟩)
                refine lv_aload_n hx hb dX12_read_153 rfl (lv_at hl 0 rfl) ?_
                refine lv_iconst (v := iv 1) hx hb dX12_read_154 (by decide) ?_
                have lk_229 : (uF u_200 231 24 ((u_200.1 231 24) + 1)).1 231 24 = (u_200.1 231 24) + 1 := uF_on
                have lk_230 : (uF u_200 231 24 ((u_200.1 231 24) + 1)).1 231 20 = u_200.1 231 20 := uF_ne (fun h => absurd h.2 (by decide))
                refine sBv (sV (As := [.int (iv 1)]) (rest := []) (k := 231) Cx (s_X12_wantKind l G (uF u_200 231 24 ((u_200.1 231 24) + 1)) (k := 1) (K := K) (V := V) (T := T) (pz := (u_200.1 231 24) + 1) i_228 (by omega) ((funext fun j => (uF_a).trans (((fu_200 244 rfl).2.1 j).trans ((uF_a).trans (((hL96_ 244 rfl).2.1 j).trans (((fu_11 244 rfl).2.1 j).trans (((fu_3 244 rfl).2.1 j).trans ((hL85_ 244 rfl).2.1 j)))))) : (uF u_200 231 24 ((u_200.1 231 24) + 1)).2.1 244 = S.2.1 244).trans hK) ((funext fun j => (uF_a).trans (((fu_200 247 rfl).2.1 j).trans ((uF_a).trans (((hL96_ 247 rfl).2.1 j).trans (((fu_11 247 rfl).2.1 j).trans (((fu_3 247 rfl).2.1 j).trans ((hL85_ 247 rfl).2.1 j)))))) : (uF u_200 231 24 ((u_200.1 231 24) + 1)).2.1 247 = S.2.1 247).trans hV) hE (by omega) (fun h => by have e8 := (show (uF u_200 231 24 ((u_200.1 231 24) + 1)).1 231 20 = u_200.1 231 20 from uF_ne (fun h => absurd h.2 (by decide))); have a9 := xu_200 (by have e9 := (show (uF u_200 231 24 ((u_200.1 231 24) + 1)).1 231 20 = u_200.1 231 20 from uF_ne (fun h => absurd h.2 (by decide))); omega); omega)) (c_X12_328 Cx rfl rfl (rmk_ok (by omega) (by decide))) hW (by decide) rfl rfl rfl hl.1 rfl (Nat.le_of_ble_eq_true rfl) dX12_read_155 ⟨Nat.le_of_ble_eq_true rfl, Nat.le_of_ble_eq_true rfl⟩) hL (fun u_231 H locs k_232 hW hL => ?_)
                obtain ⟨iu_231, fu_231, gu_231, xu_231⟩ := k_232
                have F_233 := F_220.trans fu_231
                have F_234 := F_221.trans fu_231
                have F_235 := F_222.trans fu_231
                have F_236 := F_223.trans fu_231
                have g_237 : FF S u_231 (fl [20, 21, 24]) := FF.trans g_224 (FF.to gu_231 (fl_sub (by decide)))
                have g_238 : FF S u_231 (fl [20, 21, 24]) := FF.trans g_225 (FF.to gu_231 (fl_sub (by decide)))
                have g_239 : FF u_11 u_231 (fl [20, 21, 24]) := FF.trans g_226 (FF.to gu_231 (fl_sub (by decide)))
                have g_240 : FF ((uF S96 231 24 ((S96.1 231 24) + 1))) u_231 (fl [20, 21, 24]) := FF.trans g_227 (FF.to gu_231 (fl_sub (by decide)))
                refine lv_aload_n hx hb dX12_read_158 rfl (lv_at hl 0 rfl) ?_
                refine lv_bipush (v := iv 8) hx hb dX12_read_159 (by decide) ?_
                have q_241 : (-2147483648) ≤ u_231.1 231 24 ∧ u_231.1 231 24 ≤ 2147483647 := iu_231.fi 24
                have q_242 : (-2147483648) ≤ u_231.1 231 20 ∧ u_231.1 231 20 ≤ 2147483647 := iu_231.fi 20
                refine sBv (sV (As := [.int (iv 8)]) (rest := []) (k := 231) Cx (s_X12_wantWord l G u_231 (sv := 8) (K := K) (V := V) (T := T) (pz := u_231.1 231 24) iu_231 (by omega) ((funext fun j => ((fu_231 244 rfl).2.1 j).trans ((uF_a).trans (((fu_200 244 rfl).2.1 j).trans ((uF_a).trans (((hL96_ 244 rfl).2.1 j).trans (((fu_11 244 rfl).2.1 j).trans (((fu_3 244 rfl).2.1 j).trans ((hL85_ 244 rfl).2.1 j))))))) : u_231.2.1 244 = S.2.1 244).trans hK) ((funext fun j => ((fu_231 247 rfl).2.1 j).trans ((uF_a).trans (((fu_200 247 rfl).2.1 j).trans ((uF_a).trans (((hL96_ 247 rfl).2.1 j).trans (((fu_11 247 rfl).2.1 j).trans (((fu_3 247 rfl).2.1 j).trans ((hL85_ 247 rfl).2.1 j))))))) : u_231.2.1 247 = S.2.1 247).trans hV) hE (by omega) (fun h => by have e8 := (show u_231.1 231 20 = u_231.1 231 20 from rfl); have a9 := xu_231 (by have e9 := (show u_231.1 231 20 = u_231.1 231 20 from rfl); omega); omega)) (c_X12_340 Cx rfl rfl (rmk_ok (by omega) (by decide))) hW (by decide) rfl rfl rfl hl.1 rfl (Nat.le_of_ble_eq_true rfl) dX12_read_161 ⟨Nat.le_of_ble_eq_true rfl, Nat.le_of_ble_eq_true rfl⟩) hL (fun u_243 H locs k_244 hW hL => ?_)
                obtain ⟨iu_243, fu_243, gu_243, xu_243⟩ := k_244
                have F_245 := F_233.trans fu_243
                have F_246 := F_234.trans fu_243
                have F_247 := F_235.trans fu_243
                have F_248 := F_236.trans fu_243
                have g_249 : FF S u_243 (fl [20, 21, 24]) := FF.trans g_237 (FF.to gu_243 (fl_sub (by decide)))
                have g_250 : FF S u_243 (fl [20, 21, 24]) := FF.trans g_238 (FF.to gu_243 (fl_sub (by decide)))
                have g_251 : FF u_11 u_243 (fl [20, 21, 24]) := FF.trans g_239 (FF.to gu_243 (fl_sub (by decide)))
                have g_252 : FF ((uF S96 231 24 ((S96.1 231 24) + 1))) u_243 (fl [20, 21, 24]) := FF.trans g_240 (FF.to gu_243 (fl_sub (by decide)))
                refine lv_aload_n hx hb dX12_read_164 rfl (lv_at hl 0 rfl) ?_
                refine lv_iconst (v := iv 1) hx hb dX12_read_165 (by decide) ?_
                have q_253 : (-2147483648) ≤ u_243.1 231 24 ∧ u_243.1 231 24 ≤ 2147483647 := iu_243.fi 24
                have q_254 : (-2147483648) ≤ u_243.1 231 20 ∧ u_243.1 231 20 ≤ 2147483647 := iu_243.fi 20
                refine sBv (sV (As := [.int (iv 1)]) (rest := []) (k := 231) Cx (s_X12_wantKind l G u_243 (k := 1) (K := K) (V := V) (T := T) (pz := u_243.1 231 24) iu_243 (by omega) ((funext fun j => ((fu_243 244 rfl).2.1 j).trans (((fu_231 244 rfl).2.1 j).trans ((uF_a).trans (((fu_200 244 rfl).2.1 j).trans ((uF_a).trans (((hL96_ 244 rfl).2.1 j).trans (((fu_11 244 rfl).2.1 j).trans (((fu_3 244 rfl).2.1 j).trans ((hL85_ 244 rfl).2.1 j)))))))) : u_243.2.1 244 = S.2.1 244).trans hK) ((funext fun j => ((fu_243 247 rfl).2.1 j).trans (((fu_231 247 rfl).2.1 j).trans ((uF_a).trans (((fu_200 247 rfl).2.1 j).trans ((uF_a).trans (((hL96_ 247 rfl).2.1 j).trans (((fu_11 247 rfl).2.1 j).trans (((fu_3 247 rfl).2.1 j).trans ((hL85_ 247 rfl).2.1 j)))))))) : u_243.2.1 247 = S.2.1 247).trans hV) hE (by omega) (fun h => by have e8 := (show u_243.1 231 20 = u_243.1 231 20 from rfl); have a9 := xu_243 (by have e9 := (show u_243.1 231 20 = u_243.1 231 20 from rfl); omega); omega)) (c_X12_328 Cx rfl rfl (rmk_ok (by omega) (by decide))) hW (by decide) rfl rfl rfl hl.1 rfl (Nat.le_of_ble_eq_true rfl) dX12_read_166 ⟨Nat.le_of_ble_eq_true rfl, Nat.le_of_ble_eq_true rfl⟩) hL (fun u_255 H locs k_256 hW hL => ?_)
                obtain ⟨iu_255, fu_255, gu_255, xu_255⟩ := k_256
                have F_257 := F_245.trans fu_255
                have F_258 := F_246.trans fu_255
                have F_259 := F_247.trans fu_255
                have F_260 := F_248.trans fu_255
                have g_261 : FF S u_255 (fl [20, 21, 24]) := FF.trans g_249 (FF.to gu_255 (fl_sub (by decide)))
                have g_262 : FF S u_255 (fl [20, 21, 24]) := FF.trans g_250 (FF.to gu_255 (fl_sub (by decide)))
                have g_263 : FF u_11 u_255 (fl [20, 21, 24]) := FF.trans g_251 (FF.to gu_255 (fl_sub (by decide)))
                have g_264 : FF ((uF S96 231 24 ((S96.1 231 24) + 1))) u_255 (fl [20, 21, 24]) := FF.trans g_252 (FF.to gu_255 (fl_sub (by decide)))
                refine lv_aload_n hx hb dX12_read_169 rfl (lv_at hl 0 rfl) ?_
                refine lv_bipush (v := iv 93) hx hb dX12_read_170 (by decide) ?_
                have q_265 : (-2147483648) ≤ u_255.1 231 24 ∧ u_255.1 231 24 ≤ 2147483647 := iu_255.fi 24
                have q_266 : (-2147483648) ≤ u_255.1 231 20 ∧ u_255.1 231 20 ≤ 2147483647 := iu_255.fi 20
                refine sBv (sV (As := [.int (iv 93)]) (rest := []) (k := 231) Cx (s_X12_want l G u_255 (sv := 93) (K := K) (V := V) (T := T) (pz := u_255.1 231 24) iu_255 (by omega) ((funext fun j => ((fu_255 244 rfl).2.1 j).trans (((fu_243 244 rfl).2.1 j).trans (((fu_231 244 rfl).2.1 j).trans ((uF_a).trans (((fu_200 244 rfl).2.1 j).trans ((uF_a).trans (((hL96_ 244 rfl).2.1 j).trans (((fu_11 244 rfl).2.1 j).trans (((fu_3 244 rfl).2.1 j).trans ((hL85_ 244 rfl).2.1 j))))))))) : u_255.2.1 244 = S.2.1 244).trans hK) ((funext fun j => ((fu_255 247 rfl).2.1 j).trans (((fu_243 247 rfl).2.1 j).trans (((fu_231 247 rfl).2.1 j).trans ((uF_a).trans (((fu_200 247 rfl).2.1 j).trans ((uF_a).trans (((hL96_ 247 rfl).2.1 j).trans (((fu_11 247 rfl).2.1 j).trans (((fu_3 247 rfl).2.1 j).trans ((hL85_ 247 rfl).2.1 j))))))))) : u_255.2.1 247 = S.2.1 247).trans hV) hE (by omega) (fun h => by have e8 := (show u_255.1 231 20 = u_255.1 231 20 from rfl); have a9 := xu_255 (by have e9 := (show u_255.1 231 20 = u_255.1 231 20 from rfl); omega); omega)) (c_X12_331 Cx rfl rfl (rmk_ok (by omega) (by decide))) hW (by decide) rfl rfl rfl hl.1 rfl (Nat.le_of_ble_eq_true rfl) dX12_read_172 ⟨Nat.le_of_ble_eq_true rfl, Nat.le_of_ble_eq_true rfl⟩) hL (fun u_267 H locs k_268 hW hL => ?_)
                obtain ⟨iu_267, fu_267, gu_267, xu_267⟩ := k_268
                have F_269 := F_257.trans fu_267
                have F_270 := F_258.trans fu_267
                have F_271 := F_259.trans fu_267
                have F_272 := F_260.trans fu_267
                have g_273 : FF S u_267 (fl [20, 21, 24]) := FF.trans g_261 (FF.to gu_267 (fl_sub (by decide)))
                have g_274 : FF S u_267 (fl [20, 21, 24]) := FF.trans g_262 (FF.to gu_267 (fl_sub (by decide)))
                have g_275 : FF u_11 u_267 (fl [20, 21, 24]) := FF.trans g_263 (FF.to gu_267 (fl_sub (by decide)))
                have g_276 : FF ((uF S96 231 24 ((S96.1 231 24) + 1))) u_267 (fl [20, 21, 24]) := FF.trans g_264 (FF.to gu_267 (fl_sub (by decide)))
                have q_277 : (-2147483648) ≤ u_267.1 231 20 ∧ u_267.1 231 20 ≤ 2147483647 := iu_267.fi 20
                have q_278 : (-2147483648) ≤ u_267.1 231 24 ∧ u_267.1 231 24 ≤ 2147483647 := iu_267.fi 24
                exact join_175 u_267  _ _ _ iu_267 F_269 F_270 F_271 F_272 g_273 g_274 g_275 g_276 (fun h => by have e8 := (show u_267.1 231 20 = u_267.1 231 20 from rfl); have e7 := (show u_267.1 231 24 = u_267.1 231 24 from rfl); have a9 := xu_267 (by have e9 := (show u_267.1 231 20 = u_267.1 231 20 from rfl); omega); omega) (fun h => by have e8 := (show u_267.1 231 20 = u_267.1 231 20 from rfl); have e7 := (show u_267.1 231 24 = u_267.1 231 24 from rfl); have au_267 := xu_267 (by have e9 := (show u_267.1 231 20 = u_267.1 231 20 from rfl); omega); have au_255 := xu_255 au_267.1; have au_243 := xu_243 au_255.1; have au_231 := xu_231 au_243.1; have au_200 := xu_200 au_231.1; exact ⟨by omega, by omega, _, au_200.2.1, .inr ⟨(xu_215.2.1 (by omega)), _, au_231.2.1, _, au_243.2.1, _, au_255.2.1, au_267.2.1⟩⟩) hW hL (lv_sub hl [0] rfl)
    have q_279 : (-2147483648) ≤ u_11.1 231 20 ∧ u_11.1 231 20 ≤ 2147483647 := iu_11.fi 20
    have q_280 : (-2147483648) ≤ u_11.1 231 24 ∧ u_11.1 231 24 ≤ 2147483647 := iu_11.fi 24
    exact loop_96 (_ + 1) u_11  _ _ _ (Nat.lt_succ_self _) iu_11 F_13 F_14 Fr.rf g_15 g_16 FF.rf (fun h => by have e8 := (show u_11.1 231 20 = u_11.1 231 20 from rfl); have e7 := (show u_11.1 231 24 = u_11.1 231 24 from rfl); have a9 := xu_11 (by have e9 := (show u_11.1 231 20 = u_11.1 231 20 from rfl); omega); omega) (fun h => ⟨h, fun _ t => t⟩) hW hL (lv_sub hl [0] rfl)
  refine lv_aload_n hx hb dX12_read_0 rfl (lv_at hl 0 rfl) ?_
  refine lv_iconst (v := iv 0) hx hb dX12_read_1 (by decide) ?_
  refine p_X12_315 Cx hW hL (k := 231) (by decide) rfl dX12_read_2 (fun H locs hW hL => ?_)
  have F_281 : Fr S (uF S 231 24 0) (pl [231]) := (Fr.rf : Fr S S (pl [231])).F rfl
  have F_282 : Fr S (uF S 231 24 0) (pl [231]) := (Fr.rf : Fr S S (pl [231])).F rfl
  have g_283 : FF S (uF S 231 24 0) (fl [20, 21, 24]) := FF.F FF.rf rfl
  have g_284 : FF S (uF S 231 24 0) (fl [20, 21, 24]) := FF.F (FF.rf : FF S S (fl [20, 21, 24])) rfl
  have i_285 : dX G (uF S 231 24 0) := hI.F (i := 24) (show (-2147483648) ≤ 0 ∧ 0 ≤ 2147483647 from ⟨by omega, by omega⟩)
  have loop_5 : ∀ (fuel : Nat) (S5 : sS)  (H : Heap) (locs : List Loc) (ls : Array Slot), mf S5 T < fuel → (dX G S5) → (Fr S S5 (pl [231])) → (Fr S S5 (pl [231])) → (Fr ((uF S 231 24 0)) S5 (pl [231])) → (FF S S5 (fl [20, 21, 24])) → (FF S S5 (fl [20, 21, 24])) → (FF ((uF S 231 24 0)) S5 (fl [20, 21, 24])) → (Hd (S5.1 231 20 = 0 → 0 ≤ S5.1 231 24 ∧ S5.1 231 24 ≤ T - 1)) → (Hd (S5.1 231 20 = 0 → True ∧ ∀ q, gTl (fun c => gW K V c 2 ∨ gW K V c 3 ∨ gW K V c 4) (gT K V) (S5.1 231 24) q → gTl (fun c => gW K V c 2 ∨ gW K V c 3 ∨ gW K V c 4) (gT K V) 0 q)) → sW G 294 S5 H → sL G locs → lv_has ls 1 [(0, .ref (G.2.2.1 + 231))] → W p l e (rmk 101 0 0) s m args below meth c H locs 0 0 (MQ below (sQv G 294 (fun u => dX G u ∧ Fr S u (pl [231]) ∧ FF S u (fl [20, 21, 24]) ∧ (Hd (u.1 231 20 = 0 → gPtE K V T)))) args s 0 0 (sF G)) (F0 m 5 ls []) := by
    intro fuel
    induction fuel with
    | zero => intro S5  H locs ls hmeas hI5 hFm5 hFL855 hL5_ hGm5 hGL855 gL5_ hcu5 hH5 hW hL hl; exact absurd hmeas (Nat.not_lt_zero _)
    | succ fuel ih_5 =>
      intro S5  H locs ls hmeas hI5 hFm5 hFL855 hL5_ hGm5 hGL855 gL5_ hcu5 hH5 hW hL hl
      refine lv_aload_n hx hb dX12_read_5 rfl (lv_at hl 0 rfl) ?_
      have q_286 : (-2147483648) ≤ S5.1 231 20 ∧ S5.1 231 20 ≤ 2147483647 := hI5.fi 20
      refine g_X12_270 Cx hW (k := 231) (by decide) rfl (v := S5.1 231 20) rfl dX12_read_6 ?_
      refine r_if_ne (tgt := 43) hx hb ⟨(by omega), (by omega)⟩ dX12_read_9 (by decide) (fun c_287 => ?_) (fun c_287 => ?_)
      · refine lv_aload_n hx hb dX12_read_43 rfl (lv_at hl 0 rfl) ?_
        refine g_X12_270 Cx hW (k := 231) (by decide) rfl (v := S5.1 231 20) rfl dX12_read_44 ?_
        refine r_if_ne (tgt := 75) hx hb ⟨(by omega), (by omega)⟩ dX12_read_47 (by decide) (fun _ => ?_) (fun c => absurd c (by omega))
        refine lv_aload_n hx hb dX12_read_75 rfl (lv_at hl 0 rfl) ?_
        refine lv_dup hx hb dX12_read_76 rfl ?_
        have q_288 : (-2147483648) ≤ S5.1 231 24 ∧ S5.1 231 24 ≤ 2147483647 := hI5.fi 24
        refine g_X12_315 Cx hW (k := 231) (by decide) rfl (v := S5.1 231 24) rfl dX12_read_77 ?_
        refine lv_iconst (v := iv 1) hx hb dX12_read_80 (by decide) ?_
        refine r_iadd hx hb dX12_read_81 ?_
        obtain ⟨z_289, ez_289, hz_289, kz_289⟩ := iv_of (iv ((S5.1 231 24) + 1))
        rw [ez_289]
        refine p_X12_315 Cx hW hL (k := 231) (by decide) rfl dX12_read_82 (fun H locs hW hL => ?_)
        have F_290 : Fr S (uF S5 231 24 z_289) (pl [231]) := hFm5.F rfl
        have F_291 : Fr S (uF S5 231 24 z_289) (pl [231]) := hFL855.F rfl
        have F_292 : Fr ((uF S 231 24 0)) (uF S5 231 24 z_289) (pl [231]) := hL5_.F rfl
        have g_293 : FF S (uF S5 231 24 z_289) (fl [20, 21, 24]) := FF.F hGm5 rfl
        have g_294 : FF S (uF S5 231 24 z_289) (fl [20, 21, 24]) := FF.F hGL855 rfl
        have g_295 : FF ((uF S 231 24 0)) (uF S5 231 24 z_289) (fl [20, 21, 24]) := FF.F gL5_ rfl
        have i_296 : dX G (uF S5 231 24 z_289) := hI5.F (i := 24) (show (-2147483648) ≤ z_289 ∧ z_289 ≤ 2147483647 from ⟨by omega, by omega⟩)
        have lk_297 : (uF S5 231 24 z_289).1 231 20 = S5.1 231 20 := uF_ne (fun h => absurd h.2 (by decide))
        have lk_298 : (uF S5 231 24 z_289).1 231 24 = z_289 := uF_on
        exact join_85 (uF S5 231 24 z_289)  _ _ _ i_296 F_290 F_291 g_293 g_294 (fun h => by have e8 := (show (uF S5 231 24 z_289).1 231 20 = S5.1 231 20 from uF_ne (fun h => absurd h.2 (by decide))); have e7 := (show (uF S5 231 24 z_289).1 231 24 = z_289 from uF_on); have a9 := hcu5 (by have e9 := (show (uF S5 231 24 z_289).1 231 20 = S5.1 231 20 from uF_ne (fun h => absurd h.2 (by decide))); omega); omega) (fun h => absurd h (by have e9 := (show (uF S5 231 24 z_289).1 231 20 = S5.1 231 20 from uF_ne (fun h => absurd h.2 (by decide))); omega)) hW hL (lv_sub hl [0] rfl)
      · have b_299 := hcu5 (by have e9 := (show S5.1 231 20 = S5.1 231 20 from rfl); omega)
        refine lv_aload_n hx hb dX12_read_12 rfl (lv_at hl 0 rfl) ?_
        refine lv_iconst (v := iv 2) hx hb dX12_read_13 (by decide) ?_
        have q_300 : (-2147483648) ≤ S5.1 231 24 ∧ S5.1 231 24 ≤ 2147483647 := hI5.fi 24
        refine sBi (sV (As := [.int (iv 2)]) (rest := []) (k := 231) Cx (s_X12_isWord l G S5 (sv := 2) (K := K) (V := V) (pz := S5.1 231 24) hI5 (by omega) ((funext fun j => ((hL5_ 244 rfl).2.1 j).trans (uF_a) : S5.2.1 244 = S.2.1 244).trans hK) ((funext fun j => ((hL5_ 247 rfl).2.1 j).trans (uF_a) : S5.2.1 247 = S.2.1 247).trans hV) (by omega) (by omega)) (c_X12_325 Cx rfl rfl (rmk_ok (by omega) (by decide))) hW (by decide) rfl rfl rfl hl.1 rfl (Nat.le_of_ble_eq_true rfl) dX12_read_14 ⟨Nat.le_of_ble_eq_true rfl, Nat.le_of_ble_eq_true rfl⟩) hL (fun r_303 u_301 H locs k_302 hW hL => ?_)
        obtain ⟨eu_301, xu_301⟩ := k_302
        rw [eu_301] at hW
        refine r_if_ne (tgt := 36) hx hb ⟨(by omega), (by omega)⟩ dX12_read_17 (by decide) (fun c_304 => ?_) (fun c_304 => ?_)
        · refine lv_aload_n hx hb dX12_read_36 rfl (lv_at hl 0 rfl) ?_
          refine sBv (sV (As := []) (rest := []) (k := 231) Cx (s_X12_told l G S5 (K := K) (V := V) (T := T) (pz := S5.1 231 24) hI5 (by omega) (by have z := (xu_301.2.1 (by omega)); unfold gW at z; omega) ((funext fun j => ((hL5_ 244 rfl).2.1 j).trans (uF_a) : S5.2.1 244 = S.2.1 244).trans hK) ((funext fun j => ((hL5_ 247 rfl).2.1 j).trans (uF_a) : S5.2.1 247 = S.2.1 247).trans hV) hE (by omega) (fun h => by have e8 := (show S5.1 231 20 = S5.1 231 20 from rfl); have a9 := hcu5 (by have e9 := (show S5.1 231 20 = S5.1 231 20 from rfl); omega); omega)) (c_X12_334 Cx rfl rfl (rmk_ok (by omega) (by decide))) hW (by decide) rfl rfl rfl hl.1 rfl (Nat.le_of_ble_eq_true rfl) dX12_read_37 ⟨Nat.le_of_ble_eq_true rfl, Nat.le_of_ble_eq_true rfl⟩) hL (fun u_305 H locs k_306 hW hL => ?_)
          obtain ⟨iu_305, fu_305, gu_305, xu_305⟩ := k_306
          have F_307 := hFm5.trans fu_305
          have F_308 := hFL855.trans fu_305
          have F_309 := hL5_.trans fu_305
          have g_310 : FF S u_305 (fl [20, 21, 24]) := FF.trans hGm5 (FF.to gu_305 (fl_sub (by decide)))
          have g_311 : FF S u_305 (fl [20, 21, 24]) := FF.trans hGL855 (FF.to gu_305 (fl_sub (by decide)))
          have g_312 : FF ((uF S 231 24 0)) u_305 (fl [20, 21, 24]) := FF.trans gL5_ (FF.to gu_305 (fl_sub (by decide)))
          refine lv_goto (tgt := 5) hx hb dX12_read_40 (by decide) ?_
          have q_313 : (-2147483648) ≤ u_305.1 231 20 ∧ u_305.1 231 20 ≤ 2147483647 := iu_305.fi 20
          have q_314 : (-2147483648) ≤ u_305.1 231 24 ∧ u_305.1 231 24 ≤ 2147483647 := iu_305.fi 24
          exact ih_5 u_305  _ _ _ (Nat.lt_of_lt_of_le (mf_lt (S := S5) (by omega) (by omega) (fun h => by have a9 := xu_305 h; omega)) (Nat.le_of_lt_succ hmeas)) iu_305 F_307 F_308 F_309 g_310 g_311 g_312 (fun h => by have e8 := (show u_305.1 231 20 = u_305.1 231 20 from rfl); have e7 := (show u_305.1 231 24 = u_305.1 231 24 from rfl); have a9 := xu_305 (by have e9 := (show u_305.1 231 20 = u_305.1 231 20 from rfl); omega); omega) (fun h => ⟨trivial, fun q t => (hH5 (by omega)).2 q (gTl.cons (.inl (xu_301.2.1 (by omega))) (xu_305 h).2.1 t)⟩) hW hL (lv_sub hl [0] rfl)
        · refine lv_aload_n hx hb dX12_read_20 rfl (lv_at hl 0 rfl) ?_
          refine lv_iconst (v := iv 3) hx hb dX12_read_21 (by decide) ?_
          refine sBi (sV (As := [.int (iv 3)]) (rest := []) (k := 231) Cx (s_X12_isWord l G S5 (sv := 3) (K := K) (V := V) (pz := S5.1 231 24) hI5 (by omega) ((funext fun j => ((hL5_ 244 rfl).2.1 j).trans (uF_a) : S5.2.1 244 = S.2.1 244).trans hK) ((funext fun j => ((hL5_ 247 rfl).2.1 j).trans (uF_a) : S5.2.1 247 = S.2.1 247).trans hV) (by omega) (by omega)) (c_X12_325 Cx rfl rfl (rmk_ok (by omega) (by decide))) hW (by decide) rfl rfl rfl hl.1 rfl (Nat.le_of_ble_eq_true rfl) dX12_read_22 ⟨Nat.le_of_ble_eq_true rfl, Nat.le_of_ble_eq_true rfl⟩) hL (fun r_317 u_315 H locs k_316 hW hL => ?_)
          obtain ⟨eu_315, xu_315⟩ := k_316
          rw [eu_315] at hW
          refine r_if_ne (tgt := 36) hx hb ⟨(by omega), (by omega)⟩ dX12_read_25 (by decide) (fun c_318 => ?_) (fun c_318 => ?_)
          · refine lv_aload_n hx hb dX12_read_36 rfl (lv_at hl 0 rfl) ?_
            refine sBv (sV (As := []) (rest := []) (k := 231) Cx (s_X12_told l G S5 (K := K) (V := V) (T := T) (pz := S5.1 231 24) hI5 (by omega) (by have z := (xu_315.2.1 (by omega)); unfold gW at z; omega) ((funext fun j => ((hL5_ 244 rfl).2.1 j).trans (uF_a) : S5.2.1 244 = S.2.1 244).trans hK) ((funext fun j => ((hL5_ 247 rfl).2.1 j).trans (uF_a) : S5.2.1 247 = S.2.1 247).trans hV) hE (by omega) (fun h => by have e8 := (show S5.1 231 20 = S5.1 231 20 from rfl); have a9 := hcu5 (by have e9 := (show S5.1 231 20 = S5.1 231 20 from rfl); omega); omega)) (c_X12_334 Cx rfl rfl (rmk_ok (by omega) (by decide))) hW (by decide) rfl rfl rfl hl.1 rfl (Nat.le_of_ble_eq_true rfl) dX12_read_37 ⟨Nat.le_of_ble_eq_true rfl, Nat.le_of_ble_eq_true rfl⟩) hL (fun u_319 H locs k_320 hW hL => ?_)
            obtain ⟨iu_319, fu_319, gu_319, xu_319⟩ := k_320
            have F_321 := hFm5.trans fu_319
            have F_322 := hFL855.trans fu_319
            have F_323 := hL5_.trans fu_319
            have g_324 : FF S u_319 (fl [20, 21, 24]) := FF.trans hGm5 (FF.to gu_319 (fl_sub (by decide)))
            have g_325 : FF S u_319 (fl [20, 21, 24]) := FF.trans hGL855 (FF.to gu_319 (fl_sub (by decide)))
            have g_326 : FF ((uF S 231 24 0)) u_319 (fl [20, 21, 24]) := FF.trans gL5_ (FF.to gu_319 (fl_sub (by decide)))
            refine lv_goto (tgt := 5) hx hb dX12_read_40 (by decide) ?_
            have q_327 : (-2147483648) ≤ u_319.1 231 20 ∧ u_319.1 231 20 ≤ 2147483647 := iu_319.fi 20
            have q_328 : (-2147483648) ≤ u_319.1 231 24 ∧ u_319.1 231 24 ≤ 2147483647 := iu_319.fi 24
            exact ih_5 u_319  _ _ _ (Nat.lt_of_lt_of_le (mf_lt (S := S5) (by omega) (by omega) (fun h => by have a9 := xu_319 h; omega)) (Nat.le_of_lt_succ hmeas)) iu_319 F_321 F_322 F_323 g_324 g_325 g_326 (fun h => by have e8 := (show u_319.1 231 20 = u_319.1 231 20 from rfl); have e7 := (show u_319.1 231 24 = u_319.1 231 24 from rfl); have a9 := xu_319 (by have e9 := (show u_319.1 231 20 = u_319.1 231 20 from rfl); omega); omega) (fun h => ⟨trivial, fun q t => (hH5 (by omega)).2 q (gTl.cons (.inr (.inl (xu_315.2.1 (by omega)))) (xu_319 h).2.1 t)⟩) hW hL (lv_sub hl [0] rfl)
          · refine lv_aload_n hx hb dX12_read_28 rfl (lv_at hl 0 rfl) ?_
            refine lv_iconst (v := iv 4) hx hb dX12_read_29 (by decide) ?_
            refine sBi (sV (As := [.int (iv 4)]) (rest := []) (k := 231) Cx (s_X12_isWord l G S5 (sv := 4) (K := K) (V := V) (pz := S5.1 231 24) hI5 (by omega) ((funext fun j => ((hL5_ 244 rfl).2.1 j).trans (uF_a) : S5.2.1 244 = S.2.1 244).trans hK) ((funext fun j => ((hL5_ 247 rfl).2.1 j).trans (uF_a) : S5.2.1 247 = S.2.1 247).trans hV) (by omega) (by omega)) (c_X12_325 Cx rfl rfl (rmk_ok (by omega) (by decide))) hW (by decide) rfl rfl rfl hl.1 rfl (Nat.le_of_ble_eq_true rfl) dX12_read_30 ⟨Nat.le_of_ble_eq_true rfl, Nat.le_of_ble_eq_true rfl⟩) hL (fun r_331 u_329 H locs k_330 hW hL => ?_)
            obtain ⟨eu_329, xu_329⟩ := k_330
            rw [eu_329] at hW
            refine r_if_eq (tgt := 43) hx hb ⟨(by omega), (by omega)⟩ dX12_read_33 (by decide) (fun c_332 => ?_) (fun c_332 => ?_)
            · refine lv_aload_n hx hb dX12_read_43 rfl (lv_at hl 0 rfl) ?_
              refine g_X12_270 Cx hW (k := 231) (by decide) rfl (v := S5.1 231 20) rfl dX12_read_44 ?_
              refine r_if_ne (tgt := 75) hx hb ⟨(by omega), (by omega)⟩ dX12_read_47 (by decide) (fun c => absurd (by omega) c) (fun _ => ?_)
              have b_333 := hcu5 (by have e9 := (show S5.1 231 20 = S5.1 231 20 from rfl); omega)
              refine lv_aload_n hx hb dX12_read_50 rfl (lv_at hl 0 rfl) ?_
              refine lv_iconst (v := iv 0) hx hb dX12_read_51 (by decide) ?_
              refine sBi (sV (As := [.int (iv 0)]) (rest := []) (k := 231) Cx (s_X12_isWord l G S5 (sv := 0) (K := K) (V := V) (pz := S5.1 231 24) hI5 (by omega) ((funext fun j => ((hL5_ 244 rfl).2.1 j).trans (uF_a) : S5.2.1 244 = S.2.1 244).trans hK) ((funext fun j => ((hL5_ 247 rfl).2.1 j).trans (uF_a) : S5.2.1 247 = S.2.1 247).trans hV) (by omega) (by omega)) (c_X12_325 Cx rfl rfl (rmk_ok (by omega) (by decide))) hW (by decide) rfl rfl rfl hl.1 rfl (Nat.le_of_ble_eq_true rfl) dX12_read_52 ⟨Nat.le_of_ble_eq_true rfl, Nat.le_of_ble_eq_true rfl⟩) hL (fun r_336 u_334 H locs k_335 hW hL => ?_)
              obtain ⟨eu_334, xu_334⟩ := k_335
              rw [eu_334] at hW
              refine r_if_ne (tgt := 75) hx hb ⟨(by omega), (by omega)⟩ dX12_read_55 (by decide) (fun c_337 => ?_) (fun c_337 => ?_)
              · refine lv_aload_n hx hb dX12_read_75 rfl (lv_at hl 0 rfl) ?_
                refine lv_dup hx hb dX12_read_76 rfl ?_
                refine g_X12_315 Cx hW (k := 231) (by decide) rfl (v := S5.1 231 24) rfl dX12_read_77 ?_
                have n_338 := hE.nx (pz := S5.1 231 24) (by omega) (by have z := (xu_334.2.1 (by omega)); unfold gW at z; omega)
                refine lv_iconst (v := iv 1) hx hb dX12_read_80 (by decide) ?_
                refine r_iadd hx hb dX12_read_81 ?_
                refine p_X12_315 Cx hW hL (k := 231) (by decide) rfl dX12_read_82 (fun H locs hW hL => ?_)
                have F_339 : Fr S (uF S5 231 24 ((S5.1 231 24) + 1)) (pl [231]) := hFm5.F rfl
                have F_340 : Fr S (uF S5 231 24 ((S5.1 231 24) + 1)) (pl [231]) := hFL855.F rfl
                have F_341 : Fr ((uF S 231 24 0)) (uF S5 231 24 ((S5.1 231 24) + 1)) (pl [231]) := hL5_.F rfl
                have g_342 : FF S (uF S5 231 24 ((S5.1 231 24) + 1)) (fl [20, 21, 24]) := FF.F hGm5 rfl
                have g_343 : FF S (uF S5 231 24 ((S5.1 231 24) + 1)) (fl [20, 21, 24]) := FF.F hGL855 rfl
                have g_344 : FF ((uF S 231 24 0)) (uF S5 231 24 ((S5.1 231 24) + 1)) (fl [20, 21, 24]) := FF.F gL5_ rfl
                have i_345 : dX G (uF S5 231 24 ((S5.1 231 24) + 1)) := hI5.F (i := 24) (show (-2147483648) ≤ (S5.1 231 24) + 1 ∧ (S5.1 231 24) + 1 ≤ 2147483647 from ⟨by omega, by omega⟩)
                have lk_346 : (uF S5 231 24 ((S5.1 231 24) + 1)).1 231 20 = S5.1 231 20 := uF_ne (fun h => absurd h.2 (by decide))
                have lk_347 : (uF S5 231 24 ((S5.1 231 24) + 1)).1 231 24 = (S5.1 231 24) + 1 := uF_on
                exact join_85 (uF S5 231 24 ((S5.1 231 24) + 1))  _ _ _ i_345 F_339 F_340 g_342 g_343 (fun h => by have e8 := (show (uF S5 231 24 ((S5.1 231 24) + 1)).1 231 20 = S5.1 231 20 from uF_ne (fun h => absurd h.2 (by decide))); have e7 := (show (uF S5 231 24 ((S5.1 231 24) + 1)).1 231 24 = (S5.1 231 24) + 1 from uF_on); have a9 := hcu5 (by have e9 := (show (uF S5 231 24 ((S5.1 231 24) + 1)).1 231 20 = S5.1 231 20 from uF_ne (fun h => absurd h.2 (by decide))); omega); omega) (fun h => ⟨_, (hH5 (by omega)).2 _ (gTl.nil (fun z => z.elim (xu_301.2.2 (by omega)) (fun z => z.elim (xu_315.2.2 (by omega)) (xu_329.2.2 (by omega))))), (.inl (xu_334.2.1 (by omega))), (by have e7 := (show (uF S5 231 24 ((S5.1 231 24) + 1)).1 231 24 = (S5.1 231 24) + 1 from uF_on); omega)⟩) hW hL (lv_sub hl [0] rfl)
              · refine lv_aload_n hx hb dX12_read_58 rfl (lv_at hl 0 rfl) ?_
                refine lv_iconst (v := iv 1) hx hb dX12_read_59 (by decide) ?_
                refine sBi (sV (As := [.int (iv 1)]) (rest := []) (k := 231) Cx (s_X12_isWord l G S5 (sv := 1) (K := K) (V := V) (pz := S5.1 231 24) hI5 (by omega) ((funext fun j => ((hL5_ 244 rfl).2.1 j).trans (uF_a) : S5.2.1 244 = S.2.1 244).trans hK) ((funext fun j => ((hL5_ 247 rfl).2.1 j).trans (uF_a) : S5.2.1 247 = S.2.1 247).trans hV) (by omega) (by omega)) (c_X12_325 Cx rfl rfl (rmk_ok (by omega) (by decide))) hW (by decide) rfl rfl rfl hl.1 rfl (Nat.le_of_ble_eq_true rfl) dX12_read_60 ⟨Nat.le_of_ble_eq_true rfl, Nat.le_of_ble_eq_true rfl⟩) hL (fun r_350 u_348 H locs k_349 hW hL => ?_)
                obtain ⟨eu_348, xu_348⟩ := k_349
                rw [eu_348] at hW
                refine r_if_ne (tgt := 75) hx hb ⟨(by omega), (by omega)⟩ dX12_read_63 (by decide) (fun c_351 => ?_) (fun c_351 => ?_)
                · refine lv_aload_n hx hb dX12_read_75 rfl (lv_at hl 0 rfl) ?_
                  refine lv_dup hx hb dX12_read_76 rfl ?_
                  refine g_X12_315 Cx hW (k := 231) (by decide) rfl (v := S5.1 231 24) rfl dX12_read_77 ?_
                  have n_352 := hE.nx (pz := S5.1 231 24) (by omega) (by have z := (xu_348.2.1 (by omega)); unfold gW at z; omega)
                  refine lv_iconst (v := iv 1) hx hb dX12_read_80 (by decide) ?_
                  refine r_iadd hx hb dX12_read_81 ?_
                  refine p_X12_315 Cx hW hL (k := 231) (by decide) rfl dX12_read_82 (fun H locs hW hL => ?_)
                  have F_353 : Fr S (uF S5 231 24 ((S5.1 231 24) + 1)) (pl [231]) := hFm5.F rfl
                  have F_354 : Fr S (uF S5 231 24 ((S5.1 231 24) + 1)) (pl [231]) := hFL855.F rfl
                  have F_355 : Fr ((uF S 231 24 0)) (uF S5 231 24 ((S5.1 231 24) + 1)) (pl [231]) := hL5_.F rfl
                  have g_356 : FF S (uF S5 231 24 ((S5.1 231 24) + 1)) (fl [20, 21, 24]) := FF.F hGm5 rfl
                  have g_357 : FF S (uF S5 231 24 ((S5.1 231 24) + 1)) (fl [20, 21, 24]) := FF.F hGL855 rfl
                  have g_358 : FF ((uF S 231 24 0)) (uF S5 231 24 ((S5.1 231 24) + 1)) (fl [20, 21, 24]) := FF.F gL5_ rfl
                  have i_359 : dX G (uF S5 231 24 ((S5.1 231 24) + 1)) := hI5.F (i := 24) (show (-2147483648) ≤ (S5.1 231 24) + 1 ∧ (S5.1 231 24) + 1 ≤ 2147483647 from ⟨by omega, by omega⟩)
                  have lk_360 : (uF S5 231 24 ((S5.1 231 24) + 1)).1 231 20 = S5.1 231 20 := uF_ne (fun h => absurd h.2 (by decide))
                  have lk_361 : (uF S5 231 24 ((S5.1 231 24) + 1)).1 231 24 = (S5.1 231 24) + 1 := uF_on
                  exact join_85 (uF S5 231 24 ((S5.1 231 24) + 1))  _ _ _ i_359 F_353 F_354 g_356 g_357 (fun h => by have e8 := (show (uF S5 231 24 ((S5.1 231 24) + 1)).1 231 20 = S5.1 231 20 from uF_ne (fun h => absurd h.2 (by decide))); have e7 := (show (uF S5 231 24 ((S5.1 231 24) + 1)).1 231 24 = (S5.1 231 24) + 1 from uF_on); have a9 := hcu5 (by have e9 := (show (uF S5 231 24 ((S5.1 231 24) + 1)).1 231 20 = S5.1 231 20 from uF_ne (fun h => absurd h.2 (by decide))); omega); omega) (fun h => ⟨_, (hH5 (by omega)).2 _ (gTl.nil (fun z => z.elim (xu_301.2.2 (by omega)) (fun z => z.elim (xu_315.2.2 (by omega)) (xu_329.2.2 (by omega))))), (.inr (xu_348.2.1 (by omega))), (by have e7 := (show (uF S5 231 24 ((S5.1 231 24) + 1)).1 231 24 = (S5.1 231 24) + 1 from uF_on); omega)⟩) hW hL (lv_sub hl [0] rfl)
                · refine lv_aload_n hx hb dX12_read_66 rfl (lv_at hl 0 rfl) ?_
                  refine lv_iconst (v := iv 1) hx hb dX12_read_67 (by decide) ?_
                  refine lv_aload_n hx hb dX12_read_68 rfl (lv_at hl 0 rfl) ?_
                  refine g_X12_315 Cx hW (k := 231) (by decide) rfl (v := S5.1 231 24) rfl dX12_read_69 ?_
                  refine sBv (sV (As := [.int (iv 1), .int (iv (S5.1 231 24))]) (rest := []) (k := 231) Cx (s_X12_wrong l G S5 (cd := 1) (tk := S5.1 231 24) hI5 (by omega) (by omega)) (c_X12_321 Cx rfl rfl (rmk_ok (by omega) (by decide))) hW (by decide) rfl rfl rfl hl.1 rfl (Nat.le_of_ble_eq_true rfl) dX12_read_72 ⟨Nat.le_of_ble_eq_true rfl, Nat.le_of_ble_eq_true rfl⟩) hL (fun u_362 H locs k_363 hW hL => ?_)
                  obtain ⟨iu_362, fu_362, gu_362, xu_362⟩ := k_363
                  have F_364 := hFm5.trans fu_362
                  have F_365 := hFL855.trans fu_362
                  have F_366 := hL5_.trans fu_362
                  have g_367 : FF S u_362 (fl [20, 21, 24]) := FF.trans hGm5 (FF.to gu_362 (fl_sub (by decide)))
                  have g_368 : FF S u_362 (fl [20, 21, 24]) := FF.trans hGL855 (FF.to gu_362 (fl_sub (by decide)))
                  have g_369 : FF ((uF S 231 24 0)) u_362 (fl [20, 21, 24]) := FF.trans gL5_ (FF.to gu_362 (fl_sub (by decide)))
                  refine lv_aload_n hx hb dX12_read_75 rfl (lv_at hl 0 rfl) ?_
                  refine lv_dup hx hb dX12_read_76 rfl ?_
                  refine g_X12_315 Cx hW (k := 231) (by decide) rfl (v := S5.1 231 24) (gu_362 24 rfl) dX12_read_77 ?_
                  refine lv_iconst (v := iv 1) hx hb dX12_read_80 (by decide) ?_
                  refine r_iadd hx hb dX12_read_81 ?_
                  refine p_X12_315 Cx hW hL (k := 231) (by decide) rfl dX12_read_82 (fun H locs hW hL => ?_)
                  have F_370 : Fr S (uF u_362 231 24 ((S5.1 231 24) + 1)) (pl [231]) := F_364.F rfl
                  have F_371 : Fr S (uF u_362 231 24 ((S5.1 231 24) + 1)) (pl [231]) := F_365.F rfl
                  have F_372 : Fr ((uF S 231 24 0)) (uF u_362 231 24 ((S5.1 231 24) + 1)) (pl [231]) := F_366.F rfl
                  have g_373 : FF S (uF u_362 231 24 ((S5.1 231 24) + 1)) (fl [20, 21, 24]) := FF.F g_367 rfl
                  have g_374 : FF S (uF u_362 231 24 ((S5.1 231 24) + 1)) (fl [20, 21, 24]) := FF.F g_368 rfl
                  have g_375 : FF ((uF S 231 24 0)) (uF u_362 231 24 ((S5.1 231 24) + 1)) (fl [20, 21, 24]) := FF.F g_369 rfl
                  have i_376 : dX G (uF u_362 231 24 ((S5.1 231 24) + 1)) := iu_362.F (i := 24) (show (-2147483648) ≤ (S5.1 231 24) + 1 ∧ (S5.1 231 24) + 1 ≤ 2147483647 from ⟨by omega, by omega⟩)
                  have q_377 : (-2147483648) ≤ u_362.1 231 20 ∧ u_362.1 231 20 ≤ 2147483647 := iu_362.fi 20
                  have lk_378 : (uF u_362 231 24 ((S5.1 231 24) + 1)).1 231 20 = u_362.1 231 20 := uF_ne (fun h => absurd h.2 (by decide))
                  have lk_379 : (uF u_362 231 24 ((S5.1 231 24) + 1)).1 231 24 = (S5.1 231 24) + 1 := uF_on
                  exact join_85 (uF u_362 231 24 ((S5.1 231 24) + 1))  _ _ _ i_376 F_370 F_371 g_373 g_374 (fun h => by have e8 := (show (uF u_362 231 24 ((S5.1 231 24) + 1)).1 231 20 = u_362.1 231 20 from uF_ne (fun h => absurd h.2 (by decide))); have e7 := (show (uF u_362 231 24 ((S5.1 231 24) + 1)).1 231 24 = (S5.1 231 24) + 1 from uF_on); have a9 := xu_362; omega) (fun h => absurd h (by have e9 := (show (uF u_362 231 24 ((S5.1 231 24) + 1)).1 231 20 = u_362.1 231 20 from uF_ne (fun h => absurd h.2 (by decide))); have a9 := xu_362; omega)) hW hL (lv_sub hl [0] rfl)
            · refine lv_aload_n hx hb dX12_read_36 rfl (lv_at hl 0 rfl) ?_
              refine sBv (sV (As := []) (rest := []) (k := 231) Cx (s_X12_told l G S5 (K := K) (V := V) (T := T) (pz := S5.1 231 24) hI5 (by omega) (by have z := (xu_329.2.1 (by omega)); unfold gW at z; omega) ((funext fun j => ((hL5_ 244 rfl).2.1 j).trans (uF_a) : S5.2.1 244 = S.2.1 244).trans hK) ((funext fun j => ((hL5_ 247 rfl).2.1 j).trans (uF_a) : S5.2.1 247 = S.2.1 247).trans hV) hE (by omega) (fun h => by have e8 := (show S5.1 231 20 = S5.1 231 20 from rfl); have a9 := hcu5 (by have e9 := (show S5.1 231 20 = S5.1 231 20 from rfl); omega); omega)) (c_X12_334 Cx rfl rfl (rmk_ok (by omega) (by decide))) hW (by decide) rfl rfl rfl hl.1 rfl (Nat.le_of_ble_eq_true rfl) dX12_read_37 ⟨Nat.le_of_ble_eq_true rfl, Nat.le_of_ble_eq_true rfl⟩) hL (fun u_380 H locs k_381 hW hL => ?_)
              obtain ⟨iu_380, fu_380, gu_380, xu_380⟩ := k_381
              have F_382 := hFm5.trans fu_380
              have F_383 := hFL855.trans fu_380
              have F_384 := hL5_.trans fu_380
              have g_385 : FF S u_380 (fl [20, 21, 24]) := FF.trans hGm5 (FF.to gu_380 (fl_sub (by decide)))
              have g_386 : FF S u_380 (fl [20, 21, 24]) := FF.trans hGL855 (FF.to gu_380 (fl_sub (by decide)))
              have g_387 : FF ((uF S 231 24 0)) u_380 (fl [20, 21, 24]) := FF.trans gL5_ (FF.to gu_380 (fl_sub (by decide)))
              refine lv_goto (tgt := 5) hx hb dX12_read_40 (by decide) ?_
              have q_388 : (-2147483648) ≤ u_380.1 231 20 ∧ u_380.1 231 20 ≤ 2147483647 := iu_380.fi 20
              have q_389 : (-2147483648) ≤ u_380.1 231 24 ∧ u_380.1 231 24 ≤ 2147483647 := iu_380.fi 24
              exact ih_5 u_380  _ _ _ (Nat.lt_of_lt_of_le (mf_lt (S := S5) (by omega) (by omega) (fun h => by have a9 := xu_380 h; omega)) (Nat.le_of_lt_succ hmeas)) iu_380 F_382 F_383 F_384 g_385 g_386 g_387 (fun h => by have e8 := (show u_380.1 231 20 = u_380.1 231 20 from rfl); have e7 := (show u_380.1 231 24 = u_380.1 231 24 from rfl); have a9 := xu_380 (by have e9 := (show u_380.1 231 20 = u_380.1 231 20 from rfl); omega); omega) (fun h => ⟨trivial, fun q t => (hH5 (by omega)).2 q (gTl.cons (.inr (.inr (xu_329.2.1 (by omega)))) (xu_380 h).2.1 t)⟩) hW hL (lv_sub hl [0] rfl)
  have q_390 : (-2147483648) ≤ S.1 231 20 ∧ S.1 231 20 ≤ 2147483647 := hI.fi 20
  have lk_391 : (uF S 231 24 0).1 231 20 = S.1 231 20 := uF_ne (fun h => absurd h.2 (by decide))
  have lk_392 : (uF S 231 24 0).1 231 24 = 0 := uF_on
  exact loop_5 (_ + 1) (uF S 231 24 0)  _ _ _ (Nat.lt_succ_self _) i_285 F_281 F_282 Fr.rf g_283 g_284 FF.rf (fun h => by have e8 := (show (uF S 231 24 0).1 231 20 = S.1 231 20 from uF_ne (fun h => absurd h.2 (by decide))); have e7 := (show (uF S 231 24 0).1 231 24 = 0 from uF_on); omega) (fun h => ⟨trivial, fun _ t => t⟩) hW hL (lv_sub hl [0] rfl)
