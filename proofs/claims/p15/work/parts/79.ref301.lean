/-! tellAll, tell -/
theorem dTO.gE {S : sS} (h : dTO S) (hs : S.1 231 14 ≤ 30000) : gE (S.2.1 244) (S.1 231 19) := ⟨by have := h.1; omega, fun t a b => h.2.2.1 t a b, h.2.2.2⟩
theorem dTO.gQ {S : sS} (h : dTO S) (hs : S.1 231 14 ≤ 2000) : gQ (S.2.1 244) (S.2.1 247) (S.2.1 245) (S.2.1 246) (S.1 231 19) := ⟨by have := h.1; omega, fun t a b => by have := (h.2.1 t a b).1; omega, fun t a b k => (h.2.1 t a b).2 k⟩
def RBn (S : sS) : Prop := ∀ x, -99999 ≤ S.2.2.1 255 x ∧ S.2.2.1 255 x ≤ 99999
theorem gT_3 {K V : Int → Int} {p q : Int} (h : gT K V p q) : p + 3 ≤ q := by
  rcases h with ⟨_, a, h1, b, h2, c, h3, d, h4, e, h5, h6⟩ | ⟨_, a, h1, b, h2, c, h3, d, h4, h5⟩ | ⟨_, a, h1, b, h2, ⟨_, h3⟩ | ⟨_, h3⟩⟩
  · have := h1.2; have := h2.2; have := h3.2; have := h4.2; have := h5.2; have := h6.2; omega
  · have := h1.2; have := gI_le h2; have := h3.2; have := gL_lt (fun _ _ t => gV_lt t) h4; have := h5.2; omega
  · have := h1.2; have := gI_le h2; have := h3.2; omega
  · have := h1.2; have := gI_le h2; have := h3.2; omega
theorem gRo_3 {K V : Int → Int} {n : Nat} {p q : Int} (h : gRo K V (gF K V n) p q) : p + 3 ≤ q := by
  obtain ⟨a, h1, b, h2, c, h3, d, h4, _, e, h5, h6⟩ := h
  have := h1.2; have := gRi_le h2; have := h3.2; have := gU_lt h4; have := gU_lt h5; have := h6.2
  omega
set_option maxRecDepth 100000 in
set_option maxHeartbeats 4000000 in
theorem s_X12_tellAll (l : Launch) (G : sG) (S : sS) {K V Fm Wd : Int → Int} {T : Int}  (hI : dX G S) (hK : S.2.1 244 = K) (hV : S.2.1 247 = V) (hFm : S.2.1 245 = Fm) (hWd : S.2.1 246 = Wd) (hQ : gQ K V Fm Wd T) (h20 : S.1 231 20 = 0) (hg : gPtE K V T) (hRB : Hd (∀ x, -99999 ≤ S.2.2.1 255 x ∧ S.2.2.1 255 x ≤ 99999)) : Met l yX12_tellAll (.code yX12_tellAll cX12_tellAll 3 none :: tb) (rmk 136 0 0) (sPc G 294 S [.ref (G.2.2.1 + 231)]) (sQv G 294 (fun u => dX G u ∧ Fr S u (pl [231, 248, 249, 250, 251, 252, 253, 254, 255, 256, 257, 258]) ∧ FF S u (fl [20, 21, 24, 25, 32, 33, 34, 35, 36, 40, 42, 43]) ∧ (Hd (∀ x, -99999 ≤ u.2.2.1 255 x ∧ u.2.2.1 255 x ≤ 99999) ∧ Hd (u.1 231 20 = 0 → (0 ≤ u.1 231 35 ∧ u.1 231 35 ≤ 12) ∧ (0 ≤ u.1 231 36 ∧ u.1 231 36 ≤ 16) ∧ ∀ t, 0 ≤ t → t ≤ 12 → -99999 ≤ u.2.2.1 256 t ∧ u.2.2.1 256 t ≤ 99999)))) 0 0 (sF G) := by
  refine sEnter (by decide) (Nat.le_of_ble_eq_true rfl) ?_
  intro p e s m args below meth c Cx hr hlk hnm hW ls hl
  have Cx : sC G p m c cX12_tellAll 3 s args RX12 := Cx
  obtain ⟨hx, hb, hml, hown, hts⟩ := id Cx.1
  have hL : sL G [] := sL_nil
  have hl : lv_has ls 3 [(0, .ref (G.2.2.1 + 231))] := hl
  have hW0 := hW
  have hQ1 := hQ.1
  obtain ⟨a0, ht0, hw0, b0, hu0, _, ⟨hs0, rfl⟩, d0, hr0, hk5, hdT⟩ := hg
  have hl0 := gTl_le (R := gT K V) (fun c x r => by have := gT_lt r; omega) ht0
  have hl1 := gU_lt hu0
  have hl2 := gTl_le (R := gRo K V (gF K V 30)) (fun c x r => gRo_lt r) hr0
  have join_155 : ∀ (S155 : sS)  (H : Heap) (locs : List Loc) (ls : Array Slot), (dX G S155) → (Fr S S155 (pl [231, 248, 249, 250, 251, 252, 253, 254, 255, 256, 257, 258])) → (Fr S S155 (pl [231, 248, 249, 250, 251, 252, 253, 254])) → (FF S S155 (fl [20, 21, 24, 25, 32, 33, 34, 35, 36, 40, 42, 43])) → (FF S S155 (fl [20, 21, 24, 25, 32, 33, 34, 35, 36, 42])) → (S155.1 231 20 = 0 ∧ S155.1 231 24 = a0 ∧ 3 * S155.1 231 25 ≤ a0 ∧ S155.1 231 36 = 0) → (Hd (S155.1 231 20 = 0 → NX S155 T)) → sW G 294 S155 H → sL G locs → lv_has ls 3 [(0, .ref (G.2.2.1 + 231))] → W p l e (rmk 136 0 0) s m args below meth c H locs 0 0 (MQ below (sQv G 294 (fun u => dX G u ∧ Fr S u (pl [231, 248, 249, 250, 251, 252, 253, 254, 255, 256, 257, 258]) ∧ FF S u (fl [20, 21, 24, 25, 32, 33, 34, 35, 36, 40, 42, 43]) ∧ (Hd (∀ x, -99999 ≤ u.2.2.1 255 x ∧ u.2.2.1 255 x ≤ 99999) ∧ Hd (u.1 231 20 = 0 → (0 ≤ u.1 231 35 ∧ u.1 231 35 ≤ 12) ∧ (0 ≤ u.1 231 36 ∧ u.1 231 36 ≤ 16) ∧ ∀ t, 0 ≤ t → t ≤ 12 → -99999 ≤ u.2.2.1 256 t ∧ u.2.2.1 256 t ≤ 99999)))) args s 0 0 (sF G)) (F0 m 155 ls []) := by
    intro S155  H locs ls hI155 hFm155 hL155_ hGm155 gL155_ h155 hN155 hW hL hl
    refine lv_aload_n hx hb dX12_tellAll_155 rfl (lv_at hl 0 rfl) ?_
    refine lv_aload_n hx hb dX12_tellAll_156 rfl (lv_at hl 0 rfl) ?_
    refine lv_iconst (v := iv 0) hx hb dX12_tellAll_157 (by decide) ?_
    have q_1 : (-2147483648) ≤ S155.1 231 24 ∧ S155.1 231 24 ≤ 2147483647 := hI155.fi 24
    refine sBi (sV (As := [.int (iv 0)]) (rest := [.ref (G.2.2.1 + 231)]) (k := 231) Cx (s_X12_isWord l G S155 (sv := 0) (K := K) (V := V) (pz := a0) hI155 (by omega) ((funext fun j => (hL155_ 244 rfl).2.1 j : S155.2.1 244 = S.2.1 244).trans hK) ((funext fun j => (hL155_ 247 rfl).2.1 j : S155.2.1 247 = S.2.1 247).trans hV) (by omega) (by omega)) (c_X12_325 Cx rfl rfl (rmk_ok (by omega) (by decide))) hW (by decide) rfl rfl rfl hl.1 rfl (Nat.le_of_ble_eq_true rfl) dX12_tellAll_158 ⟨Nat.le_of_ble_eq_true rfl, Nat.le_of_ble_eq_true rfl⟩) hL (fun r_4 u_2 H locs k_3 hW hL => ?_)
    obtain ⟨eu_2, xu_2⟩ := k_3
    rw [eu_2] at hW
    refine p_X12_394 Cx hW hL (k := 231) (by decide) rfl (by omega) dX12_tellAll_161 (fun H locs hW hL => ?_)
    have F_5 : Fr S (uF S155 231 40 r_4) (pl [231, 248, 249, 250, 251, 252, 253, 254, 255, 256, 257, 258]) := hFm155.F rfl
    have F_6 : Fr S (uF S155 231 40 r_4) (pl [231, 248, 249, 250, 251, 252, 253, 254]) := hL155_.F rfl
    have g_7 : FF S (uF S155 231 40 r_4) (fl [20, 21, 24, 25, 32, 33, 34, 35, 36, 40, 42, 43]) := FF.F hGm155 rfl
    have i_8 : dX G (uF S155 231 40 r_4) := hI155.F (i := 40) (show 0 ≤ r_4 ∧ r_4 ≤ 1 from ⟨by omega, by omega⟩)
    refine lv_aload_n hx hb dX12_tellAll_164 rfl (lv_at hl 0 rfl) ?_
    refine lv_dup hx hb dX12_tellAll_165 rfl ?_
    refine g_X12_315 Cx hW (k := 231) (by decide) rfl (v := S155.1 231 24) (uF_ne (fun h => absurd h.2 (by decide))) dX12_tellAll_166 ?_
    refine lv_iconst (v := iv 1) hx hb dX12_tellAll_169 (by decide) ?_
    refine r_iadd hx hb dX12_tellAll_170 ?_
    refine p_X12_315 Cx hW hL (k := 231) (by decide) rfl dX12_tellAll_171 (fun H locs hW hL => ?_)
    have F_9 : Fr S (uF (uF S155 231 40 r_4) 231 24 ((S155.1 231 24) + 1)) (pl [231, 248, 249, 250, 251, 252, 253, 254, 255, 256, 257, 258]) := F_5.F rfl
    have F_10 : Fr S (uF (uF S155 231 40 r_4) 231 24 ((S155.1 231 24) + 1)) (pl [231, 248, 249, 250, 251, 252, 253, 254]) := F_6.F rfl
    have g_11 : FF S (uF (uF S155 231 40 r_4) 231 24 ((S155.1 231 24) + 1)) (fl [20, 21, 24, 25, 32, 33, 34, 35, 36, 40, 42, 43]) := FF.F g_7 rfl
    have i_12 : dX G (uF (uF S155 231 40 r_4) 231 24 ((S155.1 231 24) + 1)) := i_8.F (i := 24) (show (-2147483648) ≤ (S155.1 231 24) + 1 ∧ (S155.1 231 24) + 1 ≤ 2147483647 from ⟨by omega, by omega⟩)
    refine lv_aload_n hx hb dX12_tellAll_174 rfl (lv_at hl 0 rfl) ?_
    refine lv_iconst (v := iv 0) hx hb dX12_tellAll_175 (by decide) ?_
    have lk_13 : (uF (uF S155 231 40 r_4) 231 24 ((S155.1 231 24) + 1)).1 231 24 = (S155.1 231 24) + 1 := uF_on
    have q_14 : (-2147483648) ≤ S155.1 231 20 ∧ S155.1 231 20 ≤ 2147483647 := hI155.fi 20
    have lk_15 : (uF (uF S155 231 40 r_4) 231 24 ((S155.1 231 24) + 1)).1 231 20 = S155.1 231 20 := (uF_ne (fun h => absurd h.2 (by decide))).trans (uF_ne (fun h => absurd h.2 (by decide)))
    have q_16 : (-2147483648) ≤ S155.1 231 25 ∧ S155.1 231 25 ≤ 2147483647 := hI155.fi 25
    have lk_17 : (uF (uF S155 231 40 r_4) 231 24 ((S155.1 231 24) + 1)).1 231 25 = S155.1 231 25 := (uF_ne (fun h => absurd h.2 (by decide))).trans (uF_ne (fun h => absurd h.2 (by decide)))
    refine sBv (sV (As := [.int (iv 0)]) (rest := []) (k := 231) Cx ((ex_all l G K V Fm Wd T hQ 30).2.2 (uF (uF S155 231 40 r_4) 231 24 ((S155.1 231 24) + 1)) (a0 + 1) b0 0 i_12 ((funext fun j => (uF_a).trans ((uF_a).trans ((hL155_ 244 rfl).2.1 j)) : (uF (uF S155 231 40 r_4) 231 24 ((S155.1 231 24) + 1)).2.1 244 = S.2.1 244).trans hK) ((funext fun j => (uF_a).trans ((uF_a).trans ((hL155_ 247 rfl).2.1 j)) : (uF (uF S155 231 40 r_4) 231 24 ((S155.1 231 24) + 1)).2.1 247 = S.2.1 247).trans hV) ((funext fun j => (uF_a).trans ((uF_a).trans ((hL155_ 245 rfl).2.1 j)) : (uF (uF S155 231 40 r_4) 231 24 ((S155.1 231 24) + 1)).2.1 245 = S.2.1 245).trans hFm) ((funext fun j => (uF_a).trans ((uF_a).trans ((hL155_ 246 rfl).2.1 j)) : (uF (uF S155 231 40 r_4) 231 24 ((S155.1 231 24) + 1)).2.1 246 = S.2.1 246).trans hWd) (by omega) (by omega) (fun _ => hu0) (fun h => (NX.cg (S := S155) (u := (uF (uF S155 231 40 r_4) 231 24 ((S155.1 231 24) + 1))) (hN155 (by have e9 := (show (uF (uF S155 231 40 r_4) 231 24 ((S155.1 231 24) + 1)).1 231 20 = S155.1 231 20 from (uF_ne (fun h => absurd h.2 (by decide))).trans (uF_ne (fun h => absurd h.2 (by decide)))); omega)) (NR.eq (funext fun j => (uF_a).trans (uF_a)) (funext fun j => (uF_a).trans (uF_a)) (funext fun j => (uF_a).trans (uF_a)) (funext fun j => (uF_a).trans (uF_a)) (funext fun j => (uF_a).trans (uF_a))) ((uF_ne (fun h => absurd h.2 (by decide))).trans (uF_ne (fun h => absurd h.2 (by decide)))) ((uF_ne (fun h => absurd h.2 (by decide))).trans (uF_ne (fun h => absurd h.2 (by decide)))) ((uF_ne (fun h => absurd h.2 (by decide))).trans (uF_ne (fun h => absurd h.2 (by decide)))) (funext fun j => (uF_a).trans (uF_a)))) (fun _ => by omega) (by omega)) (c_X12_398 Cx rfl rfl (rmk_ok (by omega) (by decide))) hW (by decide) rfl rfl rfl hl.1 rfl (Nat.le_of_ble_eq_true rfl) dX12_tellAll_176 ⟨Nat.le_of_ble_eq_true rfl, Nat.le_of_ble_eq_true rfl⟩) hL (fun u_18 H locs k_19 hW hL => ?_)
    obtain ⟨iu_18, fu_18, gu_18, xu_18⟩ := k_19
    have F_20 := F_9.trans (fu_18.to (pl_sub (by decide)))
    have g_21 : FF S u_18 (fl [20, 21, 24, 25, 32, 33, 34, 35, 36, 40, 42, 43]) := FF.trans g_11 (FF.to gu_18 (fl_sub (by decide)))
    have nu_18 : Hd (u_18.1 231 20 = 0 → NX u_18 T) := fun h => NX.cg (S := (uF (uF S155 231 40 r_4) 231 24 ((S155.1 231 24) + 1))) ((fun h => (NX.cg (S := S155) (u := (uF (uF S155 231 40 r_4) 231 24 ((S155.1 231 24) + 1))) (hN155 (by have e9 := (show (uF (uF S155 231 40 r_4) 231 24 ((S155.1 231 24) + 1)).1 231 20 = S155.1 231 20 from (uF_ne (fun h => absurd h.2 (by decide))).trans (uF_ne (fun h => absurd h.2 (by decide)))); omega)) (NR.eq (funext fun j => (uF_a).trans (uF_a)) (funext fun j => (uF_a).trans (uF_a)) (funext fun j => (uF_a).trans (uF_a)) (funext fun j => (uF_a).trans (uF_a)) (funext fun j => (uF_a).trans (uF_a))) ((uF_ne (fun h => absurd h.2 (by decide))).trans (uF_ne (fun h => absurd h.2 (by decide)))) ((uF_ne (fun h => absurd h.2 (by decide))).trans (uF_ne (fun h => absurd h.2 (by decide)))) ((uF_ne (fun h => absurd h.2 (by decide))).trans (uF_ne (fun h => absurd h.2 (by decide)))) (funext fun j => (uF_a).trans (uF_a)))) (xu_18.2.2.2 h).1) xu_18.2.1 (xu_18.2.2.2 h).2.2.1 (gu_18 32 rfl) (gu_18 35 rfl) (funext fun j => (fu_18 253 rfl).2.1 j)
    refine lv_iconst (v := iv 0) hx hb dX12_tellAll_179 (by decide) ?_
    refine lv_istore_n (lv' := [(1, .int (iv 0)), (0, .ref (G.2.2.1 + 231))]) hx hb dX12_tellAll_180 rfl hl (by decide) rfl (fun ls hl => ?_)
    have loop_181 : ∀ (fuel : Nat) (S181 : sS) (k : Int) (H : Heap) (locs : List Loc) (ls : Array Slot), (13 - k).toNat < fuel → (dX G S181) → (Fr S S181 (pl [231, 248, 249, 250, 251, 252, 253, 254, 255, 256, 257, 258])) → (Fr u_18 S181 (pl [256])) → (FF S S181 (fl [20, 21, 24, 25, 32, 33, 34, 35, 36, 40, 42, 43])) → (FF u_18 S181 (fl [])) → (0 ≤ k ∧ k ≤ 13) → (Hd (u_18.1 231 20 = 0 → ∀ t, 0 ≤ t → t < k → -99999 ≤ S181.2.2.1 256 t ∧ S181.2.2.1 256 t ≤ 99999)) → sW G 294 S181 H → sL G locs → lv_has ls 3 [(1, .int (iv k)), (0, .ref (G.2.2.1 + 231))] → W p l e (rmk 136 0 0) s m args below meth c H locs 0 0 (MQ below (sQv G 294 (fun u => dX G u ∧ Fr S u (pl [231, 248, 249, 250, 251, 252, 253, 254, 255, 256, 257, 258]) ∧ FF S u (fl [20, 21, 24, 25, 32, 33, 34, 35, 36, 40, 42, 43]) ∧ (Hd (∀ x, -99999 ≤ u.2.2.1 255 x ∧ u.2.2.1 255 x ≤ 99999) ∧ Hd (u.1 231 20 = 0 → (0 ≤ u.1 231 35 ∧ u.1 231 35 ≤ 12) ∧ (0 ≤ u.1 231 36 ∧ u.1 231 36 ≤ 16) ∧ ∀ t, 0 ≤ t → t ≤ 12 → -99999 ≤ u.2.2.1 256 t ∧ u.2.2.1 256 t ≤ 99999)))) args s 0 0 (sF G)) (F0 m 181 ls []) := by
      intro fuel
      induction fuel with
      | zero => intro S181 k H locs ls hmeas hI181 hFm181 hL181_ hGm181 gL181_ hk hG181 hW hL hl; exact absurd hmeas (Nat.not_lt_zero _)
      | succ fuel ih_181 =>
        intro S181 k H locs ls hmeas hI181 hFm181 hL181_ hGm181 gL181_ hk hG181 hW hL hl
        refine lv_iload_n hx hb dX12_tellAll_181 rfl (lv_at hl 0 rfl) ?_
        refine lv_bipush (v := iv 12) hx hb dX12_tellAll_182 (by decide) ?_
        refine r_icmp_gt (tgt := 222) hx hb ⟨(by omega), (by omega)⟩ ⟨(by omega), (by omega)⟩ dX12_tellAll_184 (by decide) (fun c_22 => ?_) (fun c_22 => ?_)
        · refine lv_aload_n hx hb dX12_tellAll_222 rfl (lv_at hl 1 rfl) ?_
          refine lv_dup hx hb dX12_tellAll_223 rfl ?_
          have q_23 : (-2147483648) ≤ u_18.1 231 24 ∧ u_18.1 231 24 ≤ 2147483647 := iu_18.fi 24
          refine g_X12_315 Cx hW (k := 231) (by decide) rfl (v := u_18.1 231 24) (gL181_ 24 rfl) dX12_tellAll_224 ?_
          refine lv_iconst (v := iv 1) hx hb dX12_tellAll_227 (by decide) ?_
          refine r_iadd hx hb dX12_tellAll_228 ?_
          refine p_X12_315 Cx hW hL (k := 231) (by decide) rfl dX12_tellAll_229 (fun H locs hW hL => ?_)
          have F_24 : Fr S (uF S181 231 24 ((u_18.1 231 24) + 1)) (pl [231, 248, 249, 250, 251, 252, 253, 254, 255, 256, 257, 258]) := hFm181.F rfl
          have g_25 : FF S (uF S181 231 24 ((u_18.1 231 24) + 1)) (fl [20, 21, 24, 25, 32, 33, 34, 35, 36, 40, 42, 43]) := FF.F hGm181 rfl
          have i_26 : dX G (uF S181 231 24 ((u_18.1 231 24) + 1)) := hI181.F (i := 24) (show (-2147483648) ≤ (u_18.1 231 24) + 1 ∧ (u_18.1 231 24) + 1 ≤ 2147483647 from ⟨by omega, by omega⟩)
          have loop_232 : ∀ (fuel : Nat) (S232 : sS)  (H : Heap) (locs : List Loc) (ls : Array Slot), mf S232 T < fuel → (dX G S232) → (Fr S S232 (pl [231, 248, 249, 250, 251, 252, 253, 254, 255, 256, 257, 258])) → (Fr ((uF S181 231 24 ((u_18.1 231 24) + 1))) S232 (pl [231, 248, 249, 250, 251, 252, 255, 257, 258])) → (FF S S232 (fl [20, 21, 24, 25, 32, 33, 34, 35, 36, 40, 42, 43])) → (FF ((uF S181 231 24 ((u_18.1 231 24) + 1))) S232 (fl [20, 21, 24, 25, 36, 42, 43])) → (Hd (S232.1 231 20 = 0 → NX S232 T)) → (Hd (S232.1 231 20 = 0 → 0 ≤ S232.1 231 24 ∧ 3 * S232.1 231 25 ≤ S232.1 231 24 ∧ (0 ≤ S232.1 231 36 ∧ S232.1 231 36 ≤ 16) ∧ gTl (fun c => gW K V c 6) (gRo K V (gF K V 30)) (S232.1 231 24) d0 ∧ u_18.1 231 20 = 0)) → (Hd (∀ x, -99999 ≤ S232.2.2.1 255 x ∧ S232.2.2.1 255 x ≤ 99999)) → sW G 294 S232 H → sL G locs → lv_has ls 3 [(0, .ref (G.2.2.1 + 231))] → W p l e (rmk 136 0 0) s m args below meth c H locs 0 0 (MQ below (sQv G 294 (fun u => dX G u ∧ Fr S u (pl [231, 248, 249, 250, 251, 252, 253, 254, 255, 256, 257, 258]) ∧ FF S u (fl [20, 21, 24, 25, 32, 33, 34, 35, 36, 40, 42, 43]) ∧ (Hd (∀ x, -99999 ≤ u.2.2.1 255 x ∧ u.2.2.1 255 x ≤ 99999) ∧ Hd (u.1 231 20 = 0 → (0 ≤ u.1 231 35 ∧ u.1 231 35 ≤ 12) ∧ (0 ≤ u.1 231 36 ∧ u.1 231 36 ≤ 16) ∧ ∀ t, 0 ≤ t → t ≤ 12 → -99999 ≤ u.2.2.1 256 t ∧ u.2.2.1 256 t ≤ 99999)))) args s 0 0 (sF G)) (F0 m 232 ls []) := by
            intro fuel
            induction fuel with
            | zero => intro S232  H locs ls hmeas hI232 hFm232 hL232_ hGm232 gL232_ hN232 hC232 hB232 hW hL hl; exact absurd hmeas (Nat.not_lt_zero _)
            | succ fuel ih_232 =>
              intro S232  H locs ls hmeas hI232 hFm232 hL232_ hGm232 gL232_ hN232 hC232 hB232 hW hL hl
              have hm232 := hmeas
              refine lv_aload_n hx hb dX12_tellAll_232 rfl (lv_at hl 0 rfl) ?_
              have q_27 : (-2147483648) ≤ S232.1 231 20 ∧ S232.1 231 20 ≤ 2147483647 := hI232.fi 20
              refine g_X12_270 Cx hW (k := 231) (by decide) rfl (v := S232.1 231 20) rfl dX12_tellAll_233 ?_
              refine r_if_ne (tgt := 255) hx hb ⟨(by omega), (by omega)⟩ dX12_tellAll_236 (by decide) (fun c_28 => ?_) (fun c_28 => ?_)
              · have q_29 : (-2147483648) ≤ S155.1 231 35 ∧ S155.1 231 35 ≤ 2147483647 := hI155.fi 35
                have lk_30 : S232.1 231 35 = S155.1 231 35 := (gL232_ 35 rfl).trans ((uF_ne (fun h => absurd h.2 (by decide))).trans ((gL181_ 35 rfl).trans ((gu_18 35 rfl).trans ((uF_ne (fun h => absurd h.2 (by decide))).trans (uF_ne (fun h => absurd h.2 (by decide)))))))
                have q_31 : (-2147483648) ≤ S232.1 231 36 ∧ S232.1 231 36 ≤ 2147483647 := hI232.fi 36
                exact sVret Cx hr hlk hW hL ⟨hI232, hFm232, hGm232, ⟨hB232, (fun h => by have c9 := hC232 h; have n9 := (hN232 h).2.2.2; exact ⟨by omega, by omega, (fun t a b => by rw [show S232.2.2.1 256 t = S181.2.2.1 256 t from ((hL232_ 256 rfl).2.2.1 t).trans (uF_l)]; exact hG181 c9.2.2.2.2 t a (by omega))⟩)⟩⟩ dX12_tellAll_255
              · have c232 := hC232 (by omega)
                have hl7 := gTl_le (R := gRo K V (gF K V 30)) (fun c x r => gRo_lt r) c232.2.2.2.1
                refine lv_aload_n hx hb dX12_tellAll_239 rfl (lv_at hl 0 rfl) ?_
                refine lv_bipush (v := iv 6) hx hb dX12_tellAll_240 (by decide) ?_
                have q_32 : (-2147483648) ≤ S232.1 231 24 ∧ S232.1 231 24 ≤ 2147483647 := hI232.fi 24
                refine sBi (sV (As := [.int (iv 6)]) (rest := []) (k := 231) Cx (s_X12_isWord l G S232 (sv := 6) (K := K) (V := V) (pz := S232.1 231 24) hI232 (by omega) ((funext fun j => ((hL232_ 244 rfl).2.1 j).trans ((uF_a).trans (((hL181_ 244 rfl).2.1 j).trans (((fu_18 244 rfl).2.1 j).trans ((uF_a).trans ((uF_a).trans ((hL155_ 244 rfl).2.1 j)))))) : S232.2.1 244 = S.2.1 244).trans hK) ((funext fun j => ((hL232_ 247 rfl).2.1 j).trans ((uF_a).trans (((hL181_ 247 rfl).2.1 j).trans (((fu_18 247 rfl).2.1 j).trans ((uF_a).trans ((uF_a).trans ((hL155_ 247 rfl).2.1 j)))))) : S232.2.1 247 = S.2.1 247).trans hV) (by omega) (by omega)) (c_X12_325 Cx rfl rfl (rmk_ok (by omega) (by decide))) hW (by decide) rfl rfl rfl hl.1 rfl (Nat.le_of_ble_eq_true rfl) dX12_tellAll_242 ⟨Nat.le_of_ble_eq_true rfl, Nat.le_of_ble_eq_true rfl⟩) hL (fun r_35 u_33 H locs k_34 hW hL => ?_)
                obtain ⟨eu_33, xu_33⟩ := k_34
                rw [eu_33] at hW
                refine r_if_eq (tgt := 255) hx hb ⟨(by omega), (by omega)⟩ dX12_tellAll_245 (by decide) (fun c_36 => ?_) (fun c_36 => ?_)
                · have q_37 : (-2147483648) ≤ S155.1 231 35 ∧ S155.1 231 35 ≤ 2147483647 := hI155.fi 35
                  have lk_38 : S232.1 231 35 = S155.1 231 35 := (gL232_ 35 rfl).trans ((uF_ne (fun h => absurd h.2 (by decide))).trans ((gL181_ 35 rfl).trans ((gu_18 35 rfl).trans ((uF_ne (fun h => absurd h.2 (by decide))).trans (uF_ne (fun h => absurd h.2 (by decide)))))))
                  have q_39 : (-2147483648) ≤ S232.1 231 36 ∧ S232.1 231 36 ≤ 2147483647 := hI232.fi 36
                  exact sVret Cx hr hlk hW hL ⟨hI232, hFm232, hGm232, ⟨hB232, (fun h => by have c9 := hC232 h; have n9 := (hN232 h).2.2.2; exact ⟨by omega, by omega, (fun t a b => by rw [show S232.2.2.1 256 t = S181.2.2.1 256 t from ((hL232_ 256 rfl).2.2.1 t).trans (uF_l)]; exact hG181 c9.2.2.2.2 t a (by omega))⟩)⟩⟩ dX12_tellAll_255
                · obtain ⟨e2, hr2, ht2⟩ := gTl.inv c232.2.2.2.1 (xu_33.2.1 (by omega))
                  have hl8 := gRo_3 hr2
                  have hl9 := gTl_le (R := gRo K V (gF K V 30)) (fun c x r => gRo_lt r) ht2
                  refine lv_aload_n hx hb dX12_tellAll_248 rfl (lv_at hl 0 rfl) ?_
                  have q_40 : (-2147483648) ≤ S232.1 231 25 ∧ S232.1 231 25 ≤ 2147483647 := hI232.fi 25
                  have q_41 : (-2147483648) ≤ S232.1 231 36 ∧ S232.1 231 36 ≤ 2147483647 := hI232.fi 36
                  refine sBv (sV (As := []) (rest := []) (k := 231) Cx (s_X12_tellRow l G S232 (K := K) (V := V) (Fm := Fm) (Wd := Wd) (T := T) (pz := S232.1 231 24) (q := e2) hI232 ((funext fun j => ((hL232_ 244 rfl).2.1 j).trans ((uF_a).trans (((hL181_ 244 rfl).2.1 j).trans (((fu_18 244 rfl).2.1 j).trans ((uF_a).trans ((uF_a).trans ((hL155_ 244 rfl).2.1 j)))))) : S232.2.1 244 = S.2.1 244).trans hK) ((funext fun j => ((hL232_ 247 rfl).2.1 j).trans ((uF_a).trans (((hL181_ 247 rfl).2.1 j).trans (((fu_18 247 rfl).2.1 j).trans ((uF_a).trans ((uF_a).trans ((hL155_ 247 rfl).2.1 j)))))) : S232.2.1 247 = S.2.1 247).trans hV) ((funext fun j => ((hL232_ 245 rfl).2.1 j).trans ((uF_a).trans (((hL181_ 245 rfl).2.1 j).trans (((fu_18 245 rfl).2.1 j).trans ((uF_a).trans ((uF_a).trans ((hL155_ 245 rfl).2.1 j)))))) : S232.2.1 245 = S.2.1 245).trans hFm) ((funext fun j => ((hL232_ 246 rfl).2.1 j).trans ((uF_a).trans (((hL181_ 246 rfl).2.1 j).trans (((fu_18 246 rfl).2.1 j).trans ((uF_a).trans ((uF_a).trans ((hL155_ 246 rfl).2.1 j)))))) : S232.2.1 246 = S.2.1 246).trans hWd) hQ (by omega) hN232 (by omega) (by omega) hr2 (by omega) (by omega) hB232) (c_X12_401 Cx rfl rfl (rmk_ok (by omega) (by decide))) hW (by decide) rfl rfl rfl hl.1 rfl (Nat.le_of_ble_eq_true rfl) dX12_tellAll_249 ⟨Nat.le_of_ble_eq_true rfl, Nat.le_of_ble_eq_true rfl⟩) hL (fun u_42 H locs k_43 hW hL => ?_)
                  obtain ⟨iu_42, fu_42, gu_42, xu_42⟩ := k_43
                  have F_44 := hFm232.trans (fu_42.to (pl_sub (by decide)))
                  have F_45 := hL232_.trans fu_42
                  have g_46 : FF S u_42 (fl [20, 21, 24, 25, 32, 33, 34, 35, 36, 40, 42, 43]) := FF.trans hGm232 (FF.to gu_42 (fl_sub (by decide)))
                  have g_47 : FF ((uF S181 231 24 ((u_18.1 231 24) + 1))) u_42 (fl [20, 21, 24, 25, 36, 42, 43]) := FF.trans gL232_ (FF.to gu_42 (fl_sub (by decide)))
                  refine lv_goto (tgt := 232) hx hb dX12_tellAll_252 (by decide) ?_
                  have q_48 : (-2147483648) ≤ u_42.1 231 20 ∧ u_42.1 231 20 ≤ 2147483647 := iu_42.fi 20
                  have q_49 : (-2147483648) ≤ u_42.1 231 24 ∧ u_42.1 231 24 ≤ 2147483647 := iu_42.fi 24
                  have q_50 : (-2147483648) ≤ u_42.1 231 25 ∧ u_42.1 231 25 ≤ 2147483647 := iu_42.fi 25
                  have q_51 : (-2147483648) ≤ u_42.1 231 36 ∧ u_42.1 231 36 ≤ 2147483647 := iu_42.fi 36
                  exact ih_232 u_42  _ _ _ (Nat.lt_of_lt_of_le (mf_lt (S := S232) (by omega) (by omega) (fun h => by have a9 := xu_42.2 h; omega)) (Nat.le_of_lt_succ hm232)) iu_42 F_44 F_45 g_46 g_47 (fun h => (xu_42.2 h).1) (fun h => by have a9 := xu_42.2 h; exact ⟨by omega, by omega, by omega, (by rw [a9.2.2.1]; exact ht2), c232.2.2.2.2⟩) xu_42.1 hW hL (lv_sub hl [0] rfl)
          have q_52 : (-2147483648) ≤ u_18.1 231 20 ∧ u_18.1 231 20 ≤ 2147483647 := iu_18.fi 20
          have lk_53 : (uF S181 231 24 ((u_18.1 231 24) + 1)).1 231 20 = u_18.1 231 20 := (uF_ne (fun h => absurd h.2 (by decide))).trans (gL181_ 20 rfl)
          have lk_54 : (uF S181 231 24 ((u_18.1 231 24) + 1)).1 231 24 = (u_18.1 231 24) + 1 := uF_on
          have q_55 : (-2147483648) ≤ u_18.1 231 25 ∧ u_18.1 231 25 ≤ 2147483647 := iu_18.fi 25
          have lk_56 : (uF S181 231 24 ((u_18.1 231 24) + 1)).1 231 25 = u_18.1 231 25 := (uF_ne (fun h => absurd h.2 (by decide))).trans (gL181_ 25 rfl)
          have q_57 : (-2147483648) ≤ S155.1 231 36 ∧ S155.1 231 36 ≤ 2147483647 := hI155.fi 36
          have lk_58 : (uF S181 231 24 ((u_18.1 231 24) + 1)).1 231 36 = S155.1 231 36 := (uF_ne (fun h => absurd h.2 (by decide))).trans ((gL181_ 36 rfl).trans ((gu_18 36 rfl).trans ((uF_ne (fun h => absurd h.2 (by decide))).trans (uF_ne (fun h => absurd h.2 (by decide))))))
          exact loop_232 (_ + 1) (uF S181 231 24 ((u_18.1 231 24) + 1))  _ _ _ (Nat.lt_succ_self _) i_26 F_24 Fr.rf g_25 FF.rf (fun h => (NX.cg (S := u_18) (u := (uF S181 231 24 ((u_18.1 231 24) + 1))) (nu_18 (by have e9 := (show (uF S181 231 24 ((u_18.1 231 24) + 1)).1 231 20 = u_18.1 231 20 from (uF_ne (fun h => absurd h.2 (by decide))).trans (gL181_ 20 rfl)); omega)) (NR.eq (funext fun j => (uF_a).trans ((hL181_ 248 rfl).2.1 j)) (funext fun j => (uF_a).trans ((hL181_ 249 rfl).2.1 j)) (funext fun j => (uF_a).trans ((hL181_ 250 rfl).2.1 j)) (funext fun j => (uF_a).trans ((hL181_ 251 rfl).2.1 j)) (funext fun j => (uF_a).trans ((hL181_ 252 rfl).2.1 j))) ((uF_ne (fun h => absurd h.2 (by decide))).trans (gL181_ 25 rfl)) ((uF_ne (fun h => absurd h.2 (by decide))).trans (gL181_ 32 rfl)) ((uF_ne (fun h => absurd h.2 (by decide))).trans (gL181_ 35 rfl)) (funext fun j => (uF_a).trans ((hL181_ 253 rfl).2.1 j)))) (fun h => by have y20 := (show (uF S181 231 24 ((u_18.1 231 24) + 1)).1 231 20 = u_18.1 231 20 from (uF_ne (fun h => absurd h.2 (by decide))).trans (gL181_ 20 rfl)); have y24 := (show (uF S181 231 24 ((u_18.1 231 24) + 1)).1 231 24 = (u_18.1 231 24) + 1 from uF_on); have y25 := (show (uF S181 231 24 ((u_18.1 231 24) + 1)).1 231 25 = u_18.1 231 25 from (uF_ne (fun h => absurd h.2 (by decide))).trans (gL181_ 25 rfl)); have y36 := (show (uF S181 231 24 ((u_18.1 231 24) + 1)).1 231 36 = S155.1 231 36 from (uF_ne (fun h => absurd h.2 (by decide))).trans ((gL181_ 36 rfl).trans ((gu_18 36 rfl).trans ((uF_ne (fun h => absurd h.2 (by decide))).trans (uF_ne (fun h => absurd h.2 (by decide))))))); have a9 := xu_18.2.2.2 (by omega); exact ⟨by omega, by omega, by omega, (by rw [y24, show u_18.1 231 24 = b0 by omega]; exact hr0), by omega⟩) (fun x => by rw [show (uF S181 231 24 ((u_18.1 231 24) + 1)).2.2.1 255 x = S.2.2.1 255 x from (uF_l).trans (((hL181_ 255 rfl).2.2.1 x).trans (((fu_18 255 rfl).2.2.1 x).trans ((uF_l).trans ((uF_l).trans ((hL155_ 255 rfl).2.2.1 x)))))]; exact hRB x) hW hL (lv_sub hl [1] rfl)
        · refine lv_aload_n hx hb dX12_tellAll_187 rfl (lv_at hl 1 rfl) ?_
          refine g_X12_85 Cx hW (k := 231) (by decide) rfl (v := .ref (G.2.2.1 + 256)) (rd_39 hI181) dX12_tellAll_188 ?_
          refine lv_iload_n hx hb dX12_tellAll_191 rfl (lv_at hl 0 rfl) ?_
          refine lv_aload_n hx hb dX12_tellAll_192 rfl (lv_at hl 1 rfl) ?_
          refine g_X12_394 Cx hW (k := 231) (by decide) rfl (v := r_4) ((gL181_ 40 rfl).trans ((gu_18 40 rfl).trans ((uF_ne (fun h => absurd h.2 (by decide))).trans (uF_on)))) dX12_tellAll_193 ?_
          refine r_if_eq (tgt := 208) hx hb ⟨(by omega), (by omega)⟩ dX12_tellAll_196 (by decide) (fun c_59 => ?_) (fun c_59 => ?_)
          · refine lv_aload_n hx hb dX12_tellAll_208 rfl (lv_at hl 1 rfl) ?_
            refine g_X12_88 Cx hW (k := 231) (by decide) rfl (v := .ref (G.2.2.1 + 257)) (rd_41 hI181) dX12_tellAll_209 ?_
            refine lv_iload_n hx hb dX12_tellAll_212 rfl (lv_at hl 0 rfl) ?_
            refine rLald Cx hW (k := 257) (by decide) rfl (by decide) (by omega) (by omega) dX12_tellAll_213 ?_
            have q_60 : -9223372036854775808 ≤ u_18.2.2.1 257 k ∧ u_18.2.2.1 257 k ≤ 9223372036854775807 := iu_18.li 257 k
            refine r_j (b := u_18.2.2.1 257 k) ((hL181_ 257 rfl).2.2.1 k) ?_
            refine r_lneg hx hb dX12_tellAll_214 ?_
            obtain ⟨zg, ezg, lzg, hzg, fzg⟩ := jv_h (-(u_18.2.2.1 257 k))
            rw [ezg]
            refine rLast Cx hW hL (k := 256) (by decide) rfl (by decide) (by omega) (by omega) dX12_tellAll_215 (fun H locs hW hL => ?_)
            have F_61 : Fr S (uL S181 256 k zg) (pl [231, 248, 249, 250, 251, 252, 253, 254, 255, 256, 257, 258]) := hFm181.L rfl
            have F_62 : Fr u_18 (uL S181 256 k zg) (pl [256]) := hL181_.L rfl
            have i_63 : dX G (uL S181 256 k zg) := hI181.L ⟨by omega, by omega⟩
            refine lv_iinc (v := iv (k + 1)) (lv' := [(1, .int (iv (k + 1))), (0, .ref (G.2.2.1 + 231))]) hx hb dX12_tellAll_216 hl (k := 0) rfl ((Int32.ofInt_add _ _).symm) (by decide) rfl (fun ls hl => ?_)
            refine lv_goto (tgt := 181) hx hb dX12_tellAll_219 (by decide) ?_
            exact ih_181 (uL S181 256 k zg) (k + 1) _ _ _ (by omega) i_63 F_61 F_62 hGm181 gL181_ (by omega) (fun h t a b => by have y := (xu_18.2.2.2 h).2.2.2 k (by omega) (by omega); rw [Int.zero_add] at y; have y3 := fzg (by omega) (by omega); by_cases e : t = k; (rw [e, uL_on]; omega); rw [uL_ne (fun h => e h.2)]; exact hG181 h t a (by omega)) hW hL (lv_sub hl [0, 1] rfl)
          · refine lv_aload_n hx hb dX12_tellAll_199 rfl (lv_at hl 1 rfl) ?_
            refine g_X12_88 Cx hW (k := 231) (by decide) rfl (v := .ref (G.2.2.1 + 257)) (rd_41 hI181) dX12_tellAll_200 ?_
            refine lv_iload_n hx hb dX12_tellAll_203 rfl (lv_at hl 0 rfl) ?_
            refine rLald Cx hW (k := 257) (by decide) rfl (by decide) (by omega) (by omega) dX12_tellAll_204 ?_
            have q_64 : -9223372036854775808 ≤ u_18.2.2.1 257 k ∧ u_18.2.2.1 257 k ≤ 9223372036854775807 := iu_18.li 257 k
            refine r_j (b := u_18.2.2.1 257 k) ((hL181_ 257 rfl).2.2.1 k) ?_
            refine lv_goto (tgt := 215) hx hb dX12_tellAll_205 (by decide) ?_
            refine rLast Cx hW hL (k := 256) (by decide) rfl (by decide) (by omega) (by omega) dX12_tellAll_215 (fun H locs hW hL => ?_)
            have F_65 : Fr S (uL S181 256 k (u_18.2.2.1 257 k)) (pl [231, 248, 249, 250, 251, 252, 253, 254, 255, 256, 257, 258]) := hFm181.L rfl
            have F_66 : Fr u_18 (uL S181 256 k (u_18.2.2.1 257 k)) (pl [256]) := hL181_.L rfl
            have i_67 : dX G (uL S181 256 k (u_18.2.2.1 257 k)) := hI181.L ⟨by omega, by omega⟩
            refine lv_iinc (v := iv (k + 1)) (lv' := [(1, .int (iv (k + 1))), (0, .ref (G.2.2.1 + 231))]) hx hb dX12_tellAll_216 hl (k := 0) rfl ((Int32.ofInt_add _ _).symm) (by decide) rfl (fun ls hl => ?_)
            refine lv_goto (tgt := 181) hx hb dX12_tellAll_219 (by decide) ?_
            exact ih_181 (uL S181 256 k (u_18.2.2.1 257 k)) (k + 1) _ _ _ (by omega) i_67 F_65 F_66 hGm181 gL181_ (by omega) (fun h t a b => by have y := (xu_18.2.2.2 h).2.2.2 k (by omega) (by omega); rw [Int.zero_add] at y; by_cases e : t = k; (rw [e, uL_on]; omega); rw [uL_ne (fun h => e h.2)]; exact hG181 h t a (by omega)) hW hL (lv_sub hl [0, 1] rfl)
    exact loop_181 (_ + 1) u_18 0 _ _ _ (Nat.lt_succ_self _) iu_18 F_20 Fr.rf g_21 FF.rf (by omega) (fun _ t a b => absurd b (by omega)) hW hL (lv_sub hl [0, 1] rfl)
  refine lv_aload_n hx hb dX12_tellAll_0 rfl (lv_at hl 0 rfl) ?_
  refine lv_iconst (v := iv 0) hx hb dX12_tellAll_1 (by decide) ?_
  refine p_X12_315 Cx hW hL (k := 231) (by decide) rfl dX12_tellAll_2 (fun H locs hW hL => ?_)
  have F_68 : Fr S (uF S 231 24 0) (pl [231, 248, 249, 250, 251, 252, 253, 254, 255, 256, 257, 258]) := (Fr.rf : Fr S S (pl [231, 248, 249, 250, 251, 252, 253, 254, 255, 256, 257, 258])).F rfl
  have F_69 : Fr S (uF S 231 24 0) (pl [231, 248, 249, 250, 251, 252, 253, 254]) := (Fr.rf : Fr S S (pl [231, 248, 249, 250, 251, 252, 253, 254])).F rfl
  have g_70 : FF S (uF S 231 24 0) (fl [20, 21, 24, 25, 32, 33, 34, 35, 36, 40, 42, 43]) := FF.F FF.rf rfl
  have g_71 : FF S (uF S 231 24 0) (fl [20, 21, 24, 25, 32, 33, 34, 35, 36, 42]) := FF.F (FF.rf : FF S S (fl [20, 21, 24, 25, 32, 33, 34, 35, 36, 42])) rfl
  have i_72 : dX G (uF S 231 24 0) := hI.F (i := 24) (show (-2147483648) ≤ 0 ∧ 0 ≤ 2147483647 from ⟨by omega, by omega⟩)
  refine lv_aload_n hx hb dX12_tellAll_5 rfl (lv_at hl 0 rfl) ?_
  refine lv_iconst (v := iv 0) hx hb dX12_tellAll_6 (by decide) ?_
  refine p_X12_358 Cx hW hL (k := 231) (by decide) rfl dX12_tellAll_7 (fun H locs hW hL => ?_)
  have F_73 : Fr S (uF (uF S 231 24 0) 231 25 0) (pl [231, 248, 249, 250, 251, 252, 253, 254, 255, 256, 257, 258]) := F_68.F rfl
  have F_74 : Fr S (uF (uF S 231 24 0) 231 25 0) (pl [231, 248, 249, 250, 251, 252, 253, 254]) := F_69.F rfl
  have g_75 : FF S (uF (uF S 231 24 0) 231 25 0) (fl [20, 21, 24, 25, 32, 33, 34, 35, 36, 40, 42, 43]) := FF.F g_70 rfl
  have g_76 : FF S (uF (uF S 231 24 0) 231 25 0) (fl [20, 21, 24, 25, 32, 33, 34, 35, 36, 42]) := FF.F g_71 rfl
  have i_77 : dX G (uF (uF S 231 24 0) 231 25 0) := i_72.F (i := 25) (show (-2147483648) ≤ 0 ∧ 0 ≤ 2147483647 from ⟨by omega, by omega⟩)
  refine lv_aload_n hx hb dX12_tellAll_10 rfl (lv_at hl 0 rfl) ?_
  refine lv_iconst (v := iv 0) hx hb dX12_tellAll_11 (by decide) ?_
  refine p_X12_367 Cx hW hL (k := 231) (by decide) rfl dX12_tellAll_12 (fun H locs hW hL => ?_)
  have F_78 : Fr S (uF (uF (uF S 231 24 0) 231 25 0) 231 32 0) (pl [231, 248, 249, 250, 251, 252, 253, 254, 255, 256, 257, 258]) := F_73.F rfl
  have F_79 : Fr S (uF (uF (uF S 231 24 0) 231 25 0) 231 32 0) (pl [231, 248, 249, 250, 251, 252, 253, 254]) := F_74.F rfl
  have g_80 : FF S (uF (uF (uF S 231 24 0) 231 25 0) 231 32 0) (fl [20, 21, 24, 25, 32, 33, 34, 35, 36, 40, 42, 43]) := FF.F g_75 rfl
  have g_81 : FF S (uF (uF (uF S 231 24 0) 231 25 0) 231 32 0) (fl [20, 21, 24, 25, 32, 33, 34, 35, 36, 42]) := FF.F g_76 rfl
  have i_82 : dX G (uF (uF (uF S 231 24 0) 231 25 0) 231 32 0) := i_77.F (i := 32) (show (-2147483648) ≤ 0 ∧ 0 ≤ 2147483647 from ⟨by omega, by omega⟩)
  refine lv_aload_n hx hb dX12_tellAll_15 rfl (lv_at hl 0 rfl) ?_
  refine lv_iconst (v := iv 0) hx hb dX12_tellAll_16 (by decide) ?_
  refine p_X12_370 Cx hW hL (k := 231) (by decide) rfl dX12_tellAll_17 (fun H locs hW hL => ?_)
  have F_83 : Fr S (uF (uF (uF (uF S 231 24 0) 231 25 0) 231 32 0) 231 33 0) (pl [231, 248, 249, 250, 251, 252, 253, 254, 255, 256, 257, 258]) := F_78.F rfl
  have F_84 : Fr S (uF (uF (uF (uF S 231 24 0) 231 25 0) 231 32 0) 231 33 0) (pl [231, 248, 249, 250, 251, 252, 253, 254]) := F_79.F rfl
  have g_85 : FF S (uF (uF (uF (uF S 231 24 0) 231 25 0) 231 32 0) 231 33 0) (fl [20, 21, 24, 25, 32, 33, 34, 35, 36, 40, 42, 43]) := FF.F g_80 rfl
  have g_86 : FF S (uF (uF (uF (uF S 231 24 0) 231 25 0) 231 32 0) 231 33 0) (fl [20, 21, 24, 25, 32, 33, 34, 35, 36, 42]) := FF.F g_81 rfl
  have i_87 : dX G (uF (uF (uF (uF S 231 24 0) 231 25 0) 231 32 0) 231 33 0) := i_82.F (i := 33) (show (-2147483648) ≤ 0 ∧ 0 ≤ 2147483647 from ⟨by omega, by omega⟩)
  refine lv_aload_n hx hb dX12_tellAll_20 rfl (lv_at hl 0 rfl) ?_
  refine lv_iconst (v := iv 0) hx hb dX12_tellAll_21 (by decide) ?_
  refine p_X12_373 Cx hW hL (k := 231) (by decide) rfl dX12_tellAll_22 (fun H locs hW hL => ?_)
  have F_88 : Fr S (uF (uF (uF (uF (uF S 231 24 0) 231 25 0) 231 32 0) 231 33 0) 231 34 0) (pl [231, 248, 249, 250, 251, 252, 253, 254, 255, 256, 257, 258]) := F_83.F rfl
  have F_89 : Fr S (uF (uF (uF (uF (uF S 231 24 0) 231 25 0) 231 32 0) 231 33 0) 231 34 0) (pl [231, 248, 249, 250, 251, 252, 253, 254]) := F_84.F rfl
  have g_90 : FF S (uF (uF (uF (uF (uF S 231 24 0) 231 25 0) 231 32 0) 231 33 0) 231 34 0) (fl [20, 21, 24, 25, 32, 33, 34, 35, 36, 40, 42, 43]) := FF.F g_85 rfl
  have g_91 : FF S (uF (uF (uF (uF (uF S 231 24 0) 231 25 0) 231 32 0) 231 33 0) 231 34 0) (fl [20, 21, 24, 25, 32, 33, 34, 35, 36, 42]) := FF.F g_86 rfl
  have i_92 : dX G (uF (uF (uF (uF (uF S 231 24 0) 231 25 0) 231 32 0) 231 33 0) 231 34 0) := i_87.F (i := 34) (show (-2147483648) ≤ 0 ∧ 0 ≤ 2147483647 from ⟨by omega, by omega⟩)
  refine lv_aload_n hx hb dX12_tellAll_25 rfl (lv_at hl 0 rfl) ?_
  refine lv_iconst (v := iv 0) hx hb dX12_tellAll_26 (by decide) ?_
  refine p_X12_376 Cx hW hL (k := 231) (by decide) rfl dX12_tellAll_27 (fun H locs hW hL => ?_)
  have F_93 : Fr S (uF (uF (uF (uF (uF (uF S 231 24 0) 231 25 0) 231 32 0) 231 33 0) 231 34 0) 231 42 0) (pl [231, 248, 249, 250, 251, 252, 253, 254, 255, 256, 257, 258]) := F_88.F rfl
  have F_94 : Fr S (uF (uF (uF (uF (uF (uF S 231 24 0) 231 25 0) 231 32 0) 231 33 0) 231 34 0) 231 42 0) (pl [231, 248, 249, 250, 251, 252, 253, 254]) := F_89.F rfl
  have g_95 : FF S (uF (uF (uF (uF (uF (uF S 231 24 0) 231 25 0) 231 32 0) 231 33 0) 231 34 0) 231 42 0) (fl [20, 21, 24, 25, 32, 33, 34, 35, 36, 40, 42, 43]) := FF.F g_90 rfl
  have g_96 : FF S (uF (uF (uF (uF (uF (uF S 231 24 0) 231 25 0) 231 32 0) 231 33 0) 231 34 0) 231 42 0) (fl [20, 21, 24, 25, 32, 33, 34, 35, 36, 42]) := FF.F g_91 rfl
  have i_97 : dX G (uF (uF (uF (uF (uF (uF S 231 24 0) 231 25 0) 231 32 0) 231 33 0) 231 34 0) 231 42 0) := i_92.F (i := 42) (show (-2147483648) ≤ 0 ∧ 0 ≤ 2147483647 from ⟨by omega, by omega⟩)
  refine lv_aload_n hx hb dX12_tellAll_30 rfl (lv_at hl 0 rfl) ?_
  refine lv_iconst (v := iv 0) hx hb dX12_tellAll_31 (by decide) ?_
  refine p_X12_379 Cx hW hL (k := 231) (by decide) rfl dX12_tellAll_32 (fun H locs hW hL => ?_)
  have F_98 : Fr S (uF (uF (uF (uF (uF (uF (uF S 231 24 0) 231 25 0) 231 32 0) 231 33 0) 231 34 0) 231 42 0) 231 35 0) (pl [231, 248, 249, 250, 251, 252, 253, 254, 255, 256, 257, 258]) := F_93.F rfl
  have F_99 : Fr S (uF (uF (uF (uF (uF (uF (uF S 231 24 0) 231 25 0) 231 32 0) 231 33 0) 231 34 0) 231 42 0) 231 35 0) (pl [231, 248, 249, 250, 251, 252, 253, 254]) := F_94.F rfl
  have g_100 : FF S (uF (uF (uF (uF (uF (uF (uF S 231 24 0) 231 25 0) 231 32 0) 231 33 0) 231 34 0) 231 42 0) 231 35 0) (fl [20, 21, 24, 25, 32, 33, 34, 35, 36, 40, 42, 43]) := FF.F g_95 rfl
  have g_101 : FF S (uF (uF (uF (uF (uF (uF (uF S 231 24 0) 231 25 0) 231 32 0) 231 33 0) 231 34 0) 231 42 0) 231 35 0) (fl [20, 21, 24, 25, 32, 33, 34, 35, 36, 42]) := FF.F g_96 rfl
  have i_102 : dX G (uF (uF (uF (uF (uF (uF (uF S 231 24 0) 231 25 0) 231 32 0) 231 33 0) 231 34 0) 231 42 0) 231 35 0) := i_97.F (i := 35) (show (-2147483648) ≤ 0 ∧ 0 ≤ 2147483647 from ⟨by omega, by omega⟩)
  refine lv_aload_n hx hb dX12_tellAll_35 rfl (lv_at hl 0 rfl) ?_
  refine lv_iconst (v := iv 0) hx hb dX12_tellAll_36 (by decide) ?_
  refine p_X12_382 Cx hW hL (k := 231) (by decide) rfl dX12_tellAll_37 (fun H locs hW hL => ?_)
  have F_103 : Fr S (uF (uF (uF (uF (uF (uF (uF (uF S 231 24 0) 231 25 0) 231 32 0) 231 33 0) 231 34 0) 231 42 0) 231 35 0) 231 36 0) (pl [231, 248, 249, 250, 251, 252, 253, 254, 255, 256, 257, 258]) := F_98.F rfl
  have F_104 : Fr S (uF (uF (uF (uF (uF (uF (uF (uF S 231 24 0) 231 25 0) 231 32 0) 231 33 0) 231 34 0) 231 42 0) 231 35 0) 231 36 0) (pl [231, 248, 249, 250, 251, 252, 253, 254]) := F_99.F rfl
  have g_105 : FF S (uF (uF (uF (uF (uF (uF (uF (uF S 231 24 0) 231 25 0) 231 32 0) 231 33 0) 231 34 0) 231 42 0) 231 35 0) 231 36 0) (fl [20, 21, 24, 25, 32, 33, 34, 35, 36, 40, 42, 43]) := FF.F g_100 rfl
  have g_106 : FF S (uF (uF (uF (uF (uF (uF (uF (uF S 231 24 0) 231 25 0) 231 32 0) 231 33 0) 231 34 0) 231 42 0) 231 35 0) 231 36 0) (fl [20, 21, 24, 25, 32, 33, 34, 35, 36, 42]) := FF.F g_101 rfl
  have i_107 : dX G (uF (uF (uF (uF (uF (uF (uF (uF S 231 24 0) 231 25 0) 231 32 0) 231 33 0) 231 34 0) 231 42 0) 231 35 0) 231 36 0) := i_102.F (i := 36) (show (-2147483648) ≤ 0 ∧ 0 ≤ 2147483647 from ⟨by omega, by omega⟩)
  have loop_40 : ∀ (fuel : Nat) (S40 : sS)  (H : Heap) (locs : List Loc) (ls : Array Slot), mf S40 T < fuel → (dX G S40) → (Fr S S40 (pl [231, 248, 249, 250, 251, 252, 253, 254, 255, 256, 257, 258])) → (Fr S S40 (pl [231, 248, 249, 250, 251, 252, 253, 254])) → (Fr ((uF (uF (uF (uF (uF (uF (uF (uF S 231 24 0) 231 25 0) 231 32 0) 231 33 0) 231 34 0) 231 42 0) 231 35 0) 231 36 0)) S40 (pl [231, 248, 249, 250, 251, 252, 253, 254])) → (FF S S40 (fl [20, 21, 24, 25, 32, 33, 34, 35, 36, 40, 42, 43])) → (FF S S40 (fl [20, 21, 24, 25, 32, 33, 34, 35, 36, 42])) → (FF ((uF (uF (uF (uF (uF (uF (uF (uF S 231 24 0) 231 25 0) 231 32 0) 231 33 0) 231 34 0) 231 42 0) 231 35 0) 231 36 0)) S40 (fl [20, 21, 24, 25, 32, 33, 34, 35])) → (Hd (S40.1 231 20 = 0 → NX S40 T)) → (Hd (S40.1 231 20 = 0 → 0 ≤ S40.1 231 24 ∧ 3 * S40.1 231 25 ≤ S40.1 231 24 ∧ S40.1 231 32 ≤ S40.1 231 24 ∧ (0 ≤ S40.1 231 33 ∧ S40.1 231 33 ≤ 8) ∧ (0 ≤ S40.1 231 34 ∧ S40.1 231 34 ≤ 12) ∧ gTl (fun c => gW K V c 2 ∨ gW K V c 3 ∨ gW K V c 4) (gT K V) (S40.1 231 24) a0)) → sW G 294 S40 H → sL G locs → lv_has ls 3 [(0, .ref (G.2.2.1 + 231))] → W p l e (rmk 136 0 0) s m args below meth c H locs 0 0 (MQ below (sQv G 294 (fun u => dX G u ∧ Fr S u (pl [231, 248, 249, 250, 251, 252, 253, 254, 255, 256, 257, 258]) ∧ FF S u (fl [20, 21, 24, 25, 32, 33, 34, 35, 36, 40, 42, 43]) ∧ (Hd (∀ x, -99999 ≤ u.2.2.1 255 x ∧ u.2.2.1 255 x ≤ 99999) ∧ Hd (u.1 231 20 = 0 → (0 ≤ u.1 231 35 ∧ u.1 231 35 ≤ 12) ∧ (0 ≤ u.1 231 36 ∧ u.1 231 36 ≤ 16) ∧ ∀ t, 0 ≤ t → t ≤ 12 → -99999 ≤ u.2.2.1 256 t ∧ u.2.2.1 256 t ≤ 99999)))) args s 0 0 (sF G)) (F0 m 40 ls []) := by
    intro fuel
    induction fuel with
    | zero => intro S40  H locs ls hmeas hI40 hFm40 hFL15540 hL40_ hGm40 hGL15540 gL40_ hN40 hC40 hW hL hl; exact absurd hmeas (Nat.not_lt_zero _)
    | succ fuel ih_40 =>
      intro S40  H locs ls hmeas hI40 hFm40 hFL15540 hL40_ hGm40 hGL15540 gL40_ hN40 hC40 hW hL hl
      have hm40 := hmeas
      refine lv_aload_n hx hb dX12_tellAll_40 rfl (lv_at hl 0 rfl) ?_
      have q_108 : (-2147483648) ≤ S40.1 231 20 ∧ S40.1 231 20 ≤ 2147483647 := hI40.fi 20
      refine g_X12_270 Cx hW (k := 231) (by decide) rfl (v := S40.1 231 20) rfl dX12_tellAll_41 ?_
      refine r_if_ne (tgt := 147) hx hb ⟨(by omega), (by omega)⟩ dX12_tellAll_44 (by decide) (fun c_109 => ?_) (fun c_109 => ?_)
      · refine lv_aload_n hx hb dX12_tellAll_147 rfl (lv_at hl 0 rfl) ?_
        refine g_X12_270 Cx hW (k := 231) (by decide) rfl (v := S40.1 231 20) rfl dX12_tellAll_148 ?_
        refine r_if_eq (tgt := 155) hx hb ⟨(by omega), (by omega)⟩ dX12_tellAll_151 (by decide) (fun c => absurd c (by omega)) (fun _ => ?_)
        have q_110 : (-2147483648) ≤ S40.1 231 35 ∧ S40.1 231 35 ≤ 2147483647 := hI40.fi 35
        have lk_111 : S40.1 231 36 = 0 := (gL40_ 36 rfl).trans (uF_on)
        exact sVret Cx hr hlk hW hL ⟨hI40, hFm40, hGm40, ⟨(fun x => by rw [show S40.2.2.1 255 x = S.2.2.1 255 x from ((hL40_ 255 rfl).2.2.1 x).trans ((uF_l).trans ((uF_l).trans ((uF_l).trans ((uF_l).trans ((uF_l).trans ((uF_l).trans ((uF_l).trans (uF_l))))))))]; exact hRB x), (fun h => absurd h (by have e9 := (show S40.1 231 20 = S40.1 231 20 from rfl); omega))⟩⟩ dX12_tellAll_154
      · have c40 := hC40 (by omega)
        have hl4 := gTl_le (R := gT K V) (fun c x r => by have := gT_lt r; omega) c40.2.2.2.2.2
        refine lv_aload_n hx hb dX12_tellAll_47 rfl (lv_at hl 0 rfl) ?_
        refine g_X12_47 Cx hW (k := 231) (by decide) rfl (v := .ref (G.2.2.1 + 244)) (rd_15 hI40) dX12_tellAll_48 ?_
        refine lv_aload_n hx hb dX12_tellAll_51 rfl (lv_at hl 0 rfl) ?_
        have q_112 : (-2147483648) ≤ S40.1 231 24 ∧ S40.1 231 24 ≤ 2147483647 := hI40.fi 24
        refine g_X12_315 Cx hW (k := 231) (by decide) rfl (v := S40.1 231 24) rfl dX12_tellAll_52 ?_
        refine rIald Cx hW (k := 244) (by decide) rfl (by decide) (by omega) (by omega) dX12_tellAll_55 ?_
        have q_113 : (-2147483648) ≤ S.2.1 244 (S40.1 231 24) ∧ S.2.1 244 (S40.1 231 24) ≤ 2147483647 := hI.ai 244 (S40.1 231 24)
        refine r_i (b := S.2.1 244 (S40.1 231 24)) (((hL40_ 244 rfl).2.1 (S40.1 231 24)).trans ((uF_a).trans ((uF_a).trans ((uF_a).trans ((uF_a).trans ((uF_a).trans ((uF_a).trans ((uF_a).trans (uF_a))))))))) ?_
        have hr1 : K (S40.1 231 24) = S.2.1 244 (S40.1 231 24) := by rw [← hK]
        refine lv_iconst (v := iv 3) hx hb dX12_tellAll_56 (by decide) ?_
        refine r_icmp_ne (tgt := 147) hx hb ⟨(by omega), (by omega)⟩ ⟨(by omega), (by omega)⟩ dX12_tellAll_57 (by decide) (fun c_114 => ?_) (fun c_114 => ?_)
        · refine lv_aload_n hx hb dX12_tellAll_147 rfl (lv_at hl 0 rfl) ?_
          refine g_X12_270 Cx hW (k := 231) (by decide) rfl (v := S40.1 231 20) rfl dX12_tellAll_148 ?_
          refine r_if_eq (tgt := 155) hx hb ⟨(by omega), (by omega)⟩ dX12_tellAll_151 (by decide) (fun _ => ?_) (fun c => absurd (by omega) c)
          have q_115 : (-2147483648) ≤ S40.1 231 25 ∧ S40.1 231 25 ≤ 2147483647 := hI40.fi 25
          have lk_116 : S40.1 231 36 = 0 := (gL40_ 36 rfl).trans (uF_on)
          exact join_155 S40  _ _ _ hI40 hFm40 hFL15540 hGm40 hGL15540 (by have c9 := hC40 (by omega); have y9 : a0 = S40.1 231 24 := gTl.fin c9.2.2.2.2.2 (by unfold gW; omega); have y20 := (show S40.1 231 20 = S40.1 231 20 from rfl); have y24 := (show S40.1 231 24 = S40.1 231 24 from rfl); have y25 := (show S40.1 231 25 = S40.1 231 25 from rfl); have y36 := (show S40.1 231 36 = 0 from (gL40_ 36 rfl).trans (uF_on)); omega) hN40 hW hL (lv_sub hl [0] rfl)
        · refine lv_aload_n hx hb dX12_tellAll_60 rfl (lv_at hl 0 rfl) ?_
          refine g_X12_56 Cx hW (k := 231) (by decide) rfl (v := .ref (G.2.2.1 + 247)) (rd_18 hI40) dX12_tellAll_61 ?_
          refine lv_aload_n hx hb dX12_tellAll_64 rfl (lv_at hl 0 rfl) ?_
          refine g_X12_315 Cx hW (k := 231) (by decide) rfl (v := S40.1 231 24) rfl dX12_tellAll_65 ?_
          refine rIald Cx hW (k := 247) (by decide) rfl (by decide) (by omega) (by omega) dX12_tellAll_68 ?_
          have q_117 : (-2147483648) ≤ S.2.1 247 (S40.1 231 24) ∧ S.2.1 247 (S40.1 231 24) ≤ 2147483647 := hI.ai 247 (S40.1 231 24)
          refine r_i (b := S.2.1 247 (S40.1 231 24)) (((hL40_ 247 rfl).2.1 (S40.1 231 24)).trans ((uF_a).trans ((uF_a).trans ((uF_a).trans ((uF_a).trans ((uF_a).trans ((uF_a).trans ((uF_a).trans (uF_a))))))))) ?_
          have hr2 : V (S40.1 231 24) = S.2.1 247 (S40.1 231 24) := by rw [← hV]
          refine lv_iconst (v := iv 2) hx hb dX12_tellAll_69 (by decide) ?_
          refine r_icmp_lt (tgt := 147) hx hb ⟨(by omega), (by omega)⟩ ⟨(by omega), (by omega)⟩ dX12_tellAll_70 (by decide) (fun c_118 => ?_) (fun c_118 => ?_)
          · refine lv_aload_n hx hb dX12_tellAll_147 rfl (lv_at hl 0 rfl) ?_
            refine g_X12_270 Cx hW (k := 231) (by decide) rfl (v := S40.1 231 20) rfl dX12_tellAll_148 ?_
            refine r_if_eq (tgt := 155) hx hb ⟨(by omega), (by omega)⟩ dX12_tellAll_151 (by decide) (fun _ => ?_) (fun c => absurd (by omega) c)
            have q_119 : (-2147483648) ≤ S40.1 231 25 ∧ S40.1 231 25 ≤ 2147483647 := hI40.fi 25
            have lk_120 : S40.1 231 36 = 0 := (gL40_ 36 rfl).trans (uF_on)
            exact join_155 S40  _ _ _ hI40 hFm40 hFL15540 hGm40 hGL15540 (by have c9 := hC40 (by omega); have y9 : a0 = S40.1 231 24 := gTl.fin c9.2.2.2.2.2 (by unfold gW; omega); have y20 := (show S40.1 231 20 = S40.1 231 20 from rfl); have y24 := (show S40.1 231 24 = S40.1 231 24 from rfl); have y25 := (show S40.1 231 25 = S40.1 231 25 from rfl); have y36 := (show S40.1 231 36 = 0 from (gL40_ 36 rfl).trans (uF_on)); omega) hN40 hW hL (lv_sub hl [0] rfl)
          · refine lv_aload_n hx hb dX12_tellAll_73 rfl (lv_at hl 0 rfl) ?_
            refine g_X12_56 Cx hW (k := 231) (by decide) rfl (v := .ref (G.2.2.1 + 247)) (rd_18 hI40) dX12_tellAll_74 ?_
            refine lv_aload_n hx hb dX12_tellAll_77 rfl (lv_at hl 0 rfl) ?_
            refine g_X12_315 Cx hW (k := 231) (by decide) rfl (v := S40.1 231 24) rfl dX12_tellAll_78 ?_
            refine rIald Cx hW (k := 247) (by decide) rfl (by decide) (by omega) (by omega) dX12_tellAll_81 ?_
            refine r_i (b := S.2.1 247 (S40.1 231 24)) (((hL40_ 247 rfl).2.1 (S40.1 231 24)).trans ((uF_a).trans ((uF_a).trans ((uF_a).trans ((uF_a).trans ((uF_a).trans ((uF_a).trans ((uF_a).trans (uF_a))))))))) ?_
            refine lv_iconst (v := iv 4) hx hb dX12_tellAll_82 (by decide) ?_
            refine r_icmp_gt (tgt := 147) hx hb ⟨(by omega), (by omega)⟩ ⟨(by omega), (by omega)⟩ dX12_tellAll_83 (by decide) (fun c_121 => ?_) (fun c_121 => ?_)
            · refine lv_aload_n hx hb dX12_tellAll_147 rfl (lv_at hl 0 rfl) ?_
              refine g_X12_270 Cx hW (k := 231) (by decide) rfl (v := S40.1 231 20) rfl dX12_tellAll_148 ?_
              refine r_if_eq (tgt := 155) hx hb ⟨(by omega), (by omega)⟩ dX12_tellAll_151 (by decide) (fun _ => ?_) (fun c => absurd (by omega) c)
              have q_122 : (-2147483648) ≤ S40.1 231 25 ∧ S40.1 231 25 ≤ 2147483647 := hI40.fi 25
              have lk_123 : S40.1 231 36 = 0 := (gL40_ 36 rfl).trans (uF_on)
              exact join_155 S40  _ _ _ hI40 hFm40 hFL15540 hGm40 hGL15540 (by have c9 := hC40 (by omega); have y9 : a0 = S40.1 231 24 := gTl.fin c9.2.2.2.2.2 (by unfold gW; omega); have y20 := (show S40.1 231 20 = S40.1 231 20 from rfl); have y24 := (show S40.1 231 24 = S40.1 231 24 from rfl); have y25 := (show S40.1 231 25 = S40.1 231 25 from rfl); have y36 := (show S40.1 231 36 = 0 from (gL40_ 36 rfl).trans (uF_on)); omega) hN40 hW hL (lv_sub hl [0] rfl)
            · have hst : gW K V (S40.1 231 24) 2 ∨ gW K V (S40.1 231 24) 3 ∨ gW K V (S40.1 231 24) 4 := by unfold gW; omega
              obtain ⟨e1, hT1, ht1⟩ := gTl.inv c40.2.2.2.2.2 hst
              have hl5 := gT_3 hT1
              have hl6 := gTl_le (R := gT K V) (fun c x r => by have := gT_lt r; omega) ht1
              refine lv_aload_n hx hb dX12_tellAll_86 rfl (lv_at hl 0 rfl) ?_
              refine g_X12_56 Cx hW (k := 231) (by decide) rfl (v := .ref (G.2.2.1 + 247)) (rd_18 hI40) dX12_tellAll_87 ?_
              refine lv_aload_n hx hb dX12_tellAll_90 rfl (lv_at hl 0 rfl) ?_
              refine g_X12_315 Cx hW (k := 231) (by decide) rfl (v := S40.1 231 24) rfl dX12_tellAll_91 ?_
              refine rIald Cx hW (k := 247) (by decide) rfl (by decide) (by omega) (by omega) dX12_tellAll_94 ?_
              refine r_i (b := S.2.1 247 (S40.1 231 24)) (((hL40_ 247 rfl).2.1 (S40.1 231 24)).trans ((uF_a).trans ((uF_a).trans ((uF_a).trans ((uF_a).trans ((uF_a).trans ((uF_a).trans ((uF_a).trans (uF_a))))))))) ?_
              refine lv_istore_n (lv' := [(1, .int (iv (S.2.1 247 (S40.1 231 24)))), (0, .ref (G.2.2.1 + 231))]) hx hb dX12_tellAll_95 rfl hl (by decide) rfl (fun ls hl => ?_)
              refine lv_aload_n hx hb dX12_tellAll_96 rfl (lv_at hl 1 rfl) ?_
              refine g_X12_315 Cx hW (k := 231) (by decide) rfl (v := S40.1 231 24) rfl dX12_tellAll_97 ?_
              refine lv_iconst (v := iv 1) hx hb dX12_tellAll_100 (by decide) ?_
              refine r_iadd hx hb dX12_tellAll_101 ?_
              refine lv_istore_n (lv' := [(2, .int (iv ((S40.1 231 24) + 1))), (1, .int (iv (S.2.1 247 (S40.1 231 24)))), (0, .ref (G.2.2.1 + 231))]) hx hb dX12_tellAll_102 rfl hl (by decide) rfl (fun ls hl => ?_)
              refine lv_aload_n hx hb dX12_tellAll_103 rfl (lv_at hl 2 rfl) ?_
              refine lv_dup hx hb dX12_tellAll_104 rfl ?_
              refine g_X12_315 Cx hW (k := 231) (by decide) rfl (v := S40.1 231 24) rfl dX12_tellAll_105 ?_
              refine lv_iconst (v := iv 2) hx hb dX12_tellAll_108 (by decide) ?_
              refine r_iadd hx hb dX12_tellAll_109 ?_
              refine p_X12_315 Cx hW hL (k := 231) (by decide) rfl dX12_tellAll_110 (fun H locs hW hL => ?_)
              have F_124 : Fr S (uF S40 231 24 ((S40.1 231 24) + 2)) (pl [231, 248, 249, 250, 251, 252, 253, 254, 255, 256, 257, 258]) := hFm40.F rfl
              have F_125 : Fr S (uF S40 231 24 ((S40.1 231 24) + 2)) (pl [231, 248, 249, 250, 251, 252, 253, 254]) := hFL15540.F rfl
              have F_126 : Fr ((uF (uF (uF (uF (uF (uF (uF (uF S 231 24 0) 231 25 0) 231 32 0) 231 33 0) 231 34 0) 231 42 0) 231 35 0) 231 36 0)) (uF S40 231 24 ((S40.1 231 24) + 2)) (pl [231, 248, 249, 250, 251, 252, 253, 254]) := hL40_.F rfl
              have g_127 : FF S (uF S40 231 24 ((S40.1 231 24) + 2)) (fl [20, 21, 24, 25, 32, 33, 34, 35, 36, 40, 42, 43]) := FF.F hGm40 rfl
              have g_128 : FF S (uF S40 231 24 ((S40.1 231 24) + 2)) (fl [20, 21, 24, 25, 32, 33, 34, 35, 36, 42]) := FF.F hGL15540 rfl
              have g_129 : FF ((uF (uF (uF (uF (uF (uF (uF (uF S 231 24 0) 231 25 0) 231 32 0) 231 33 0) 231 34 0) 231 42 0) 231 35 0) 231 36 0)) (uF S40 231 24 ((S40.1 231 24) + 2)) (fl [20, 21, 24, 25, 32, 33, 34, 35]) := FF.F gL40_ rfl
              have i_130 : dX G (uF S40 231 24 ((S40.1 231 24) + 2)) := hI40.F (i := 24) (show (-2147483648) ≤ (S40.1 231 24) + 2 ∧ (S40.1 231 24) + 2 ≤ 2147483647 from ⟨by omega, by omega⟩)
              refine lv_iload_n hx hb dX12_tellAll_113 rfl (lv_at hl 1 rfl) ?_
              refine lv_iconst (v := iv 2) hx hb dX12_tellAll_114 (by decide) ?_
              refine r_icmp_ne (tgt := 126) hx hb ⟨(by omega), (by omega)⟩ ⟨(by omega), (by omega)⟩ dX12_tellAll_115 (by decide) (fun c_131 => ?_) (fun c_131 => ?_)
              · refine lv_iload_n hx hb dX12_tellAll_126 rfl (lv_at hl 1 rfl) ?_
                refine lv_iconst (v := iv 3) hx hb dX12_tellAll_127 (by decide) ?_
                refine r_icmp_ne (tgt := 139) hx hb ⟨(by omega), (by omega)⟩ ⟨(by omega), (by omega)⟩ dX12_tellAll_128 (by decide) (fun c_132 => ?_) (fun c_132 => ?_)
                · obtain ⟨_, _, ⟨_, rfl⟩, hT3⟩ := (hT1.resolve_left (fun h => by have := h.1; omega)).resolve_left (fun h => by have := h.1; omega)
                  rw [show S40.1 231 24 + 1 + 1 = S40.1 231 24 + 2 by omega] at hT3
                  refine lv_aload_n hx hb dX12_tellAll_139 rfl (lv_at hl 2 rfl) ?_
                  refine lv_iload_n hx hb dX12_tellAll_140 rfl (lv_at hl 0 rfl) ?_
                  have lk_133 : (uF S40 231 24 ((S40.1 231 24) + 2)).1 231 20 = S40.1 231 20 := uF_ne (fun h => absurd h.2 (by decide))
                  have q_134 : (-2147483648) ≤ S40.1 231 25 ∧ S40.1 231 25 ≤ 2147483647 := hI40.fi 25
                  have lk_135 : (uF S40 231 24 ((S40.1 231 24) + 2)).1 231 25 = S40.1 231 25 := uF_ne (fun h => absurd h.2 (by decide))
                  have lk_136 : (uF S40 231 24 ((S40.1 231 24) + 2)).1 231 24 = (S40.1 231 24) + 2 := uF_on
                  have q_137 : (-2147483648) ≤ S40.1 231 32 ∧ S40.1 231 32 ≤ 2147483647 := hI40.fi 32
                  have lk_138 : (uF S40 231 24 ((S40.1 231 24) + 2)).1 231 32 = S40.1 231 32 := uF_ne (fun h => absurd h.2 (by decide))
                  refine sBv (sV (As := [.int (iv ((S40.1 231 24) + 1))]) (rest := []) (k := 231) Cx (s_X12_tellVar l G (uF S40 231 24 ((S40.1 231 24) + 2)) (tk := (S40.1 231 24) + 1) (K := K) (V := V) (Fm := Fm) (Wd := Wd) (T := T) (pz := (S40.1 231 24) + 2) (q := e1) i_130 ((funext fun j => (uF_a).trans (((hL40_ 244 rfl).2.1 j).trans ((uF_a).trans ((uF_a).trans ((uF_a).trans ((uF_a).trans ((uF_a).trans ((uF_a).trans ((uF_a).trans (uF_a))))))))) : (uF S40 231 24 ((S40.1 231 24) + 2)).2.1 244 = S.2.1 244).trans hK) ((funext fun j => (uF_a).trans (((hL40_ 247 rfl).2.1 j).trans ((uF_a).trans ((uF_a).trans ((uF_a).trans ((uF_a).trans ((uF_a).trans ((uF_a).trans ((uF_a).trans (uF_a))))))))) : (uF S40 231 24 ((S40.1 231 24) + 2)).2.1 247 = S.2.1 247).trans hV) ((funext fun j => (uF_a).trans (((hL40_ 245 rfl).2.1 j).trans ((uF_a).trans ((uF_a).trans ((uF_a).trans ((uF_a).trans ((uF_a).trans ((uF_a).trans ((uF_a).trans (uF_a))))))))) : (uF S40 231 24 ((S40.1 231 24) + 2)).2.1 245 = S.2.1 245).trans hFm) ((funext fun j => (uF_a).trans (((hL40_ 246 rfl).2.1 j).trans ((uF_a).trans ((uF_a).trans ((uF_a).trans ((uF_a).trans ((uF_a).trans ((uF_a).trans ((uF_a).trans (uF_a))))))))) : (uF S40 231 24 ((S40.1 231 24) + 2)).2.1 246 = S.2.1 246).trans hWd) hQ (by omega) ((fun h => (NX.cg (S := S40) (u := (uF S40 231 24 ((S40.1 231 24) + 2))) (hN40 (by have e9 := (show (uF S40 231 24 ((S40.1 231 24) + 2)).1 231 20 = S40.1 231 20 from uF_ne (fun h => absurd h.2 (by decide))); omega)) (NR.eq (funext fun j => uF_a) (funext fun j => uF_a) (funext fun j => uF_a) (funext fun j => uF_a) (funext fun j => uF_a)) (uF_ne (fun h => absurd h.2 (by decide))) (uF_ne (fun h => absurd h.2 (by decide))) (uF_ne (fun h => absurd h.2 (by decide))) (funext fun j => uF_a))) (by have e9 := (show (uF S40 231 24 ((S40.1 231 24) + 2)).1 231 20 = S40.1 231 20 from uF_ne (fun h => absurd h.2 (by decide))); omega)) (by omega) (by omega) hT3 (by omega) (by omega)) (c_X12_391 Cx rfl rfl (rmk_ok (by omega) (by decide))) hW (by decide) rfl rfl rfl hl.1 rfl (Nat.le_of_ble_eq_true rfl) dX12_tellAll_141 ⟨Nat.le_of_ble_eq_true rfl, Nat.le_of_ble_eq_true rfl⟩) hL (fun u_139 H locs k_140 hW hL => ?_)
                  obtain ⟨iu_139, fu_139, gu_139, xu_139⟩ := k_140
                  have F_141 := F_124.trans (fu_139.to (pl_sub (by decide)))
                  have F_142 := F_125.trans (fu_139.to (pl_sub (by decide)))
                  have F_143 := F_126.trans (fu_139.to (pl_sub (by decide)))
                  have g_144 : FF S u_139 (fl [20, 21, 24, 25, 32, 33, 34, 35, 36, 40, 42, 43]) := FF.trans g_127 (FF.to gu_139 (fl_sub (by decide)))
                  have g_145 : FF S u_139 (fl [20, 21, 24, 25, 32, 33, 34, 35, 36, 42]) := FF.trans g_128 (FF.to gu_139 (fl_sub (by decide)))
                  have g_146 : FF ((uF (uF (uF (uF (uF (uF (uF (uF S 231 24 0) 231 25 0) 231 32 0) 231 33 0) 231 34 0) 231 42 0) 231 35 0) 231 36 0)) u_139 (fl [20, 21, 24, 25, 32, 33, 34, 35]) := FF.trans g_129 (FF.to gu_139 (fl_sub (by decide)))
                  refine lv_goto (tgt := 40) hx hb dX12_tellAll_144 (by decide) ?_
                  have q_147 : (-2147483648) ≤ u_139.1 231 20 ∧ u_139.1 231 20 ≤ 2147483647 := iu_139.fi 20
                  have q_148 : (-2147483648) ≤ u_139.1 231 24 ∧ u_139.1 231 24 ≤ 2147483647 := iu_139.fi 24
                  have q_149 : (-2147483648) ≤ u_139.1 231 25 ∧ u_139.1 231 25 ≤ 2147483647 := iu_139.fi 25
                  have lk_150 : u_139.1 231 32 = S40.1 231 32 := (gu_139 32 rfl).trans (uF_ne (fun h => absurd h.2 (by decide)))
                  have q_151 : (-2147483648) ≤ S40.1 231 33 ∧ S40.1 231 33 ≤ 2147483647 := hI40.fi 33
                  have lk_152 : u_139.1 231 33 = S40.1 231 33 := (gu_139 33 rfl).trans (uF_ne (fun h => absurd h.2 (by decide)))
                  have q_153 : (-2147483648) ≤ S40.1 231 34 ∧ S40.1 231 34 ≤ 2147483647 := hI40.fi 34
                  have lk_154 : u_139.1 231 34 = S40.1 231 34 := (gu_139 34 rfl).trans (uF_ne (fun h => absurd h.2 (by decide)))
                  exact ih_40 u_139  _ _ _ (Nat.lt_of_lt_of_le (mf_lt (S := S40) (by omega) (by omega) (fun h => by have a9 := xu_139 h; omega)) (Nat.le_of_lt_succ hm40)) iu_139 F_141 F_142 F_143 g_144 g_145 g_146 (fun h => (xu_139 h).1) (fun h => by have a9 := xu_139 h; have y25 := (show u_139.1 231 25 = u_139.1 231 25 from rfl); have y32 := (show u_139.1 231 32 = S40.1 231 32 from (gu_139 32 rfl).trans (uF_ne (fun h => absurd h.2 (by decide)))); have y33 := (show u_139.1 231 33 = S40.1 231 33 from (gu_139 33 rfl).trans (uF_ne (fun h => absurd h.2 (by decide)))); have y34 := (show u_139.1 231 34 = S40.1 231 34 from (gu_139 34 rfl).trans (uF_ne (fun h => absurd h.2 (by decide)))); exact ⟨by omega, by omega, by omega, by omega, by omega, (by rw [show u_139.1 231 24 = e1 by omega]; exact ht1)⟩) hW hL (lv_sub hl [2] rfl)
                · obtain ⟨_, _, ⟨_, rfl⟩, hT3⟩ := (hT1.resolve_left (fun h => by have := h.1; omega)).resolve_right (fun h => by have := h.1; omega)
                  rw [show S40.1 231 24 + 1 + 1 = S40.1 231 24 + 2 by omega] at hT3
                  refine lv_aload_n hx hb dX12_tellAll_131 rfl (lv_at hl 2 rfl) ?_
                  refine lv_iload_n hx hb dX12_tellAll_132 rfl (lv_at hl 0 rfl) ?_
                  have lk_155 : (uF S40 231 24 ((S40.1 231 24) + 2)).1 231 20 = S40.1 231 20 := uF_ne (fun h => absurd h.2 (by decide))
                  have q_156 : (-2147483648) ≤ S40.1 231 25 ∧ S40.1 231 25 ≤ 2147483647 := hI40.fi 25
                  have lk_157 : (uF S40 231 24 ((S40.1 231 24) + 2)).1 231 25 = S40.1 231 25 := uF_ne (fun h => absurd h.2 (by decide))
                  have lk_158 : (uF S40 231 24 ((S40.1 231 24) + 2)).1 231 24 = (S40.1 231 24) + 2 := uF_on
                  have q_159 : (-2147483648) ≤ S40.1 231 32 ∧ S40.1 231 32 ≤ 2147483647 := hI40.fi 32
                  have lk_160 : (uF S40 231 24 ((S40.1 231 24) + 2)).1 231 32 = S40.1 231 32 := uF_ne (fun h => absurd h.2 (by decide))
                  have q_161 : (-2147483648) ≤ S40.1 231 34 ∧ S40.1 231 34 ≤ 2147483647 := hI40.fi 34
                  have lk_162 : (uF S40 231 24 ((S40.1 231 24) + 2)).1 231 34 = S40.1 231 34 := uF_ne (fun h => absurd h.2 (by decide))
                  refine sBv (sV (As := [.int (iv ((S40.1 231 24) + 1))]) (rest := []) (k := 231) Cx (s_X12_tellPar l G (uF S40 231 24 ((S40.1 231 24) + 2)) (tk := (S40.1 231 24) + 1) (K := K) (V := V) (Fm := Fm) (Wd := Wd) (T := T) (pz := (S40.1 231 24) + 2) (q := e1) i_130 ((funext fun j => (uF_a).trans (((hL40_ 244 rfl).2.1 j).trans ((uF_a).trans ((uF_a).trans ((uF_a).trans ((uF_a).trans ((uF_a).trans ((uF_a).trans ((uF_a).trans (uF_a))))))))) : (uF S40 231 24 ((S40.1 231 24) + 2)).2.1 244 = S.2.1 244).trans hK) ((funext fun j => (uF_a).trans (((hL40_ 247 rfl).2.1 j).trans ((uF_a).trans ((uF_a).trans ((uF_a).trans ((uF_a).trans ((uF_a).trans ((uF_a).trans ((uF_a).trans (uF_a))))))))) : (uF S40 231 24 ((S40.1 231 24) + 2)).2.1 247 = S.2.1 247).trans hV) ((funext fun j => (uF_a).trans (((hL40_ 245 rfl).2.1 j).trans ((uF_a).trans ((uF_a).trans ((uF_a).trans ((uF_a).trans ((uF_a).trans ((uF_a).trans ((uF_a).trans (uF_a))))))))) : (uF S40 231 24 ((S40.1 231 24) + 2)).2.1 245 = S.2.1 245).trans hFm) ((funext fun j => (uF_a).trans (((hL40_ 246 rfl).2.1 j).trans ((uF_a).trans ((uF_a).trans ((uF_a).trans ((uF_a).trans ((uF_a).trans ((uF_a).trans ((uF_a).trans (uF_a))))))))) : (uF S40 231 24 ((S40.1 231 24) + 2)).2.1 246 = S.2.1 246).trans hWd) hQ (by omega) ((fun h => (NX.cg (S := S40) (u := (uF S40 231 24 ((S40.1 231 24) + 2))) (hN40 (by have e9 := (show (uF S40 231 24 ((S40.1 231 24) + 2)).1 231 20 = S40.1 231 20 from uF_ne (fun h => absurd h.2 (by decide))); omega)) (NR.eq (funext fun j => uF_a) (funext fun j => uF_a) (funext fun j => uF_a) (funext fun j => uF_a) (funext fun j => uF_a)) (uF_ne (fun h => absurd h.2 (by decide))) (uF_ne (fun h => absurd h.2 (by decide))) (uF_ne (fun h => absurd h.2 (by decide))) (funext fun j => uF_a))) (by have e9 := (show (uF S40 231 24 ((S40.1 231 24) + 2)).1 231 20 = S40.1 231 20 from uF_ne (fun h => absurd h.2 (by decide))); omega)) (by omega) (by omega) hT3 (by omega) (by omega) (by omega) (by omega)) (c_X12_388 Cx rfl rfl (rmk_ok (by omega) (by decide))) hW (by decide) rfl rfl rfl hl.1 rfl (Nat.le_of_ble_eq_true rfl) dX12_tellAll_133 ⟨Nat.le_of_ble_eq_true rfl, Nat.le_of_ble_eq_true rfl⟩) hL (fun u_163 H locs k_164 hW hL => ?_)
                  obtain ⟨iu_163, fu_163, gu_163, xu_163⟩ := k_164
                  have F_165 := F_124.trans (fu_163.to (pl_sub (by decide)))
                  have F_166 := F_125.trans (fu_163.to (pl_sub (by decide)))
                  have F_167 := F_126.trans (fu_163.to (pl_sub (by decide)))
                  have g_168 : FF S u_163 (fl [20, 21, 24, 25, 32, 33, 34, 35, 36, 40, 42, 43]) := FF.trans g_127 (FF.to gu_163 (fl_sub (by decide)))
                  have g_169 : FF S u_163 (fl [20, 21, 24, 25, 32, 33, 34, 35, 36, 42]) := FF.trans g_128 (FF.to gu_163 (fl_sub (by decide)))
                  have g_170 : FF ((uF (uF (uF (uF (uF (uF (uF (uF S 231 24 0) 231 25 0) 231 32 0) 231 33 0) 231 34 0) 231 42 0) 231 35 0) 231 36 0)) u_163 (fl [20, 21, 24, 25, 32, 33, 34, 35]) := FF.trans g_129 (FF.to gu_163 (fl_sub (by decide)))
                  refine lv_goto (tgt := 144) hx hb dX12_tellAll_136 (by decide) ?_
                  refine lv_goto (tgt := 40) hx hb dX12_tellAll_144 (by decide) ?_
                  have q_171 : (-2147483648) ≤ u_163.1 231 20 ∧ u_163.1 231 20 ≤ 2147483647 := iu_163.fi 20
                  have q_172 : (-2147483648) ≤ u_163.1 231 24 ∧ u_163.1 231 24 ≤ 2147483647 := iu_163.fi 24
                  have q_173 : (-2147483648) ≤ u_163.1 231 25 ∧ u_163.1 231 25 ≤ 2147483647 := iu_163.fi 25
                  have q_174 : (-2147483648) ≤ u_163.1 231 32 ∧ u_163.1 231 32 ≤ 2147483647 := iu_163.fi 32
                  have q_175 : (-2147483648) ≤ S40.1 231 33 ∧ S40.1 231 33 ≤ 2147483647 := hI40.fi 33
                  have lk_176 : u_163.1 231 33 = S40.1 231 33 := (gu_163 33 rfl).trans (uF_ne (fun h => absurd h.2 (by decide)))
                  have q_177 : (-2147483648) ≤ u_163.1 231 34 ∧ u_163.1 231 34 ≤ 2147483647 := iu_163.fi 34
                  exact ih_40 u_163  _ _ _ (Nat.lt_of_lt_of_le (mf_lt (S := S40) (by omega) (by omega) (fun h => by have a9 := xu_163 h; omega)) (Nat.le_of_lt_succ hm40)) iu_163 F_165 F_166 F_167 g_168 g_169 g_170 (fun h => (xu_163 h).1) (fun h => by have a9 := xu_163 h; have y25 := (show u_163.1 231 25 = u_163.1 231 25 from rfl); have y32 := (show u_163.1 231 32 = u_163.1 231 32 from rfl); have y33 := (show u_163.1 231 33 = S40.1 231 33 from (gu_163 33 rfl).trans (uF_ne (fun h => absurd h.2 (by decide)))); have y34 := (show u_163.1 231 34 = u_163.1 231 34 from rfl); exact ⟨by omega, by omega, by omega, by omega, by omega, (by rw [show u_163.1 231 24 = e1 by omega]; exact ht1)⟩) hW hL (lv_sub hl [2] rfl)
              · obtain ⟨_, _, ⟨_, rfl⟩, _, ⟨_, rfl⟩, _, ⟨hka, rfl⟩, _, ⟨_, rfl⟩, _, ⟨hkb, rfl⟩, hse⟩ := hT1.resolve_right (fun h => by rcases h with h | h; (have := h.1; omega); (have := h.1; omega))
                have hka2 : K (S40.1 231 24 + 2 + 1) = 2 := by rw [show S40.1 231 24 + 2 + 1 = S40.1 231 24 + 1 + 1 + 1 by omega]; exact hka
                have hkb2 : K (S40.1 231 24 + 2 + 3) = 2 := by rw [show S40.1 231 24 + 2 + 3 = S40.1 231 24 + 1 + 1 + 1 + 1 + 1 by omega]; exact hkb
                have hse2 := hse.2
                refine lv_aload_n hx hb dX12_tellAll_118 rfl (lv_at hl 2 rfl) ?_
                refine lv_iload_n hx hb dX12_tellAll_119 rfl (lv_at hl 0 rfl) ?_
                have lk_178 : (uF S40 231 24 ((S40.1 231 24) + 2)).1 231 20 = S40.1 231 20 := uF_ne (fun h => absurd h.2 (by decide))
                have q_179 : (-2147483648) ≤ S40.1 231 25 ∧ S40.1 231 25 ≤ 2147483647 := hI40.fi 25
                have lk_180 : (uF S40 231 24 ((S40.1 231 24) + 2)).1 231 25 = S40.1 231 25 := uF_ne (fun h => absurd h.2 (by decide))
                have lk_181 : (uF S40 231 24 ((S40.1 231 24) + 2)).1 231 24 = (S40.1 231 24) + 2 := uF_on
                have q_182 : (-2147483648) ≤ S40.1 231 33 ∧ S40.1 231 33 ≤ 2147483647 := hI40.fi 33
                have lk_183 : (uF S40 231 24 ((S40.1 231 24) + 2)).1 231 33 = S40.1 231 33 := uF_ne (fun h => absurd h.2 (by decide))
                refine sBv (sV (As := [.int (iv ((S40.1 231 24) + 1))]) (rest := []) (k := 231) Cx (s_X12_tellSet l G (uF S40 231 24 ((S40.1 231 24) + 2)) (tk := (S40.1 231 24) + 1) (K := K) (V := V) (Fm := Fm) (Wd := Wd) (T := T) (pz := (S40.1 231 24) + 2) i_130 ((funext fun j => (uF_a).trans (((hL40_ 244 rfl).2.1 j).trans ((uF_a).trans ((uF_a).trans ((uF_a).trans ((uF_a).trans ((uF_a).trans ((uF_a).trans ((uF_a).trans (uF_a))))))))) : (uF S40 231 24 ((S40.1 231 24) + 2)).2.1 244 = S.2.1 244).trans hK) ((funext fun j => (uF_a).trans (((hL40_ 247 rfl).2.1 j).trans ((uF_a).trans ((uF_a).trans ((uF_a).trans ((uF_a).trans ((uF_a).trans ((uF_a).trans ((uF_a).trans (uF_a))))))))) : (uF S40 231 24 ((S40.1 231 24) + 2)).2.1 247 = S.2.1 247).trans hV) ((funext fun j => (uF_a).trans (((hL40_ 245 rfl).2.1 j).trans ((uF_a).trans ((uF_a).trans ((uF_a).trans ((uF_a).trans ((uF_a).trans ((uF_a).trans ((uF_a).trans (uF_a))))))))) : (uF S40 231 24 ((S40.1 231 24) + 2)).2.1 245 = S.2.1 245).trans hFm) ((funext fun j => (uF_a).trans (((hL40_ 246 rfl).2.1 j).trans ((uF_a).trans ((uF_a).trans ((uF_a).trans ((uF_a).trans ((uF_a).trans ((uF_a).trans ((uF_a).trans (uF_a))))))))) : (uF S40 231 24 ((S40.1 231 24) + 2)).2.1 246 = S.2.1 246).trans hWd) hQ (by omega) ((fun h => (NX.cg (S := S40) (u := (uF S40 231 24 ((S40.1 231 24) + 2))) (hN40 (by have e9 := (show (uF S40 231 24 ((S40.1 231 24) + 2)).1 231 20 = S40.1 231 20 from uF_ne (fun h => absurd h.2 (by decide))); omega)) (NR.eq (funext fun j => uF_a) (funext fun j => uF_a) (funext fun j => uF_a) (funext fun j => uF_a) (funext fun j => uF_a)) (uF_ne (fun h => absurd h.2 (by decide))) (uF_ne (fun h => absurd h.2 (by decide))) (uF_ne (fun h => absurd h.2 (by decide))) (funext fun j => uF_a))) (by have e9 := (show (uF S40 231 24 ((S40.1 231 24) + 2)).1 231 20 = S40.1 231 20 from uF_ne (fun h => absurd h.2 (by decide))); omega)) (by omega) (by omega) (by omega) (by omega) (by omega) (by omega)) (c_X12_385 Cx rfl rfl (rmk_ok (by omega) (by decide))) hW (by decide) rfl rfl rfl hl.1 rfl (Nat.le_of_ble_eq_true rfl) dX12_tellAll_120 ⟨Nat.le_of_ble_eq_true rfl, Nat.le_of_ble_eq_true rfl⟩) hL (fun u_184 H locs k_185 hW hL => ?_)
                obtain ⟨iu_184, fu_184, gu_184, xu_184⟩ := k_185
                have F_186 := F_124.trans (fu_184.to (pl_sub (by decide)))
                have F_187 := F_125.trans (fu_184.to (pl_sub (by decide)))
                have F_188 := F_126.trans (fu_184.to (pl_sub (by decide)))
                have g_189 : FF S u_184 (fl [20, 21, 24, 25, 32, 33, 34, 35, 36, 40, 42, 43]) := FF.trans g_127 (FF.to gu_184 (fl_sub (by decide)))
                have g_190 : FF S u_184 (fl [20, 21, 24, 25, 32, 33, 34, 35, 36, 42]) := FF.trans g_128 (FF.to gu_184 (fl_sub (by decide)))
                have g_191 : FF ((uF (uF (uF (uF (uF (uF (uF (uF S 231 24 0) 231 25 0) 231 32 0) 231 33 0) 231 34 0) 231 42 0) 231 35 0) 231 36 0)) u_184 (fl [20, 21, 24, 25, 32, 33, 34, 35]) := FF.trans g_129 (FF.to gu_184 (fl_sub (by decide)))
                refine lv_goto (tgt := 144) hx hb dX12_tellAll_123 (by decide) ?_
                refine lv_goto (tgt := 40) hx hb dX12_tellAll_144 (by decide) ?_
                have q_192 : (-2147483648) ≤ u_184.1 231 20 ∧ u_184.1 231 20 ≤ 2147483647 := iu_184.fi 20
                have q_193 : (-2147483648) ≤ u_184.1 231 24 ∧ u_184.1 231 24 ≤ 2147483647 := iu_184.fi 24
                have q_194 : (-2147483648) ≤ u_184.1 231 25 ∧ u_184.1 231 25 ≤ 2147483647 := iu_184.fi 25
                have q_195 : (-2147483648) ≤ S40.1 231 32 ∧ S40.1 231 32 ≤ 2147483647 := hI40.fi 32
                have lk_196 : u_184.1 231 32 = S40.1 231 32 := (gu_184 32 rfl).trans (uF_ne (fun h => absurd h.2 (by decide)))
                have q_197 : (-2147483648) ≤ u_184.1 231 33 ∧ u_184.1 231 33 ≤ 2147483647 := iu_184.fi 33
                have q_198 : (-2147483648) ≤ S40.1 231 34 ∧ S40.1 231 34 ≤ 2147483647 := hI40.fi 34
                have lk_199 : u_184.1 231 34 = S40.1 231 34 := (gu_184 34 rfl).trans (uF_ne (fun h => absurd h.2 (by decide)))
                exact ih_40 u_184  _ _ _ (Nat.lt_of_lt_of_le (mf_lt (S := S40) (by omega) (by omega) (fun h => by have a9 := xu_184 h; omega)) (Nat.le_of_lt_succ hm40)) iu_184 F_186 F_187 F_188 g_189 g_190 g_191 (fun h => (xu_184 h).1) (fun h => by have a9 := xu_184 h; have y25 := (show u_184.1 231 25 = u_184.1 231 25 from rfl); have y32 := (show u_184.1 231 32 = S40.1 231 32 from (gu_184 32 rfl).trans (uF_ne (fun h => absurd h.2 (by decide)))); have y33 := (show u_184.1 231 33 = u_184.1 231 33 from rfl); have y34 := (show u_184.1 231 34 = S40.1 231 34 from (gu_184 34 rfl).trans (uF_ne (fun h => absurd h.2 (by decide)))); exact ⟨by omega, by omega, by omega, by omega, by omega, (by rw [show u_184.1 231 24 = e1 by omega]; exact ht1)⟩) hW hL (lv_sub hl [2] rfl)
  have q_200 : (-2147483648) ≤ S.1 231 20 ∧ S.1 231 20 ≤ 2147483647 := hI.fi 20
  have lk_201 : (uF (uF (uF (uF (uF (uF (uF (uF S 231 24 0) 231 25 0) 231 32 0) 231 33 0) 231 34 0) 231 42 0) 231 35 0) 231 36 0).1 231 20 = S.1 231 20 := (uF_ne (fun h => absurd h.2 (by decide))).trans ((uF_ne (fun h => absurd h.2 (by decide))).trans ((uF_ne (fun h => absurd h.2 (by decide))).trans ((uF_ne (fun h => absurd h.2 (by decide))).trans ((uF_ne (fun h => absurd h.2 (by decide))).trans ((uF_ne (fun h => absurd h.2 (by decide))).trans ((uF_ne (fun h => absurd h.2 (by decide))).trans (uF_ne (fun h => absurd h.2 (by decide)))))))))
  have lk_202 : (uF (uF (uF (uF (uF (uF (uF (uF S 231 24 0) 231 25 0) 231 32 0) 231 33 0) 231 34 0) 231 42 0) 231 35 0) 231 36 0).1 231 24 = 0 := (uF_ne (fun h => absurd h.2 (by decide))).trans ((uF_ne (fun h => absurd h.2 (by decide))).trans ((uF_ne (fun h => absurd h.2 (by decide))).trans ((uF_ne (fun h => absurd h.2 (by decide))).trans ((uF_ne (fun h => absurd h.2 (by decide))).trans ((uF_ne (fun h => absurd h.2 (by decide))).trans ((uF_ne (fun h => absurd h.2 (by decide))).trans (uF_on)))))))
  have lk_203 : (uF (uF (uF (uF (uF (uF (uF (uF S 231 24 0) 231 25 0) 231 32 0) 231 33 0) 231 34 0) 231 42 0) 231 35 0) 231 36 0).1 231 25 = 0 := (uF_ne (fun h => absurd h.2 (by decide))).trans ((uF_ne (fun h => absurd h.2 (by decide))).trans ((uF_ne (fun h => absurd h.2 (by decide))).trans ((uF_ne (fun h => absurd h.2 (by decide))).trans ((uF_ne (fun h => absurd h.2 (by decide))).trans ((uF_ne (fun h => absurd h.2 (by decide))).trans (uF_on))))))
  have lk_204 : (uF (uF (uF (uF (uF (uF (uF (uF S 231 24 0) 231 25 0) 231 32 0) 231 33 0) 231 34 0) 231 42 0) 231 35 0) 231 36 0).1 231 32 = 0 := (uF_ne (fun h => absurd h.2 (by decide))).trans ((uF_ne (fun h => absurd h.2 (by decide))).trans ((uF_ne (fun h => absurd h.2 (by decide))).trans ((uF_ne (fun h => absurd h.2 (by decide))).trans ((uF_ne (fun h => absurd h.2 (by decide))).trans (uF_on)))))
  have lk_205 : (uF (uF (uF (uF (uF (uF (uF (uF S 231 24 0) 231 25 0) 231 32 0) 231 33 0) 231 34 0) 231 42 0) 231 35 0) 231 36 0).1 231 33 = 0 := (uF_ne (fun h => absurd h.2 (by decide))).trans ((uF_ne (fun h => absurd h.2 (by decide))).trans ((uF_ne (fun h => absurd h.2 (by decide))).trans ((uF_ne (fun h => absurd h.2 (by decide))).trans (uF_on))))
  have lk_206 : (uF (uF (uF (uF (uF (uF (uF (uF S 231 24 0) 231 25 0) 231 32 0) 231 33 0) 231 34 0) 231 42 0) 231 35 0) 231 36 0).1 231 34 = 0 := (uF_ne (fun h => absurd h.2 (by decide))).trans ((uF_ne (fun h => absurd h.2 (by decide))).trans ((uF_ne (fun h => absurd h.2 (by decide))).trans (uF_on)))
  exact loop_40 (_ + 1) (uF (uF (uF (uF (uF (uF (uF (uF S 231 24 0) 231 25 0) 231 32 0) 231 33 0) 231 34 0) 231 42 0) 231 35 0) 231 36 0)  _ _ _ (Nat.lt_succ_self _) i_107 F_103 F_104 Fr.rf g_105 g_106 FF.rf (fun _ => ⟨⟨(by have y25 := (show (uF (uF (uF (uF (uF (uF (uF (uF S 231 24 0) 231 25 0) 231 32 0) 231 33 0) 231 34 0) 231 42 0) 231 35 0) 231 36 0).1 231 25 = 0 from (uF_ne (fun h => absurd h.2 (by decide))).trans ((uF_ne (fun h => absurd h.2 (by decide))).trans ((uF_ne (fun h => absurd h.2 (by decide))).trans ((uF_ne (fun h => absurd h.2 (by decide))).trans ((uF_ne (fun h => absurd h.2 (by decide))).trans ((uF_ne (fun h => absurd h.2 (by decide))).trans (uF_on))))))); omega), (fun j a b => absurd b (by have y25 := (show (uF (uF (uF (uF (uF (uF (uF (uF S 231 24 0) 231 25 0) 231 32 0) 231 33 0) 231 34 0) 231 42 0) 231 35 0) 231 36 0).1 231 25 = 0 from (uF_ne (fun h => absurd h.2 (by decide))).trans ((uF_ne (fun h => absurd h.2 (by decide))).trans ((uF_ne (fun h => absurd h.2 (by decide))).trans ((uF_ne (fun h => absurd h.2 (by decide))).trans ((uF_ne (fun h => absurd h.2 (by decide))).trans ((uF_ne (fun h => absurd h.2 (by decide))).trans (uF_on))))))); omega))⟩, (fun i a b => absurd b (by have y32 := (show (uF (uF (uF (uF (uF (uF (uF (uF S 231 24 0) 231 25 0) 231 32 0) 231 33 0) 231 34 0) 231 42 0) 231 35 0) 231 36 0).1 231 32 = 0 from (uF_ne (fun h => absurd h.2 (by decide))).trans ((uF_ne (fun h => absurd h.2 (by decide))).trans ((uF_ne (fun h => absurd h.2 (by decide))).trans ((uF_ne (fun h => absurd h.2 (by decide))).trans ((uF_ne (fun h => absurd h.2 (by decide))).trans (uF_on)))))); omega)), (by have y32 := (show (uF (uF (uF (uF (uF (uF (uF (uF S 231 24 0) 231 25 0) 231 32 0) 231 33 0) 231 34 0) 231 42 0) 231 35 0) 231 36 0).1 231 32 = 0 from (uF_ne (fun h => absurd h.2 (by decide))).trans ((uF_ne (fun h => absurd h.2 (by decide))).trans ((uF_ne (fun h => absurd h.2 (by decide))).trans ((uF_ne (fun h => absurd h.2 (by decide))).trans ((uF_ne (fun h => absurd h.2 (by decide))).trans (uF_on)))))); omega), (by have y35 := (show (uF (uF (uF (uF (uF (uF (uF (uF S 231 24 0) 231 25 0) 231 32 0) 231 33 0) 231 34 0) 231 42 0) 231 35 0) 231 36 0).1 231 35 = 0 from (uF_ne (fun h => absurd h.2 (by decide))).trans (uF_on)); omega)⟩) (fun _ => by have y24 := (show (uF (uF (uF (uF (uF (uF (uF (uF S 231 24 0) 231 25 0) 231 32 0) 231 33 0) 231 34 0) 231 42 0) 231 35 0) 231 36 0).1 231 24 = 0 from (uF_ne (fun h => absurd h.2 (by decide))).trans ((uF_ne (fun h => absurd h.2 (by decide))).trans ((uF_ne (fun h => absurd h.2 (by decide))).trans ((uF_ne (fun h => absurd h.2 (by decide))).trans ((uF_ne (fun h => absurd h.2 (by decide))).trans ((uF_ne (fun h => absurd h.2 (by decide))).trans ((uF_ne (fun h => absurd h.2 (by decide))).trans (uF_on)))))))); have y25 := (show (uF (uF (uF (uF (uF (uF (uF (uF S 231 24 0) 231 25 0) 231 32 0) 231 33 0) 231 34 0) 231 42 0) 231 35 0) 231 36 0).1 231 25 = 0 from (uF_ne (fun h => absurd h.2 (by decide))).trans ((uF_ne (fun h => absurd h.2 (by decide))).trans ((uF_ne (fun h => absurd h.2 (by decide))).trans ((uF_ne (fun h => absurd h.2 (by decide))).trans ((uF_ne (fun h => absurd h.2 (by decide))).trans ((uF_ne (fun h => absurd h.2 (by decide))).trans (uF_on))))))); have y32 := (show (uF (uF (uF (uF (uF (uF (uF (uF S 231 24 0) 231 25 0) 231 32 0) 231 33 0) 231 34 0) 231 42 0) 231 35 0) 231 36 0).1 231 32 = 0 from (uF_ne (fun h => absurd h.2 (by decide))).trans ((uF_ne (fun h => absurd h.2 (by decide))).trans ((uF_ne (fun h => absurd h.2 (by decide))).trans ((uF_ne (fun h => absurd h.2 (by decide))).trans ((uF_ne (fun h => absurd h.2 (by decide))).trans (uF_on)))))); have y33 := (show (uF (uF (uF (uF (uF (uF (uF (uF S 231 24 0) 231 25 0) 231 32 0) 231 33 0) 231 34 0) 231 42 0) 231 35 0) 231 36 0).1 231 33 = 0 from (uF_ne (fun h => absurd h.2 (by decide))).trans ((uF_ne (fun h => absurd h.2 (by decide))).trans ((uF_ne (fun h => absurd h.2 (by decide))).trans ((uF_ne (fun h => absurd h.2 (by decide))).trans (uF_on))))); have y34 := (show (uF (uF (uF (uF (uF (uF (uF (uF S 231 24 0) 231 25 0) 231 32 0) 231 33 0) 231 34 0) 231 42 0) 231 35 0) 231 36 0).1 231 34 = 0 from (uF_ne (fun h => absurd h.2 (by decide))).trans ((uF_ne (fun h => absurd h.2 (by decide))).trans ((uF_ne (fun h => absurd h.2 (by decide))).trans (uF_on)))); exact ⟨by omega, by omega, by omega, by omega, by omega, (by rw [y24]; exact ht0)⟩) hW hL (lv_sub hl [0] rfl)
