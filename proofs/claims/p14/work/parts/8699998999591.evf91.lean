/-- the numbers so far, in the reference -/
def XHr (S : sS) (g T : Int) (k v : Int → Int) (M : sM) (p : Int) : Prop := ∃ X, XAr S g X ∧ aMw T k v M00 0 X00 = aMw T k v M p X
theorem XHr.zero {S : sS} {T : Int} {k v : Int → Int} (c36 : S.1 231 36 = 0) (c35 : S.1 231 35 = 0) : XHr S 0 T k v M00 0 :=
  ⟨X00, ⟨fun _ => c36, fun q => absurd q (by decide), fun j a b => by exfalso; omega⟩, rfl⟩
theorem XHr.go {u : sS} {T : Int} {k v : Int → Int} {M M1 : sM} {p q g : Int} {X Y : sX} (hz : ∀ t, T ≤ t → k t = 0) (h0 : 0 ≤ M.1.1) (c : k p ≠ 0) (e : eSt T k v M p = some (M1, q)) (ea : aSt T k v M p X = Y) (h1 : aMw T k v M00 0 X00 = aMw T k v M p X) (hx : XAr u g Y) : XHr u g T k v M1 q :=
  ⟨Y, hx, by rw [h1, aMw_s hz h0 c e, ea]⟩
theorem gol_1 {t a : Int} {f : Int → Int} {j : Int} (h : t = 1) (e : a = f j) : a = gol t f j := by unfold gol; rw [if_pos h]; exact e
theorem gol_0 {t a : Int} {f : Int → Int} {j : Int} (h : t ≠ 1) (e : a = -(f j)) : a = gol t f j := by unfold gol; rw [if_neg h]; exact e
theorem gol_cg {t : Int} {f g : Int → Int} {j : Int} (e : f j = g j) : gol t f j = gol t g j := by unfold gol; rw [e]
set_option maxRecDepth 100000 in
set_option maxHeartbeats 4000000 in
theorem f_X12_tellAll (l : Launch) (G : sG) (S : sS) {k v : Int → Int} {T : Int} (hI : dX G S) (hkr : Hd (KRr S k v T)) (hTV : Hd (TVn k v)) (hf0 : S.1 231 20 = 0) (hg1 : Hd (G1r T k 0)) (hkT : Hd (k (T - 1) ≤ 1)) (hRB : Hd (RBu S)) : Met l yX12_tellAll (.code yX12_tellAll cX12_tellAll 3 none :: tb) (rmk 138 0 0) (sPc G 294 S [.ref (G.2.2.1 + 231)]) (sQv G 294 (fun u => dX G u ∧ Fr S u (pl [231, 248, 249, 250, 251, 252, 253, 254, 255, 256, 257, 258]) ∧ FF S u (fl [20, 21, 24, 25, 32, 33, 34, 35, 36, 40, 42, 43]) ∧ (Hd (RBu u) ∧ Hd (u.1 231 20 ≠ 0 → eMw T k v M00 0 = none) ∧ Hd (u.1 231 20 = 0 → ∃ M, eMw T k v M00 0 = some M ∧ MRr M k v u ∧ gb5 u ∧ WYr u M ∧ u.1 231 40 = M.2.2.2.2.2.2.1 ∧ ∃ X, aMw T k v M00 0 X00 = X ∧ XAr u 1 X)))) 0 0 (sF G) := by
  refine sEnter (by decide) (Nat.le_of_ble_eq_true rfl) ?_
  intro p e s m args below meth c Cx hr hlk hnm hW ls hl
  have Cx : sC G p m c cX12_tellAll 3 s args RX12 := Cx
  obtain ⟨hx, hb, hml, hown, hts⟩ := id Cx.1
  have hL : sL G [] := sL_nil
  have hl : lv_has ls 3 [(0, .ref (G.2.2.1 + 231))] := hl
  have hW0 := hW
  obtain ⟨K, hK⟩ : ∃ z, S.2.1 244 = z := ⟨_, rfl⟩
  obtain ⟨V, hV⟩ : ∃ z, S.2.1 247 = z := ⟨_, rfl⟩
  obtain ⟨Fm, hFm⟩ : ∃ z, S.2.1 245 = z := ⟨_, rfl⟩
  obtain ⟨Wd, hWd⟩ : ∃ z, S.2.1 246 = z := ⟨_, rfl⟩
  have hkk : kr K V T = k := (by rw [← hK, ← hV]; exact hkr.1)
  have hTb := hkr.2.1
  obtain ⟨pz, hpz0⟩ : ∃ pz : Int, S.1 231 24 = pz := ⟨_, rfl⟩
  have hkT1 := hkT
  have join_155 : ∀ (S155 : sS)  (H : Heap) (locs : List Loc) (ls : Array Slot), (dX G S155) → (Fr S S155 (pl [231, 248, 249, 250, 251, 252, 253, 254, 255, 256, 257, 258])) → (Fr S S155 (pl [231, 248, 249, 250, 251, 252, 253, 254])) → (FF S S155 (fl [20, 21, 24, 25, 32, 33, 34, 35, 36, 40, 42, 43])) → (FF S S155 (fl [20, 21, 24, 25, 32, 33, 34, 35, 36, 42])) → (S155.1 231 20 = 0) → (Hd (∃ M, eMw T k v M00 0 = eMw T k v M (S155.1 231 24) ∧ MRr M k v S155 ∧ 0 ≤ S155.1 231 24 ∧ G1r T k (S155.1 231 24) ∧ ¬ (k (S155.1 231 24) = 6 ∨ k (S155.1 231 24) = 7 ∨ k (S155.1 231 24) = 8) ∧ WYr S155 M ∧ XHr S155 0 T k v M (S155.1 231 24))) → sW G 294 S155 H → sL G locs → lv_has ls 3 [(0, .ref (G.2.2.1 + 231))] → W p l e (rmk 138 0 0) s m args below meth c H locs 0 0 (MQ below (sQv G 294 (fun u => dX G u ∧ Fr S u (pl [231, 248, 249, 250, 251, 252, 253, 254, 255, 256, 257, 258]) ∧ FF S u (fl [20, 21, 24, 25, 32, 33, 34, 35, 36, 40, 42, 43]) ∧ (Hd (RBu u) ∧ Hd (u.1 231 20 ≠ 0 → eMw T k v M00 0 = none) ∧ Hd (u.1 231 20 = 0 → ∃ M, eMw T k v M00 0 = some M ∧ MRr M k v u ∧ gb5 u ∧ WYr u M ∧ u.1 231 40 = M.2.2.2.2.2.2.1 ∧ ∃ X, aMw T k v M00 0 X00 = X ∧ XAr u 1 X)))) args s 0 0 (sF G)) (F0 m 155 ls []) := by
    intro S155  H locs ls hI155 hFm155 hL155_ hGm155 gL155_ h155 hM155 hW hL hl
    obtain ⟨M, eM, hM, hc0, hG, hn9, hWy, hXh⟩ := hM155
    obtain ⟨hk45, qg, ⟨q1, hgu, hk15, hqq⟩, hG2⟩ := hG.g hn9
    have hkl := hkr.lt (c := k (S155.1 231 24)) rfl hG.k
    obtain ⟨m33, m34, m35, m36, m42, mds⟩ := hM.2.2
    have hN1 := hM.1.1; have hgl := ogU_inc (ogF_inc 30) _ _ hgu
    have hq1T : q1 + 1 ≤ T - 1 := (by have hq15 := hk15; have y := hkr.lt hq15 (by decide); have z : q1 ≠ T - 1 := (fun z => by rw [z] at hq15; have x : k (T - 1) ≤ 1 := hkT; omega); omega)
    have hks : k (S155.1 231 24) ≠ 6 ∧ k (S155.1 231 24) ≠ 7 ∧ k (S155.1 231 24) ≠ 8 ∧ k (S155.1 231 24) ≠ 10 := (by omega)
    refine lv_aload_n hx hb dX12_tellAll_155 rfl (lv_at hl 0 rfl) ?_
    refine lv_aload_n hx hb dX12_tellAll_156 rfl (lv_at hl 0 rfl) ?_
    refine lv_iconst (v := iv 0) hx hb dX12_tellAll_157 (by decide) ?_
    have q_1 : (-2147483648) ≤ S155.1 231 24 ∧ S155.1 231 24 ≤ 2147483647 := hI155.fi 24
    refine sBi (sV (As := [.int (iv 0)]) (rest := [.ref (G.2.2.1 + 231)]) (k := 231) Cx (s_X12_isWord l G S155 (sv := 0) (K := K) (V := V) (pz := S155.1 231 24) hI155 (by omega) ((funext fun j => (hL155_ 244 rfl).2.1 j : S155.2.1 244 = S.2.1 244).trans hK) ((funext fun j => (hL155_ 247 rfl).2.1 j : S155.2.1 247 = S.2.1 247).trans hV) (by omega) (by omega)) (c_X12_325 Cx rfl rfl (rmk_ok (by omega) (by decide))) hW (by decide) rfl rfl rfl hl.1 rfl (Nat.le_of_ble_eq_true rfl) dX12_tellAll_158 ⟨Nat.le_of_ble_eq_true rfl, Nat.le_of_ble_eq_true rfl⟩) hL (fun r_4 u_2 H locs k_3 hW hL => ?_)
    obtain ⟨eu_2, xu_2⟩ := k_3
    rw [eu_2] at hW
    have tu_2a : Hd (r_4 = 1 → k (S155.1 231 24) = 4) := (fun h => by rw [← hkk]; exact ((wd_m (w := 0) (by decide)) K V T _).1 (by omega) (by omega) (xu_2.2.1 h))
    have tu_2b : Hd (r_4 ≠ 1 → k (S155.1 231 24) ≠ 4) := (fun h z => xu_2.2.2 h (((wd_m (w := 0) (by decide)) K V T _).2 (by rw [hkk]; exact z)))
    refine p_X12_394 Cx hW hL (k := 231) (by decide) rfl (by omega) dX12_tellAll_161 (fun H locs hW hL => ?_)
    have F_5 : Fr S (uF S155 231 40 r_4) (pl [231, 248, 249, 250, 251, 252, 253, 254, 255, 256, 257, 258]) := hFm155.F rfl
    have F_6 : Fr S (uF S155 231 40 r_4) (pl [231, 248, 249, 250, 251, 252, 253, 254]) := hL155_.F rfl
    have g_7 : FF S (uF S155 231 40 r_4) (fl [20, 21, 24, 25, 32, 33, 34, 35, 36, 40, 42, 43]) := FF.F hGm155 rfl
    have i_8 : dX G (uF S155 231 40 r_4) := hI155.F (i := 40) (show 0 ≤ r_4 ∧ r_4 ≤ 1 from ⟨by omega, by omega⟩)
    refine lv_aload_n hx hb dX12_tellAll_164 rfl (lv_at hl 0 rfl) ?_
    refine lv_dup hx hb dX12_tellAll_165 rfl ?_
    refine g_X12_315 Cx hW (k := 231) (by decide) rfl (v := S155.1 231 24) (uF_ne (fun h => absurd h.2 (by decide))) dX12_tellAll_166 ?_
    refine lv_iconst (v := iv 1) hx hb dX12_tellAll_169 (by decide) ?_
    refine r_iadd hx hb dX12_tellAll_170 ?_
    refine p_X12_315 Cx hW hL (k := 231) (by decide) rfl dX12_tellAll_171 (fun H locs hW hL => ?_)
    have F_9 : Fr S (uF (uF S155 231 40 r_4) 231 24 ((S155.1 231 24) + 1)) (pl [231, 248, 249, 250, 251, 252, 253, 254, 255, 256, 257, 258]) := F_5.F rfl
    have F_10 : Fr S (uF (uF S155 231 40 r_4) 231 24 ((S155.1 231 24) + 1)) (pl [231, 248, 249, 250, 251, 252, 253, 254]) := F_6.F rfl
    have g_11 : FF S (uF (uF S155 231 40 r_4) 231 24 ((S155.1 231 24) + 1)) (fl [20, 21, 24, 25, 32, 33, 34, 35, 36, 40, 42, 43]) := FF.F g_7 rfl
    have i_12 : dX G (uF (uF S155 231 40 r_4) 231 24 ((S155.1 231 24) + 1)) := i_8.F (i := 24) (show (-2147483648) ≤ (S155.1 231 24) + 1 ∧ (S155.1 231 24) + 1 ≤ 2147483647 from ⟨by omega, by omega⟩)
    refine lv_aload_n hx hb dX12_tellAll_174 rfl (lv_at hl 0 rfl) ?_
    refine lv_iconst (v := iv 0) hx hb dX12_tellAll_175 (by decide) ?_
    have q_13 : (-2147483648) ≤ S155.1 231 20 ∧ S155.1 231 20 ≤ 2147483647 := hI155.fi 20
    have lk_14 : (uF (uF S155 231 40 r_4) 231 24 ((S155.1 231 24) + 1)).1 231 20 = S155.1 231 20 := (uF_ne (fun h => absurd h.2 (by decide))).trans (uF_ne (fun h => absurd h.2 (by decide)))
    have lk_15 : (uF (uF S155 231 40 r_4) 231 24 ((S155.1 231 24) + 1)).1 231 24 = (S155.1 231 24) + 1 := uF_on
    have q_16 : (-2147483648) ≤ S155.1 231 42 ∧ S155.1 231 42 ≤ 2147483647 := hI155.fi 42
    have lk_17 : (uF (uF S155 231 40 r_4) 231 24 ((S155.1 231 24) + 1)).1 231 42 = S155.1 231 42 := (uF_ne (fun h => absurd h.2 (by decide))).trans (uF_ne (fun h => absurd h.2 (by decide)))
    have nr_18 : NRr M.1 k v (uF (uF S155 231 40 r_4) 231 24 ((S155.1 231 24) + 1)) := hM.1.of ((uF_ne (fun h => absurd h.2 (by decide))).trans (uF_ne (fun h => absurd h.2 (by decide)))) (funext fun j => (uF_a).trans (uF_a)) (funext fun j => (uF_a).trans (uF_a)) (funext fun j => (uF_a).trans (uF_a)) (funext fun j => (uF_a).trans (uF_a)) (funext fun j => (uF_a).trans (uF_a)) (funext fun j => (uF_a).trans (uF_a))
    have kr_19 : KRr (uF (uF S155 231 40 r_4) 231 24 ((S155.1 231 24) + 1)) k v T := hkr.of (funext fun j => (uF_a).trans ((uF_a).trans ((hL155_ 243 rfl).2.1 j))) (funext fun j => (uF_a).trans ((uF_a).trans ((hL155_ 244 rfl).2.1 j))) (funext fun j => (uF_a).trans ((uF_a).trans ((hL155_ 245 rfl).2.1 j))) (funext fun j => (uF_a).trans ((uF_a).trans ((hL155_ 246 rfl).2.1 j))) (funext fun j => (uF_a).trans ((uF_a).trans ((hL155_ 247 rfl).2.1 j)))
    refine sBv (sV (As := [.int (iv 0)]) (rest := []) (k := 231) Cx (exU l G (uF (uF S155 231 40 r_4) 231 24 ((S155.1 231 24) + 1)) M.1 k v T (S155.1 231 24 + 1) q1 0 i_12 ⟨nr_18, hM.2.1, hTV, kr_19, (by omega), (by omega), (by omega), ⟨by omega, by omega⟩⟩ (by omega) (by omega) (by omega) hgu) (c_X12_398 Cx rfl rfl (rmk_ok (by omega) (by decide))) hW (by decide) rfl rfl rfl hl.1 rfl (Nat.le_of_ble_eq_true rfl) dX12_tellAll_176 ⟨Nat.le_of_ble_eq_true rfl, Nat.le_of_ble_eq_true rfl⟩) hL (fun u_20 H locs k_21 hW hL => ?_)
    obtain ⟨iu_20, fu_20, gu_20, xu_20, yu_20⟩ := k_21
    have F_22 := F_9.trans (fu_20.to (pl_sub (by decide)))
    have g_23 : FF S u_20 (fl [20, 21, 24, 25, 32, 33, 34, 35, 36, 40, 42, 43]) := FF.trans g_11 (FF.to gu_20 (fl_sub (by decide)))
    have hvb : Hd (u_20.1 231 20 = 0 → ∀ t, 0 ≤ t → t < 13 → -99999 ≤ u_20.2.2.1 257 t ∧ u_20.2.2.1 257 t ≤ 99999) := (fun h t a b => by obtain ⟨V1, e1, w1, b1, l1, c1, n1⟩ := xu_20.2.1 h; have y : -99999 ≤ u_20.2.2.1 257 (0 + t) ∧ u_20.2.2.1 257 (0 + t) ≤ 99999 := (b1.eq w1) t a b; rw [Int.zero_add] at y; exact y)
    refine lv_iconst (v := iv 0) hx hb dX12_tellAll_179 (by decide) ?_
    refine lv_istore_n (lv' := [(1, .int (iv 0)), (0, .ref (G.2.2.1 + 231))]) hx hb dX12_tellAll_180 rfl hl (by decide) rfl (fun ls hl => ?_)
    have loop_181 : ∀ (fuel : Nat) (S181 : sS) (kk : Int) (H : Heap) (locs : List Loc) (ls : Array Slot), (13 - kk).toNat < fuel → (dX G S181) → (Fr S S181 (pl [231, 248, 249, 250, 251, 252, 253, 254, 255, 256, 257, 258])) → (Fr u_20 S181 (pl [256])) → (FF S S181 (fl [20, 21, 24, 25, 32, 33, 34, 35, 36, 40, 42, 43])) → (FF u_20 S181 (fl [])) → (0 ≤ kk ∧ kk ≤ 13) → (Hd (u_20.1 231 20 = 0 → ∀ t, 0 ≤ t → t < kk → -99999 ≤ S181.2.2.1 256 t ∧ S181.2.2.1 256 t ≤ 99999)) → (Hd (u_20.1 231 20 = 0 → ∀ t, 0 ≤ t → t < kk → S181.2.2.1 256 t = gol r_4 (u_20.2.2.1 257) t)) → sW G 294 S181 H → sL G locs → lv_has ls 3 [(1, .int (iv kk)), (0, .ref (G.2.2.1 + 231))] → W p l e (rmk 138 0 0) s m args below meth c H locs 0 0 (MQ below (sQv G 294 (fun u => dX G u ∧ Fr S u (pl [231, 248, 249, 250, 251, 252, 253, 254, 255, 256, 257, 258]) ∧ FF S u (fl [20, 21, 24, 25, 32, 33, 34, 35, 36, 40, 42, 43]) ∧ (Hd (RBu u) ∧ Hd (u.1 231 20 ≠ 0 → eMw T k v M00 0 = none) ∧ Hd (u.1 231 20 = 0 → ∃ M, eMw T k v M00 0 = some M ∧ MRr M k v u ∧ gb5 u ∧ WYr u M ∧ u.1 231 40 = M.2.2.2.2.2.2.1 ∧ ∃ X, aMw T k v M00 0 X00 = X ∧ XAr u 1 X)))) args s 0 0 (sF G)) (F0 m 181 ls []) := by
      intro fuel
      induction fuel with
      | zero => intro S181 kk H locs ls hmeas hI181 hFm181 hL181_ hGm181 gL181_ hk hG181 hV181 hW hL hl; exact absurd hmeas (Nat.not_lt_zero _)
      | succ fuel ih_181 =>
        intro S181 kk H locs ls hmeas hI181 hFm181 hL181_ hGm181 gL181_ hk hG181 hV181 hW hL hl
        refine lv_iload_n hx hb dX12_tellAll_181 rfl (lv_at hl 0 rfl) ?_
        refine lv_bipush (v := iv 12) hx hb dX12_tellAll_182 (by decide) ?_
        refine r_icmp_gt (tgt := 222) hx hb ⟨(by omega), (by omega)⟩ ⟨(by omega), (by omega)⟩ dX12_tellAll_184 (by decide) (fun c_24 => ?_) (fun c_24 => ?_)
        · refine lv_aload_n hx hb dX12_tellAll_222 rfl (lv_at hl 1 rfl) ?_
          refine lv_dup hx hb dX12_tellAll_223 rfl ?_
          have q_25 : (-2147483648) ≤ u_20.1 231 24 ∧ u_20.1 231 24 ≤ 2147483647 := iu_20.fi 24
          refine g_X12_315 Cx hW (k := 231) (by decide) rfl (v := u_20.1 231 24) (gL181_ 24 rfl) dX12_tellAll_224 ?_
          refine lv_iconst (v := iv 1) hx hb dX12_tellAll_227 (by decide) ?_
          refine r_iadd hx hb dX12_tellAll_228 ?_
          refine p_X12_315 Cx hW hL (k := 231) (by decide) rfl dX12_tellAll_229 (fun H locs hW hL => ?_)
          have F_26 : Fr S (uF S181 231 24 ((u_20.1 231 24) + 1)) (pl [231, 248, 249, 250, 251, 252, 253, 254, 255, 256, 257, 258]) := hFm181.F rfl
          have g_27 : FF S (uF S181 231 24 ((u_20.1 231 24) + 1)) (fl [20, 21, 24, 25, 32, 33, 34, 35, 36, 40, 42, 43]) := FF.F hGm181 rfl
          have i_28 : dX G (uF S181 231 24 ((u_20.1 231 24) + 1)) := hI181.F (i := 24) (show (-2147483648) ≤ (u_20.1 231 24) + 1 ∧ (u_20.1 231 24) + 1 ≤ 2147483647 from ⟨by omega, by omega⟩)
          have loop_232 : ∀ (fuel : Nat) (S232 : sS)  (H : Heap) (locs : List Loc) (ls : Array Slot), (if S232.1 231 20 = 0 then (T - S232.1 231 24).toNat + 1 else 0) < fuel → (dX G S232) → (Fr S S232 (pl [231, 248, 249, 250, 251, 252, 253, 254, 255, 256, 257, 258])) → (Fr ((uF S181 231 24 ((u_20.1 231 24) + 1))) S232 (pl [231, 248, 249, 250, 251, 252, 255, 257, 258])) → (FF S S232 (fl [20, 21, 24, 25, 32, 33, 34, 35, 36, 40, 42, 43])) → (FF ((uF S181 231 24 ((u_20.1 231 24) + 1))) S232 (fl [20, 21, 24, 25, 36, 42, 43])) → (Hd (S232.1 231 20 = 0 → ∃ M, eMw T k v M00 0 = eMw T k v M (S232.1 231 24) ∧ MRr M k v S232 ∧ 0 ≤ S232.1 231 24 ∧ G2r T k (S232.1 231 24) ∧ S232.1 231 24 ≤ T - 1 ∧ u_20.1 231 20 = 0 ∧ WYr S232 M ∧ S232.1 231 40 = M.2.2.2.2.2.2.1 ∧ XHr S232 1 T k v M (S232.1 231 24))) → (Hd (S232.1 231 20 ≠ 0 → eMw T k v M00 0 = none)) → (Hd (RBu S232)) → sW G 294 S232 H → sL G locs → lv_has ls 3 [(0, .ref (G.2.2.1 + 231))] → W p l e (rmk 138 0 0) s m args below meth c H locs 0 0 (MQ below (sQv G 294 (fun u => dX G u ∧ Fr S u (pl [231, 248, 249, 250, 251, 252, 253, 254, 255, 256, 257, 258]) ∧ FF S u (fl [20, 21, 24, 25, 32, 33, 34, 35, 36, 40, 42, 43]) ∧ (Hd (RBu u) ∧ Hd (u.1 231 20 ≠ 0 → eMw T k v M00 0 = none) ∧ Hd (u.1 231 20 = 0 → ∃ M, eMw T k v M00 0 = some M ∧ MRr M k v u ∧ gb5 u ∧ WYr u M ∧ u.1 231 40 = M.2.2.2.2.2.2.1 ∧ ∃ X, aMw T k v M00 0 X00 = X ∧ XAr u 1 X)))) args s 0 0 (sF G)) (F0 m 232 ls []) := by
            intro fuel
            induction fuel with
            | zero => intro S232  H locs ls hmeas hI232 hFm232 hL232_ hGm232 gL232_ hOK2 hNO2 hB2 hW hL hl; exact absurd hmeas (Nat.not_lt_zero _)
            | succ fuel ih_232 =>
              intro S232  H locs ls hmeas hI232 hFm232 hL232_ hGm232 gL232_ hOK2 hNO2 hB2 hW hL hl
              have hm232 := hmeas
              refine lv_aload_n hx hb dX12_tellAll_232 rfl (lv_at hl 0 rfl) ?_
              have q_29 : (-2147483648) ≤ S232.1 231 20 ∧ S232.1 231 20 ≤ 2147483647 := hI232.fi 20
              refine g_X12_270 Cx hW (k := 231) (by decide) rfl (v := S232.1 231 20) rfl dX12_tellAll_233 ?_
              refine r_if_ne (tgt := 255) hx hb ⟨(by omega), (by omega)⟩ dX12_tellAll_236 (by decide) (fun c_30 => ?_) (fun c_30 => ?_)
              · have lk_31 : S232.1 231 40 = r_4 := (gL232_ 40 rfl).trans ((uF_ne (fun h => absurd h.2 (by decide))).trans ((gL181_ 40 rfl).trans ((gu_20 40 rfl).trans ((uF_ne (fun h => absurd h.2 (by decide))).trans (uF_on)))))
                exact sVret Cx hr hlk hW hL ⟨hI232, hFm232, hGm232, ⟨hB2, (fun h => hNO2 h), (fun h => absurd h (by omega))⟩⟩ dX12_tellAll_255
              · obtain ⟨M2, eM2, hM2, hc2, hG3, hcT, hue, hWy2, hMx2, hXh2⟩ := hOK2 (by omega)
                refine lv_aload_n hx hb dX12_tellAll_239 rfl (lv_at hl 0 rfl) ?_
                refine lv_bipush (v := iv 6) hx hb dX12_tellAll_240 (by decide) ?_
                have q_32 : (-2147483648) ≤ S232.1 231 24 ∧ S232.1 231 24 ≤ 2147483647 := hI232.fi 24
                refine sBi (sV (As := [.int (iv 6)]) (rest := []) (k := 231) Cx (s_X12_isWord l G S232 (sv := 6) (K := K) (V := V) (pz := S232.1 231 24) hI232 (by omega) ((funext fun j => ((hL232_ 244 rfl).2.1 j).trans ((uF_a).trans (((hL181_ 244 rfl).2.1 j).trans (((fu_20 244 rfl).2.1 j).trans ((uF_a).trans ((uF_a).trans ((hL155_ 244 rfl).2.1 j)))))) : S232.2.1 244 = S.2.1 244).trans hK) ((funext fun j => ((hL232_ 247 rfl).2.1 j).trans ((uF_a).trans (((hL181_ 247 rfl).2.1 j).trans (((fu_20 247 rfl).2.1 j).trans ((uF_a).trans ((uF_a).trans ((hL155_ 247 rfl).2.1 j)))))) : S232.2.1 247 = S.2.1 247).trans hV) (by omega) (by omega)) (c_X12_325 Cx rfl rfl (rmk_ok (by omega) (by decide))) hW (by decide) rfl rfl rfl hl.1 rfl (Nat.le_of_ble_eq_true rfl) dX12_tellAll_242 ⟨Nat.le_of_ble_eq_true rfl, Nat.le_of_ble_eq_true rfl⟩) hL (fun r_35 u_33 H locs k_34 hW hL => ?_)
                obtain ⟨eu_33, xu_33⟩ := k_34
                rw [eu_33] at hW
                have tu_33a : Hd (r_35 = 1 → k (S232.1 231 24) = 10) := (fun h => by rw [← hkk]; exact ((wd_m (w := 6) (by decide)) K V T _).1 (by omega) (by omega) (xu_33.2.1 h))
                have tu_33b : Hd (r_35 ≠ 1 → k (S232.1 231 24) ≠ 10) := (fun h z => xu_33.2.2 h (((wd_m (w := 6) (by decide)) K V T _).2 (by rw [hkk]; exact z)))
                refine r_if_eq (tgt := 255) hx hb ⟨(by omega), (by omega)⟩ dX12_tellAll_245 (by decide) (fun c_36 => ?_) (fun c_36 => ?_)
                · have lk_37 : S232.1 231 40 = r_4 := (gL232_ 40 rfl).trans ((uF_ne (fun h => absurd h.2 (by decide))).trans ((gL181_ 40 rfl).trans ((gu_20 40 rfl).trans ((uF_ne (fun h => absurd h.2 (by decide))).trans (uF_on)))))
                  exact sVret Cx hr hlk hW hL ⟨hI232, hFm232, hGm232, ⟨hB2, (fun h => hNO2 h), (fun _ => ⟨M2, (by rw [eM2]; exact eMw_z (hG3.e (tu_33b (by omega)))), hM2, (fun t a b => by rw [show S232.2.2.1 256 t = S181.2.2.1 256 t from ((hL232_ 256 rfl).2.2.1 t).trans (uF_l)]; exact hG181 hue t a (by omega)), hWy2, hMx2, (by obtain ⟨X9, hX9, haw⟩ := hXh2; exact ⟨X9, (by rw [haw, aMw_z (hG3.e (tu_33b (by omega)))]), hX9⟩)⟩)⟩⟩ dX12_tellAll_255
                · have kc : k (S232.1 231 24) = 10 := tu_33a (by omega)
                  obtain ⟨qr, hgr, hk21, hk35, hG4⟩ := hG3.r hkr.z kc
                  have hqr : qr ≤ T - 1 ∧ S232.1 231 24 < qr := (by obtain ⟨b, a1, b1, hri, hk24, hg1, hks_, hg2, hk15_, hqb⟩ := hgr; have ha1 := ogU_inc (ogF_inc 30) _ _ hg1; have hb1 := ogU_inc (ogF_inc 30) _ _ hg2; have y := hkr.lt hk15_ (by decide); have z : b1 ≠ T - 1 := (fun z => by rw [z] at hk15_; have x : k (T - 1) ≤ 1 := hkT; omega); have hbl : S232.1 231 24 + 2 ≤ b := (by rcases hri with z | z; (have z2 := z.2; omega); (have z2 := z.2; omega)); omega)
                  refine lv_aload_n hx hb dX12_tellAll_248 rfl (lv_at hl 0 rfl) ?_
                  have kr_38 : KRr S232 k v T := hkr.of (funext fun j => ((hL232_ 243 rfl).2.1 j).trans ((uF_a).trans (((hL181_ 243 rfl).2.1 j).trans (((fu_20 243 rfl).2.1 j).trans ((uF_a).trans ((uF_a).trans ((hL155_ 243 rfl).2.1 j))))))) (funext fun j => ((hL232_ 244 rfl).2.1 j).trans ((uF_a).trans (((hL181_ 244 rfl).2.1 j).trans (((fu_20 244 rfl).2.1 j).trans ((uF_a).trans ((uF_a).trans ((hL155_ 244 rfl).2.1 j))))))) (funext fun j => ((hL232_ 245 rfl).2.1 j).trans ((uF_a).trans (((hL181_ 245 rfl).2.1 j).trans (((fu_20 245 rfl).2.1 j).trans ((uF_a).trans ((uF_a).trans ((hL155_ 245 rfl).2.1 j))))))) (funext fun j => ((hL232_ 246 rfl).2.1 j).trans ((uF_a).trans (((hL181_ 246 rfl).2.1 j).trans (((fu_20 246 rfl).2.1 j).trans ((uF_a).trans ((uF_a).trans ((hL155_ 246 rfl).2.1 j))))))) (funext fun j => ((hL232_ 247 rfl).2.1 j).trans ((uF_a).trans (((hL181_ 247 rfl).2.1 j).trans (((fu_20 247 rfl).2.1 j).trans ((uF_a).trans ((uF_a).trans ((hL155_ 247 rfl).2.1 j)))))))
                  refine sBv (sV (As := []) (rest := []) (k := 231) Cx (f_X12_tellRow l G S232 (pz := S232.1 231 24) (q := qr) hI232 kr_38 hM2 hTV (by omega) (by omega) hgr hk21 hk35 (by omega) hB2) (c_X12_401 Cx rfl rfl (rmk_ok (by omega) (by decide))) hW (by decide) rfl rfl rfl hl.1 rfl (Nat.le_of_ble_eq_true rfl) dX12_tellAll_249 ⟨Nat.le_of_ble_eq_true rfl, Nat.le_of_ble_eq_true rfl⟩) hL (fun u_39 H locs k_40 hW hL => ?_)
                  obtain ⟨iu_39, fu_39, gu_39, xu_39⟩ := k_40
                  have F_41 := hFm232.trans (fu_39.to (pl_sub (by decide)))
                  have F_42 := hL232_.trans fu_39
                  have g_43 : FF S u_39 (fl [20, 21, 24, 25, 32, 33, 34, 35, 36, 40, 42, 43]) := FF.trans hGm232 (FF.to gu_39 (fl_sub (by decide)))
                  have g_44 : FF ((uF S181 231 24 ((u_20.1 231 24) + 1))) u_39 (fl [20, 21, 24, 25, 36, 42, 43]) := FF.trans gL232_ (FF.to gu_39 (fl_sub (by decide)))
                  obtain ⟨xu_39, au_39⟩ := xu_39
                  refine lv_goto (tgt := 232) hx hb dX12_tellAll_252 (by decide) ?_
                  have q_45 : (-2147483648) ≤ u_39.1 231 20 ∧ u_39.1 231 20 ≤ 2147483647 := iu_39.fi 20
                  have q_46 : (-2147483648) ≤ u_39.1 231 24 ∧ u_39.1 231 24 ≤ 2147483647 := iu_39.fi 24
                  have lk_47 : u_39.1 231 40 = r_4 := (gu_39 40 rfl).trans ((gL232_ 40 rfl).trans ((uF_ne (fun h => absurd h.2 (by decide))).trans ((gL181_ 40 rfl).trans ((gu_20 40 rfl).trans ((uF_ne (fun h => absurd h.2 (by decide))).trans (uF_on))))))
                  exact ih_232 u_39  _ _ _ (by rw [if_pos (show S232.1 231 20 = 0 by omega)] at hm232; split; (rename_i hh; have cq := (xu_39.2.2 hh); obtain ⟨_, _, _, cq⟩ := cq; omega); omega) iu_39 F_41 F_42 g_43 g_44 (fun h => by obtain ⟨M3, e3, m3, c3⟩ := xu_39.2.2 h; exact ⟨M3, (by rw [eM2, eMw_s hkr.z hM2.1.1.2.1 (by omega) ((eSt_10 kc).trans e3), c3]), m3, (by omega), (by rw [c3]; exact hG4), (by omega), hue, hWy2.of (show u_39.1 231 35 = S232.1 231 35 from gu_39 35 rfl) (show u_39.2.1 254 = S232.2.1 254 from funext fun j => (fu_39 254 rfl).2.1 j) (eDr_w e3).1, (by have y9 := gu_39 40 rfl; rw [(eDr_w e3).2]; exact y9.trans hMx2), (by obtain ⟨X9, hX9, haw⟩ := hXh2; rw [c3]; exact XHr.go hkr.z hM2.1.1.2.1 (by omega) ((eSt_10 kc).trans e3) (aSt_10 kc) haw (au_39 h X9 hX9))⟩) (fun h => by rw [eM2]; exact eMw_n (by omega) ((eSt_10 kc).trans (xu_39.2.1 h))) xu_39.1 hW hL (lv_sub hl [0] rfl)
          have q_48 : (-2147483648) ≤ u_20.1 231 20 ∧ u_20.1 231 20 ≤ 2147483647 := iu_20.fi 20
          have lk_49 : (uF S181 231 24 ((u_20.1 231 24) + 1)).1 231 20 = u_20.1 231 20 := (uF_ne (fun h => absurd h.2 (by decide))).trans (gL181_ 20 rfl)
          have lk_50 : (uF S181 231 24 ((u_20.1 231 24) + 1)).1 231 24 = (u_20.1 231 24) + 1 := uF_on
          have lk_51 : (uF S181 231 24 ((u_20.1 231 24) + 1)).1 231 40 = r_4 := (uF_ne (fun h => absurd h.2 (by decide))).trans ((gL181_ 40 rfl).trans ((gu_20 40 rfl).trans ((uF_ne (fun h => absurd h.2 (by decide))).trans (uF_on))))
          exact loop_232 (_ + 1) (uF S181 231 24 ((u_20.1 231 24) + 1))  _ _ _ (Nat.lt_succ_self _) i_28 F_26 Fr.rf g_27 FF.rf (fun h => by have e9 := (show (uF S181 231 24 ((u_20.1 231 24) + 1)).1 231 20 = u_20.1 231 20 from (uF_ne (fun h => absurd h.2 (by decide))).trans (gL181_ 20 rfl)); obtain ⟨V1, e1, w1, b1, l1, c1, n1⟩ := xu_20.2.1 (by omega); rw [show (uF (uF S155 231 40 r_4) 231 24 ((S155.1 231 24) + 1)).1 231 42 = M.2.2.2.2.2.2.2 by omega] at e1; have e24 : (uF S181 231 24 ((u_20.1 231 24) + 1)).1 231 24 = q1 + 1 := (by have y := (show (uF S181 231 24 ((u_20.1 231 24) + 1)).1 231 24 = (u_20.1 231 24) + 1 from uF_on); omega); exact ⟨(M.1, M.2.1, M.2.2.1, M.2.2.2.1, M.2.2.2.2.1, M.2.2.2.2.2.1, (if k (S155.1 231 24) = 4 then 1 else 0), u_20.1 231 42), (by rw [eM, eMw_s hkr.z hM.1.1.2.1 (by omega) ((eSt_g hks).trans (eDg_s rfl e1)), e24]), hM.goal (n1.of ((uF_ne (fun h => absurd h.2 (by decide))).trans (gL181_ 25 rfl)) (funext fun j => (uF_a).trans ((hL181_ 248 rfl).2.1 j)) (funext fun j => (uF_a).trans ((hL181_ 249 rfl).2.1 j)) (funext fun j => (uF_a).trans ((hL181_ 250 rfl).2.1 j)) (funext fun j => (uF_a).trans ((hL181_ 251 rfl).2.1 j)) (funext fun j => (uF_a).trans ((hL181_ 252 rfl).2.1 j)) (funext fun j => (uF_a).trans ((hL181_ 253 rfl).2.1 j))) ((uF_ne (fun h => absurd h.2 (by decide))).trans ((gL181_ 33 rfl).trans ((gu_20 33 rfl).trans ((uF_ne (fun h => absurd h.2 (by decide))).trans (uF_ne (fun h => absurd h.2 (by decide))))))) ((uF_ne (fun h => absurd h.2 (by decide))).trans ((gL181_ 34 rfl).trans ((gu_20 34 rfl).trans ((uF_ne (fun h => absurd h.2 (by decide))).trans (uF_ne (fun h => absurd h.2 (by decide))))))) ((uF_ne (fun h => absurd h.2 (by decide))).trans ((gL181_ 35 rfl).trans ((gu_20 35 rfl).trans ((uF_ne (fun h => absurd h.2 (by decide))).trans (uF_ne (fun h => absurd h.2 (by decide))))))) ((uF_ne (fun h => absurd h.2 (by decide))).trans ((gL181_ 36 rfl).trans ((gu_20 36 rfl).trans ((uF_ne (fun h => absurd h.2 (by decide))).trans (uF_ne (fun h => absurd h.2 (by decide))))))) ⟨(show (uF S181 231 24 ((u_20.1 231 24) + 1)).1 231 42 = u_20.1 231 42 from (uF_ne (fun h => absurd h.2 (by decide))).trans (gL181_ 42 rfl)), l1⟩, (by omega), (by rw [e24, ← hqq]; exact hG2), (by omega), (by omega), hWy.of (show (uF S181 231 24 ((u_20.1 231 24) + 1)).1 231 35 = S155.1 231 35 from (uF_ne (fun h => absurd h.2 (by decide))).trans ((gL181_ 35 rfl).trans ((gu_20 35 rfl).trans ((uF_ne (fun h => absurd h.2 (by decide))).trans (uF_ne (fun h => absurd h.2 (by decide))))))) (show (uF S181 231 24 ((u_20.1 231 24) + 1)).2.1 254 = S155.2.1 254 from funext fun j => (uF_a).trans (((hL181_ 254 rfl).2.1 j).trans (((fu_20 254 rfl).2.1 j).trans ((uF_a).trans (uF_a))))) rfl, (by have y9 := (show (uF S181 231 24 ((u_20.1 231 24) + 1)).1 231 40 = r_4 from (uF_ne (fun h => absurd h.2 (by decide))).trans ((gL181_ 40 rfl).trans ((gu_20 40 rfl).trans ((uF_ne (fun h => absurd h.2 (by decide))).trans (uF_on))))); have y8 := xu_2.1; by_cases z : r_4 = 1; (have z1 := tu_2a z; show _ = (if _ then (1 : Int) else 0); rw [if_pos z1]; omega); (have z1 := tu_2b z; show _ = (if _ then (1 : Int) else 0); rw [if_neg z1]; omega)), (by obtain ⟨X9, hX9, haw⟩ := hXh; rw [e24]; exact XHr.go hkr.z hM.1.1.2.1 (by omega) ((eSt_g hks).trans (eDg_s rfl e1)) (aSt_g hks) haw (XAr.goal (t := r_4) hX9 e1 (by have y8 := xu_2.1; by_cases z : r_4 = 1; (have z1 := tu_2a z; show _ = (if _ then (1 : Int) else 0); rw [if_pos z1]; omega); (have z1 := tu_2b z; show _ = (if _ then (1 : Int) else 0); rw [if_neg z1]; omega)) (show (uF S181 231 24 ((u_20.1 231 24) + 1)).1 231 35 = S155.1 231 35 from (uF_ne (fun h => absurd h.2 (by decide))).trans ((gL181_ 35 rfl).trans ((gu_20 35 rfl).trans ((uF_ne (fun h => absurd h.2 (by decide))).trans (uF_ne (fun h => absurd h.2 (by decide))))))) (show (uF S181 231 24 ((u_20.1 231 24) + 1)).1 231 36 = S155.1 231 36 from (uF_ne (fun h => absurd h.2 (by decide))).trans ((gL181_ 36 rfl).trans ((gu_20 36 rfl).trans ((uF_ne (fun h => absurd h.2 (by decide))).trans (uF_ne (fun h => absurd h.2 (by decide))))))) (show (uF S181 231 24 ((u_20.1 231 24) + 1)).2.1 254 = S155.2.1 254 from funext fun j => (uF_a).trans (((hL181_ 254 rfl).2.1 j).trans (((fu_20 254 rfl).2.1 j).trans ((uF_a).trans (uF_a))))) (fun j a b => by have y : u_20.2.2.1 257 (0 + j) = V1 j := w1 j a (by omega); rw [Int.zero_add] at y; exact ((show (uF S181 231 24 ((u_20.1 231 24) + 1)).2.2.1 256 j = S181.2.2.1 256 j from uF_l).trans (hV181 (by omega) j a (by omega))).trans (gol_cg y))))⟩) (fun h => by have e9 := (show (uF S181 231 24 ((u_20.1 231 24) + 1)).1 231 20 = u_20.1 231 20 from (uF_ne (fun h => absurd h.2 (by decide))).trans (gL181_ 20 rfl)); have q9 := xu_20.2.2 (by omega); rw [show (uF (uF S155 231 40 r_4) 231 24 ((S155.1 231 24) + 1)).1 231 42 = M.2.2.2.2.2.2.2 by omega] at q9; rw [eM]; exact eMw_n (by omega) ((eSt_g hks).trans (eDg_n rfl q9))) (fun x => by rw [show (uF S181 231 24 ((u_20.1 231 24) + 1)).2.2.1 255 x = S.2.2.1 255 x from (uF_l).trans (((hL181_ 255 rfl).2.2.1 x).trans (((fu_20 255 rfl).2.2.1 x).trans ((uF_l).trans ((uF_l).trans ((hL155_ 255 rfl).2.2.1 x)))))]; exact hRB x) hW hL (lv_sub hl [1] rfl)
        · refine lv_aload_n hx hb dX12_tellAll_187 rfl (lv_at hl 1 rfl) ?_
          refine g_X12_85 Cx hW (k := 231) (by decide) rfl (v := .ref (G.2.2.1 + 256)) (rd_39 hI181) dX12_tellAll_188 ?_
          refine lv_iload_n hx hb dX12_tellAll_191 rfl (lv_at hl 0 rfl) ?_
          refine lv_aload_n hx hb dX12_tellAll_192 rfl (lv_at hl 1 rfl) ?_
          refine g_X12_394 Cx hW (k := 231) (by decide) rfl (v := r_4) ((gL181_ 40 rfl).trans ((gu_20 40 rfl).trans ((uF_ne (fun h => absurd h.2 (by decide))).trans (uF_on)))) dX12_tellAll_193 ?_
          refine r_if_eq (tgt := 208) hx hb ⟨(by omega), (by omega)⟩ dX12_tellAll_196 (by decide) (fun c_52 => ?_) (fun c_52 => ?_)
          · refine lv_aload_n hx hb dX12_tellAll_208 rfl (lv_at hl 1 rfl) ?_
            refine g_X12_88 Cx hW (k := 231) (by decide) rfl (v := .ref (G.2.2.1 + 257)) (rd_41 hI181) dX12_tellAll_209 ?_
            refine lv_iload_n hx hb dX12_tellAll_212 rfl (lv_at hl 0 rfl) ?_
            refine rLald Cx hW (k := 257) (by decide) rfl (by decide) (by omega) (by omega) dX12_tellAll_213 ?_
            have q_53 : -9223372036854775808 ≤ u_20.2.2.1 257 kk ∧ u_20.2.2.1 257 kk ≤ 9223372036854775807 := iu_20.li 257 kk
            refine r_j (b := u_20.2.2.1 257 kk) ((hL181_ 257 rfl).2.2.1 kk) ?_
            refine r_lneg hx hb dX12_tellAll_214 ?_
            obtain ⟨zg, ezg, lzg, hzg, fzg⟩ := jv_h (-(u_20.2.2.1 257 kk))
            rw [ezg]
            refine rLast Cx hW hL (k := 256) (by decide) rfl (by decide) (by omega) (by omega) dX12_tellAll_215 (fun H locs hW hL => ?_)
            have F_54 : Fr S (uL S181 256 kk zg) (pl [231, 248, 249, 250, 251, 252, 253, 254, 255, 256, 257, 258]) := hFm181.L rfl
            have F_55 : Fr u_20 (uL S181 256 kk zg) (pl [256]) := hL181_.L rfl
            have i_56 : dX G (uL S181 256 kk zg) := hI181.L ⟨by omega, by omega⟩
            refine lv_iinc (v := iv (kk + 1)) (lv' := [(1, .int (iv (kk + 1))), (0, .ref (G.2.2.1 + 231))]) hx hb dX12_tellAll_216 hl (k := 0) rfl ((Int32.ofInt_add _ _).symm) (by decide) rfl (fun ls hl => ?_)
            refine lv_goto (tgt := 181) hx hb dX12_tellAll_219 (by decide) ?_
            exact ih_181 (uL S181 256 kk zg) (kk + 1) _ _ _ (by omega) i_56 F_54 F_55 hGm181 gL181_ (by omega) (fun h t a b => by have y := hvb h kk (by omega) (by omega); have y3 := fzg (by omega) (by omega); by_cases e : t = kk; (rw [e, uL_on]; omega); rw [uL_ne (fun h => e h.2)]; exact hG181 h t a (by omega)) (fun h t a b => by have y := hvb h kk (by omega) (by omega); by_cases e : t = kk; (rw [e, uL_on]; exact gol_0 (by omega) (fzg (by omega) (by omega))); rw [uL_ne (fun h => e h.2)]; exact hV181 h t a (by omega)) hW hL (lv_sub hl [0, 1] rfl)
          · refine lv_aload_n hx hb dX12_tellAll_199 rfl (lv_at hl 1 rfl) ?_
            refine g_X12_88 Cx hW (k := 231) (by decide) rfl (v := .ref (G.2.2.1 + 257)) (rd_41 hI181) dX12_tellAll_200 ?_
            refine lv_iload_n hx hb dX12_tellAll_203 rfl (lv_at hl 0 rfl) ?_
            refine rLald Cx hW (k := 257) (by decide) rfl (by decide) (by omega) (by omega) dX12_tellAll_204 ?_
            have q_57 : -9223372036854775808 ≤ u_20.2.2.1 257 kk ∧ u_20.2.2.1 257 kk ≤ 9223372036854775807 := iu_20.li 257 kk
            refine r_j (b := u_20.2.2.1 257 kk) ((hL181_ 257 rfl).2.2.1 kk) ?_
            refine lv_goto (tgt := 215) hx hb dX12_tellAll_205 (by decide) ?_
            refine rLast Cx hW hL (k := 256) (by decide) rfl (by decide) (by omega) (by omega) dX12_tellAll_215 (fun H locs hW hL => ?_)
            have F_58 : Fr S (uL S181 256 kk (u_20.2.2.1 257 kk)) (pl [231, 248, 249, 250, 251, 252, 253, 254, 255, 256, 257, 258]) := hFm181.L rfl
            have F_59 : Fr u_20 (uL S181 256 kk (u_20.2.2.1 257 kk)) (pl [256]) := hL181_.L rfl
            have i_60 : dX G (uL S181 256 kk (u_20.2.2.1 257 kk)) := hI181.L ⟨by omega, by omega⟩
            refine lv_iinc (v := iv (kk + 1)) (lv' := [(1, .int (iv (kk + 1))), (0, .ref (G.2.2.1 + 231))]) hx hb dX12_tellAll_216 hl (k := 0) rfl ((Int32.ofInt_add _ _).symm) (by decide) rfl (fun ls hl => ?_)
            refine lv_goto (tgt := 181) hx hb dX12_tellAll_219 (by decide) ?_
            exact ih_181 (uL S181 256 kk (u_20.2.2.1 257 kk)) (kk + 1) _ _ _ (by omega) i_60 F_58 F_59 hGm181 gL181_ (by omega) (fun h t a b => by have y := hvb h kk (by omega) (by omega); by_cases e : t = kk; (rw [e, uL_on]; omega); rw [uL_ne (fun h => e h.2)]; exact hG181 h t a (by omega)) (fun h t a b => by by_cases e : t = kk; (rw [e, uL_on]; exact gol_1 (by have y8 := xu_2.1; omega) rfl); rw [uL_ne (fun h => e h.2)]; exact hV181 h t a (by omega)) hW hL (lv_sub hl [0, 1] rfl)
    exact loop_181 (_ + 1) u_20 0 _ _ _ (Nat.lt_succ_self _) iu_20 F_22 Fr.rf g_23 FF.rf (by omega) (fun _ t a b => absurd b (by omega)) (fun _ t a b => absurd b (by omega)) hW hL (lv_sub hl [0, 1] rfl)
  refine lv_aload_n hx hb dX12_tellAll_0 rfl (lv_at hl 0 rfl) ?_
  refine lv_iconst (v := iv 0) hx hb dX12_tellAll_1 (by decide) ?_
  refine p_X12_315 Cx hW hL (k := 231) (by decide) rfl dX12_tellAll_2 (fun H locs hW hL => ?_)
  have F_61 : Fr S (uF S 231 24 0) (pl [231, 248, 249, 250, 251, 252, 253, 254, 255, 256, 257, 258]) := (Fr.rf : Fr S S (pl [231, 248, 249, 250, 251, 252, 253, 254, 255, 256, 257, 258])).F rfl
  have F_62 : Fr S (uF S 231 24 0) (pl [231, 248, 249, 250, 251, 252, 253, 254]) := (Fr.rf : Fr S S (pl [231, 248, 249, 250, 251, 252, 253, 254])).F rfl
  have g_63 : FF S (uF S 231 24 0) (fl [20, 21, 24, 25, 32, 33, 34, 35, 36, 40, 42, 43]) := FF.F FF.rf rfl
  have g_64 : FF S (uF S 231 24 0) (fl [20, 21, 24, 25, 32, 33, 34, 35, 36, 42]) := FF.F (FF.rf : FF S S (fl [20, 21, 24, 25, 32, 33, 34, 35, 36, 42])) rfl
  have i_65 : dX G (uF S 231 24 0) := hI.F (i := 24) (show (-2147483648) ≤ 0 ∧ 0 ≤ 2147483647 from ⟨by omega, by omega⟩)
  refine lv_aload_n hx hb dX12_tellAll_5 rfl (lv_at hl 0 rfl) ?_
  refine lv_iconst (v := iv 0) hx hb dX12_tellAll_6 (by decide) ?_
  refine p_X12_358 Cx hW hL (k := 231) (by decide) rfl dX12_tellAll_7 (fun H locs hW hL => ?_)
  have F_66 : Fr S (uF (uF S 231 24 0) 231 25 0) (pl [231, 248, 249, 250, 251, 252, 253, 254, 255, 256, 257, 258]) := F_61.F rfl
  have F_67 : Fr S (uF (uF S 231 24 0) 231 25 0) (pl [231, 248, 249, 250, 251, 252, 253, 254]) := F_62.F rfl
  have g_68 : FF S (uF (uF S 231 24 0) 231 25 0) (fl [20, 21, 24, 25, 32, 33, 34, 35, 36, 40, 42, 43]) := FF.F g_63 rfl
  have g_69 : FF S (uF (uF S 231 24 0) 231 25 0) (fl [20, 21, 24, 25, 32, 33, 34, 35, 36, 42]) := FF.F g_64 rfl
  have i_70 : dX G (uF (uF S 231 24 0) 231 25 0) := i_65.F (i := 25) (show (-2147483648) ≤ 0 ∧ 0 ≤ 2147483647 from ⟨by omega, by omega⟩)
  refine lv_aload_n hx hb dX12_tellAll_10 rfl (lv_at hl 0 rfl) ?_
  refine lv_iconst (v := iv 0) hx hb dX12_tellAll_11 (by decide) ?_
  refine p_X12_367 Cx hW hL (k := 231) (by decide) rfl dX12_tellAll_12 (fun H locs hW hL => ?_)
  have F_71 : Fr S (uF (uF (uF S 231 24 0) 231 25 0) 231 32 0) (pl [231, 248, 249, 250, 251, 252, 253, 254, 255, 256, 257, 258]) := F_66.F rfl
  have F_72 : Fr S (uF (uF (uF S 231 24 0) 231 25 0) 231 32 0) (pl [231, 248, 249, 250, 251, 252, 253, 254]) := F_67.F rfl
  have g_73 : FF S (uF (uF (uF S 231 24 0) 231 25 0) 231 32 0) (fl [20, 21, 24, 25, 32, 33, 34, 35, 36, 40, 42, 43]) := FF.F g_68 rfl
  have g_74 : FF S (uF (uF (uF S 231 24 0) 231 25 0) 231 32 0) (fl [20, 21, 24, 25, 32, 33, 34, 35, 36, 42]) := FF.F g_69 rfl
  have i_75 : dX G (uF (uF (uF S 231 24 0) 231 25 0) 231 32 0) := i_70.F (i := 32) (show (-2147483648) ≤ 0 ∧ 0 ≤ 2147483647 from ⟨by omega, by omega⟩)
  refine lv_aload_n hx hb dX12_tellAll_15 rfl (lv_at hl 0 rfl) ?_
  refine lv_iconst (v := iv 0) hx hb dX12_tellAll_16 (by decide) ?_
  refine p_X12_370 Cx hW hL (k := 231) (by decide) rfl dX12_tellAll_17 (fun H locs hW hL => ?_)
  have F_76 : Fr S (uF (uF (uF (uF S 231 24 0) 231 25 0) 231 32 0) 231 33 0) (pl [231, 248, 249, 250, 251, 252, 253, 254, 255, 256, 257, 258]) := F_71.F rfl
  have F_77 : Fr S (uF (uF (uF (uF S 231 24 0) 231 25 0) 231 32 0) 231 33 0) (pl [231, 248, 249, 250, 251, 252, 253, 254]) := F_72.F rfl
  have g_78 : FF S (uF (uF (uF (uF S 231 24 0) 231 25 0) 231 32 0) 231 33 0) (fl [20, 21, 24, 25, 32, 33, 34, 35, 36, 40, 42, 43]) := FF.F g_73 rfl
  have g_79 : FF S (uF (uF (uF (uF S 231 24 0) 231 25 0) 231 32 0) 231 33 0) (fl [20, 21, 24, 25, 32, 33, 34, 35, 36, 42]) := FF.F g_74 rfl
  have i_80 : dX G (uF (uF (uF (uF S 231 24 0) 231 25 0) 231 32 0) 231 33 0) := i_75.F (i := 33) (show (-2147483648) ≤ 0 ∧ 0 ≤ 2147483647 from ⟨by omega, by omega⟩)
  refine lv_aload_n hx hb dX12_tellAll_20 rfl (lv_at hl 0 rfl) ?_
  refine lv_iconst (v := iv 0) hx hb dX12_tellAll_21 (by decide) ?_
  refine p_X12_373 Cx hW hL (k := 231) (by decide) rfl dX12_tellAll_22 (fun H locs hW hL => ?_)
  have F_81 : Fr S (uF (uF (uF (uF (uF S 231 24 0) 231 25 0) 231 32 0) 231 33 0) 231 34 0) (pl [231, 248, 249, 250, 251, 252, 253, 254, 255, 256, 257, 258]) := F_76.F rfl
  have F_82 : Fr S (uF (uF (uF (uF (uF S 231 24 0) 231 25 0) 231 32 0) 231 33 0) 231 34 0) (pl [231, 248, 249, 250, 251, 252, 253, 254]) := F_77.F rfl
  have g_83 : FF S (uF (uF (uF (uF (uF S 231 24 0) 231 25 0) 231 32 0) 231 33 0) 231 34 0) (fl [20, 21, 24, 25, 32, 33, 34, 35, 36, 40, 42, 43]) := FF.F g_78 rfl
  have g_84 : FF S (uF (uF (uF (uF (uF S 231 24 0) 231 25 0) 231 32 0) 231 33 0) 231 34 0) (fl [20, 21, 24, 25, 32, 33, 34, 35, 36, 42]) := FF.F g_79 rfl
  have i_85 : dX G (uF (uF (uF (uF (uF S 231 24 0) 231 25 0) 231 32 0) 231 33 0) 231 34 0) := i_80.F (i := 34) (show (-2147483648) ≤ 0 ∧ 0 ≤ 2147483647 from ⟨by omega, by omega⟩)
  refine lv_aload_n hx hb dX12_tellAll_25 rfl (lv_at hl 0 rfl) ?_
  refine lv_iconst (v := iv 0) hx hb dX12_tellAll_26 (by decide) ?_
  refine p_X12_376 Cx hW hL (k := 231) (by decide) rfl dX12_tellAll_27 (fun H locs hW hL => ?_)
  have F_86 : Fr S (uF (uF (uF (uF (uF (uF S 231 24 0) 231 25 0) 231 32 0) 231 33 0) 231 34 0) 231 42 0) (pl [231, 248, 249, 250, 251, 252, 253, 254, 255, 256, 257, 258]) := F_81.F rfl
  have F_87 : Fr S (uF (uF (uF (uF (uF (uF S 231 24 0) 231 25 0) 231 32 0) 231 33 0) 231 34 0) 231 42 0) (pl [231, 248, 249, 250, 251, 252, 253, 254]) := F_82.F rfl
  have g_88 : FF S (uF (uF (uF (uF (uF (uF S 231 24 0) 231 25 0) 231 32 0) 231 33 0) 231 34 0) 231 42 0) (fl [20, 21, 24, 25, 32, 33, 34, 35, 36, 40, 42, 43]) := FF.F g_83 rfl
  have g_89 : FF S (uF (uF (uF (uF (uF (uF S 231 24 0) 231 25 0) 231 32 0) 231 33 0) 231 34 0) 231 42 0) (fl [20, 21, 24, 25, 32, 33, 34, 35, 36, 42]) := FF.F g_84 rfl
  have i_90 : dX G (uF (uF (uF (uF (uF (uF S 231 24 0) 231 25 0) 231 32 0) 231 33 0) 231 34 0) 231 42 0) := i_85.F (i := 42) (show (-2147483648) ≤ 0 ∧ 0 ≤ 2147483647 from ⟨by omega, by omega⟩)
  refine lv_aload_n hx hb dX12_tellAll_30 rfl (lv_at hl 0 rfl) ?_
  refine lv_iconst (v := iv 0) hx hb dX12_tellAll_31 (by decide) ?_
  refine p_X12_379 Cx hW hL (k := 231) (by decide) rfl dX12_tellAll_32 (fun H locs hW hL => ?_)
  have F_91 : Fr S (uF (uF (uF (uF (uF (uF (uF S 231 24 0) 231 25 0) 231 32 0) 231 33 0) 231 34 0) 231 42 0) 231 35 0) (pl [231, 248, 249, 250, 251, 252, 253, 254, 255, 256, 257, 258]) := F_86.F rfl
  have F_92 : Fr S (uF (uF (uF (uF (uF (uF (uF S 231 24 0) 231 25 0) 231 32 0) 231 33 0) 231 34 0) 231 42 0) 231 35 0) (pl [231, 248, 249, 250, 251, 252, 253, 254]) := F_87.F rfl
  have g_93 : FF S (uF (uF (uF (uF (uF (uF (uF S 231 24 0) 231 25 0) 231 32 0) 231 33 0) 231 34 0) 231 42 0) 231 35 0) (fl [20, 21, 24, 25, 32, 33, 34, 35, 36, 40, 42, 43]) := FF.F g_88 rfl
  have g_94 : FF S (uF (uF (uF (uF (uF (uF (uF S 231 24 0) 231 25 0) 231 32 0) 231 33 0) 231 34 0) 231 42 0) 231 35 0) (fl [20, 21, 24, 25, 32, 33, 34, 35, 36, 42]) := FF.F g_89 rfl
  have i_95 : dX G (uF (uF (uF (uF (uF (uF (uF S 231 24 0) 231 25 0) 231 32 0) 231 33 0) 231 34 0) 231 42 0) 231 35 0) := i_90.F (i := 35) (show (-2147483648) ≤ 0 ∧ 0 ≤ 2147483647 from ⟨by omega, by omega⟩)
  refine lv_aload_n hx hb dX12_tellAll_35 rfl (lv_at hl 0 rfl) ?_
  refine lv_iconst (v := iv 0) hx hb dX12_tellAll_36 (by decide) ?_
  refine p_X12_382 Cx hW hL (k := 231) (by decide) rfl dX12_tellAll_37 (fun H locs hW hL => ?_)
  have F_96 : Fr S (uF (uF (uF (uF (uF (uF (uF (uF S 231 24 0) 231 25 0) 231 32 0) 231 33 0) 231 34 0) 231 42 0) 231 35 0) 231 36 0) (pl [231, 248, 249, 250, 251, 252, 253, 254, 255, 256, 257, 258]) := F_91.F rfl
  have F_97 : Fr S (uF (uF (uF (uF (uF (uF (uF (uF S 231 24 0) 231 25 0) 231 32 0) 231 33 0) 231 34 0) 231 42 0) 231 35 0) 231 36 0) (pl [231, 248, 249, 250, 251, 252, 253, 254]) := F_92.F rfl
  have g_98 : FF S (uF (uF (uF (uF (uF (uF (uF (uF S 231 24 0) 231 25 0) 231 32 0) 231 33 0) 231 34 0) 231 42 0) 231 35 0) 231 36 0) (fl [20, 21, 24, 25, 32, 33, 34, 35, 36, 40, 42, 43]) := FF.F g_93 rfl
  have g_99 : FF S (uF (uF (uF (uF (uF (uF (uF (uF S 231 24 0) 231 25 0) 231 32 0) 231 33 0) 231 34 0) 231 42 0) 231 35 0) 231 36 0) (fl [20, 21, 24, 25, 32, 33, 34, 35, 36, 42]) := FF.F g_94 rfl
  have i_100 : dX G (uF (uF (uF (uF (uF (uF (uF (uF S 231 24 0) 231 25 0) 231 32 0) 231 33 0) 231 34 0) 231 42 0) 231 35 0) 231 36 0) := i_95.F (i := 36) (show (-2147483648) ≤ 0 ∧ 0 ≤ 2147483647 from ⟨by omega, by omega⟩)
  have loop_40 : ∀ (fuel : Nat) (S40 : sS)  (H : Heap) (locs : List Loc) (ls : Array Slot), (if S40.1 231 20 = 0 then (T - S40.1 231 24).toNat + 1 else 0) < fuel → (dX G S40) → (Fr S S40 (pl [231, 248, 249, 250, 251, 252, 253, 254, 255, 256, 257, 258])) → (Fr S S40 (pl [231, 248, 249, 250, 251, 252, 253, 254])) → (Fr ((uF (uF (uF (uF (uF (uF (uF (uF S 231 24 0) 231 25 0) 231 32 0) 231 33 0) 231 34 0) 231 42 0) 231 35 0) 231 36 0)) S40 (pl [231, 248, 249, 250, 251, 252, 253, 254])) → (FF S S40 (fl [20, 21, 24, 25, 32, 33, 34, 35, 36, 40, 42, 43])) → (FF S S40 (fl [20, 21, 24, 25, 32, 33, 34, 35, 36, 42])) → (FF ((uF (uF (uF (uF (uF (uF (uF (uF S 231 24 0) 231 25 0) 231 32 0) 231 33 0) 231 34 0) 231 42 0) 231 35 0) 231 36 0)) S40 (fl [20, 21, 24, 25, 32, 33, 34, 35])) → (Hd (S40.1 231 20 = 0 → ∃ M, eMw T k v M00 0 = eMw T k v M (S40.1 231 24) ∧ MRr M k v S40 ∧ PBr M S40 ∧ 0 ≤ S40.1 231 24 ∧ G1r T k (S40.1 231 24) ∧ WYr S40 M ∧ XHr S40 0 T k v M (S40.1 231 24))) → (Hd (S40.1 231 20 ≠ 0 → eMw T k v M00 0 = none)) → sW G 294 S40 H → sL G locs → lv_has ls 3 [(0, .ref (G.2.2.1 + 231))] → W p l e (rmk 138 0 0) s m args below meth c H locs 0 0 (MQ below (sQv G 294 (fun u => dX G u ∧ Fr S u (pl [231, 248, 249, 250, 251, 252, 253, 254, 255, 256, 257, 258]) ∧ FF S u (fl [20, 21, 24, 25, 32, 33, 34, 35, 36, 40, 42, 43]) ∧ (Hd (RBu u) ∧ Hd (u.1 231 20 ≠ 0 → eMw T k v M00 0 = none) ∧ Hd (u.1 231 20 = 0 → ∃ M, eMw T k v M00 0 = some M ∧ MRr M k v u ∧ gb5 u ∧ WYr u M ∧ u.1 231 40 = M.2.2.2.2.2.2.1 ∧ ∃ X, aMw T k v M00 0 X00 = X ∧ XAr u 1 X)))) args s 0 0 (sF G)) (F0 m 40 ls []) := by
    intro fuel
    induction fuel with
    | zero => intro S40  H locs ls hmeas hI40 hFm40 hFL15540 hL40_ hGm40 hGL15540 gL40_ hOK hNO hW hL hl; exact absurd hmeas (Nat.not_lt_zero _)
    | succ fuel ih_40 =>
      intro S40  H locs ls hmeas hI40 hFm40 hFL15540 hL40_ hGm40 hGL15540 gL40_ hOK hNO hW hL hl
      have hm40 := hmeas
      refine lv_aload_n hx hb dX12_tellAll_40 rfl (lv_at hl 0 rfl) ?_
      have q_101 : (-2147483648) ≤ S40.1 231 20 ∧ S40.1 231 20 ≤ 2147483647 := hI40.fi 20
      refine g_X12_270 Cx hW (k := 231) (by decide) rfl (v := S40.1 231 20) rfl dX12_tellAll_41 ?_
      refine r_if_ne (tgt := 147) hx hb ⟨(by omega), (by omega)⟩ dX12_tellAll_44 (by decide) (fun c_102 => ?_) (fun c_102 => ?_)
      · refine lv_aload_n hx hb dX12_tellAll_147 rfl (lv_at hl 0 rfl) ?_
        refine g_X12_270 Cx hW (k := 231) (by decide) rfl (v := S40.1 231 20) rfl dX12_tellAll_148 ?_
        refine r_if_eq (tgt := 155) hx hb ⟨(by omega), (by omega)⟩ dX12_tellAll_151 (by decide) (fun c => absurd c (by omega)) (fun _ => ?_)
        have q_103 : 0 ≤ S.1 231 40 ∧ S.1 231 40 ≤ 1 := hI.fi 40
        have lk_104 : S40.1 231 40 = S.1 231 40 := (gL40_ 40 rfl).trans ((uF_ne (fun h => absurd h.2 (by decide))).trans ((uF_ne (fun h => absurd h.2 (by decide))).trans ((uF_ne (fun h => absurd h.2 (by decide))).trans ((uF_ne (fun h => absurd h.2 (by decide))).trans ((uF_ne (fun h => absurd h.2 (by decide))).trans ((uF_ne (fun h => absurd h.2 (by decide))).trans ((uF_ne (fun h => absurd h.2 (by decide))).trans (uF_ne (fun h => absurd h.2 (by decide))))))))))
        exact sVret Cx hr hlk hW hL ⟨hI40, hFm40, hGm40, ⟨(fun x => by rw [show S40.2.2.1 255 x = S.2.2.1 255 x from ((hL40_ 255 rfl).2.2.1 x).trans ((uF_l).trans ((uF_l).trans ((uF_l).trans ((uF_l).trans ((uF_l).trans ((uF_l).trans ((uF_l).trans (uF_l))))))))]; exact hRB x), (fun _ => hNO (by have e9 := (show S40.1 231 20 = S40.1 231 20 from rfl); omega)), (fun h => absurd h (by have e9 := (show S40.1 231 20 = S40.1 231 20 from rfl); omega))⟩⟩ dX12_tellAll_154
      · obtain ⟨M, eM, hM, hPb, hc0, hG, hWy, hXh⟩ := hOK (by omega)
        have hkl := hkr.lt (c := k (S40.1 231 24)) rfl hG.k
        refine lv_aload_n hx hb dX12_tellAll_47 rfl (lv_at hl 0 rfl) ?_
        refine g_X12_47 Cx hW (k := 231) (by decide) rfl (v := .ref (G.2.2.1 + 244)) (rd_15 hI40) dX12_tellAll_48 ?_
        refine lv_aload_n hx hb dX12_tellAll_51 rfl (lv_at hl 0 rfl) ?_
        have q_105 : (-2147483648) ≤ S40.1 231 24 ∧ S40.1 231 24 ≤ 2147483647 := hI40.fi 24
        refine g_X12_315 Cx hW (k := 231) (by decide) rfl (v := S40.1 231 24) rfl dX12_tellAll_52 ?_
        refine rIald Cx hW (k := 244) (by decide) rfl (by decide) (by omega) (by omega) dX12_tellAll_55 ?_
        have q_106 : (-2147483648) ≤ S.2.1 244 (S40.1 231 24) ∧ S.2.1 244 (S40.1 231 24) ≤ 2147483647 := hI.ai 244 (S40.1 231 24)
        refine r_i (b := S.2.1 244 (S40.1 231 24)) (((hL40_ 244 rfl).2.1 (S40.1 231 24)).trans ((uF_a).trans ((uF_a).trans ((uF_a).trans ((uF_a).trans ((uF_a).trans ((uF_a).trans ((uF_a).trans (uF_a))))))))) ?_
        have hr1 : K (S40.1 231 24) = S.2.1 244 (S40.1 231 24) := (by rw [← hK])
        refine lv_iconst (v := iv 3) hx hb dX12_tellAll_56 (by decide) ?_
        refine r_icmp_ne (tgt := 147) hx hb ⟨(by omega), (by omega)⟩ ⟨(by omega), (by omega)⟩ dX12_tellAll_57 (by decide) (fun c_107 => ?_) (fun c_107 => ?_)
        · have n678 : ¬ (k (S40.1 231 24) = 6 ∨ k (S40.1 231 24) = 7 ∨ k (S40.1 231 24) = 8) := (fun z => by rcases z with z | z | z; (have y := (wd_m (w := 2) (by decide) K V T (S40.1 231 24)).2 (by rw [hkk]; exact z); unfold gW at y; omega); (have y := (wd_m (w := 3) (by decide) K V T (S40.1 231 24)).2 (by rw [hkk]; exact z); unfold gW at y; omega); (have y := (wd_m (w := 4) (by decide) K V T (S40.1 231 24)).2 (by rw [hkk]; exact z); unfold gW at y; omega))
          refine lv_aload_n hx hb dX12_tellAll_147 rfl (lv_at hl 0 rfl) ?_
          refine g_X12_270 Cx hW (k := 231) (by decide) rfl (v := S40.1 231 20) rfl dX12_tellAll_148 ?_
          refine r_if_eq (tgt := 155) hx hb ⟨(by omega), (by omega)⟩ dX12_tellAll_151 (by decide) (fun _ => ?_) (fun c => absurd (by omega) c)
          exact join_155 S40  _ _ _ hI40 hFm40 hFL15540 hGm40 hGL15540 (by have y20 := (show S40.1 231 20 = S40.1 231 20 from rfl); omega) ⟨M, eM, hM, hc0, hG, n678, hWy, hXh⟩ hW hL (lv_sub hl [0] rfl)
        · refine lv_aload_n hx hb dX12_tellAll_60 rfl (lv_at hl 0 rfl) ?_
          refine g_X12_56 Cx hW (k := 231) (by decide) rfl (v := .ref (G.2.2.1 + 247)) (rd_18 hI40) dX12_tellAll_61 ?_
          refine lv_aload_n hx hb dX12_tellAll_64 rfl (lv_at hl 0 rfl) ?_
          refine g_X12_315 Cx hW (k := 231) (by decide) rfl (v := S40.1 231 24) rfl dX12_tellAll_65 ?_
          refine rIald Cx hW (k := 247) (by decide) rfl (by decide) (by omega) (by omega) dX12_tellAll_68 ?_
          have q_108 : (-2147483648) ≤ S.2.1 247 (S40.1 231 24) ∧ S.2.1 247 (S40.1 231 24) ≤ 2147483647 := hI.ai 247 (S40.1 231 24)
          refine r_i (b := S.2.1 247 (S40.1 231 24)) (((hL40_ 247 rfl).2.1 (S40.1 231 24)).trans ((uF_a).trans ((uF_a).trans ((uF_a).trans ((uF_a).trans ((uF_a).trans ((uF_a).trans ((uF_a).trans (uF_a))))))))) ?_
          have hr2 : V (S40.1 231 24) = S.2.1 247 (S40.1 231 24) := (by rw [← hV])
          refine lv_iconst (v := iv 2) hx hb dX12_tellAll_69 (by decide) ?_
          refine r_icmp_lt (tgt := 147) hx hb ⟨(by omega), (by omega)⟩ ⟨(by omega), (by omega)⟩ dX12_tellAll_70 (by decide) (fun c_109 => ?_) (fun c_109 => ?_)
          · have n678 : ¬ (k (S40.1 231 24) = 6 ∨ k (S40.1 231 24) = 7 ∨ k (S40.1 231 24) = 8) := (fun z => by rcases z with z | z | z; (have y := (wd_m (w := 2) (by decide) K V T (S40.1 231 24)).2 (by rw [hkk]; exact z); unfold gW at y; omega); (have y := (wd_m (w := 3) (by decide) K V T (S40.1 231 24)).2 (by rw [hkk]; exact z); unfold gW at y; omega); (have y := (wd_m (w := 4) (by decide) K V T (S40.1 231 24)).2 (by rw [hkk]; exact z); unfold gW at y; omega))
            refine lv_aload_n hx hb dX12_tellAll_147 rfl (lv_at hl 0 rfl) ?_
            refine g_X12_270 Cx hW (k := 231) (by decide) rfl (v := S40.1 231 20) rfl dX12_tellAll_148 ?_
            refine r_if_eq (tgt := 155) hx hb ⟨(by omega), (by omega)⟩ dX12_tellAll_151 (by decide) (fun _ => ?_) (fun c => absurd (by omega) c)
            exact join_155 S40  _ _ _ hI40 hFm40 hFL15540 hGm40 hGL15540 (by have y20 := (show S40.1 231 20 = S40.1 231 20 from rfl); omega) ⟨M, eM, hM, hc0, hG, n678, hWy, hXh⟩ hW hL (lv_sub hl [0] rfl)
          · refine lv_aload_n hx hb dX12_tellAll_73 rfl (lv_at hl 0 rfl) ?_
            refine g_X12_56 Cx hW (k := 231) (by decide) rfl (v := .ref (G.2.2.1 + 247)) (rd_18 hI40) dX12_tellAll_74 ?_
            refine lv_aload_n hx hb dX12_tellAll_77 rfl (lv_at hl 0 rfl) ?_
            refine g_X12_315 Cx hW (k := 231) (by decide) rfl (v := S40.1 231 24) rfl dX12_tellAll_78 ?_
            refine rIald Cx hW (k := 247) (by decide) rfl (by decide) (by omega) (by omega) dX12_tellAll_81 ?_
            refine r_i (b := S.2.1 247 (S40.1 231 24)) (((hL40_ 247 rfl).2.1 (S40.1 231 24)).trans ((uF_a).trans ((uF_a).trans ((uF_a).trans ((uF_a).trans ((uF_a).trans ((uF_a).trans ((uF_a).trans (uF_a))))))))) ?_
            refine lv_iconst (v := iv 4) hx hb dX12_tellAll_82 (by decide) ?_
            refine r_icmp_gt (tgt := 147) hx hb ⟨(by omega), (by omega)⟩ ⟨(by omega), (by omega)⟩ dX12_tellAll_83 (by decide) (fun c_110 => ?_) (fun c_110 => ?_)
            · have n678 : ¬ (k (S40.1 231 24) = 6 ∨ k (S40.1 231 24) = 7 ∨ k (S40.1 231 24) = 8) := (fun z => by rcases z with z | z | z; (have y := (wd_m (w := 2) (by decide) K V T (S40.1 231 24)).2 (by rw [hkk]; exact z); unfold gW at y; omega); (have y := (wd_m (w := 3) (by decide) K V T (S40.1 231 24)).2 (by rw [hkk]; exact z); unfold gW at y; omega); (have y := (wd_m (w := 4) (by decide) K V T (S40.1 231 24)).2 (by rw [hkk]; exact z); unfold gW at y; omega))
              refine lv_aload_n hx hb dX12_tellAll_147 rfl (lv_at hl 0 rfl) ?_
              refine g_X12_270 Cx hW (k := 231) (by decide) rfl (v := S40.1 231 20) rfl dX12_tellAll_148 ?_
              refine r_if_eq (tgt := 155) hx hb ⟨(by omega), (by omega)⟩ dX12_tellAll_151 (by decide) (fun _ => ?_) (fun c => absurd (by omega) c)
              exact join_155 S40  _ _ _ hI40 hFm40 hFL15540 hGm40 hGL15540 (by have y20 := (show S40.1 231 20 = S40.1 231 20 from rfl); omega) ⟨M, eM, hM, hc0, hG, n678, hWy, hXh⟩ hW hL (lv_sub hl [0] rfl)
            · refine lv_aload_n hx hb dX12_tellAll_86 rfl (lv_at hl 0 rfl) ?_
              refine g_X12_56 Cx hW (k := 231) (by decide) rfl (v := .ref (G.2.2.1 + 247)) (rd_18 hI40) dX12_tellAll_87 ?_
              refine lv_aload_n hx hb dX12_tellAll_90 rfl (lv_at hl 0 rfl) ?_
              refine g_X12_315 Cx hW (k := 231) (by decide) rfl (v := S40.1 231 24) rfl dX12_tellAll_91 ?_
              refine rIald Cx hW (k := 247) (by decide) rfl (by decide) (by omega) (by omega) dX12_tellAll_94 ?_
              refine r_i (b := S.2.1 247 (S40.1 231 24)) (((hL40_ 247 rfl).2.1 (S40.1 231 24)).trans ((uF_a).trans ((uF_a).trans ((uF_a).trans ((uF_a).trans ((uF_a).trans ((uF_a).trans ((uF_a).trans (uF_a))))))))) ?_
              refine lv_istore_n (lv' := [(1, .int (iv (S.2.1 247 (S40.1 231 24)))), (0, .ref (G.2.2.1 + 231))]) hx hb dX12_tellAll_95 rfl hl (by decide) rfl (fun ls hl => ?_)
              refine lv_aload_n hx hb dX12_tellAll_96 rfl (lv_at hl 1 rfl) ?_
              refine g_X12_315 Cx hW (k := 231) (by decide) rfl (v := S40.1 231 24) rfl dX12_tellAll_97 ?_
              refine lv_iconst (v := iv 1) hx hb dX12_tellAll_100 (by decide) ?_
              refine r_iadd hx hb dX12_tellAll_101 ?_
              refine lv_istore_n (lv' := [(2, .int (iv ((S40.1 231 24) + 1))), (1, .int (iv (S.2.1 247 (S40.1 231 24)))), (0, .ref (G.2.2.1 + 231))]) hx hb dX12_tellAll_102 rfl hl (by decide) rfl (fun ls hl => ?_)
              refine lv_aload_n hx hb dX12_tellAll_103 rfl (lv_at hl 2 rfl) ?_
              refine lv_dup hx hb dX12_tellAll_104 rfl ?_
              refine g_X12_315 Cx hW (k := 231) (by decide) rfl (v := S40.1 231 24) rfl dX12_tellAll_105 ?_
              refine lv_iconst (v := iv 2) hx hb dX12_tellAll_108 (by decide) ?_
              refine r_iadd hx hb dX12_tellAll_109 ?_
              refine p_X12_315 Cx hW hL (k := 231) (by decide) rfl dX12_tellAll_110 (fun H locs hW hL => ?_)
              have F_111 : Fr S (uF S40 231 24 ((S40.1 231 24) + 2)) (pl [231, 248, 249, 250, 251, 252, 253, 254, 255, 256, 257, 258]) := hFm40.F rfl
              have F_112 : Fr S (uF S40 231 24 ((S40.1 231 24) + 2)) (pl [231, 248, 249, 250, 251, 252, 253, 254]) := hFL15540.F rfl
              have F_113 : Fr ((uF (uF (uF (uF (uF (uF (uF (uF S 231 24 0) 231 25 0) 231 32 0) 231 33 0) 231 34 0) 231 42 0) 231 35 0) 231 36 0)) (uF S40 231 24 ((S40.1 231 24) + 2)) (pl [231, 248, 249, 250, 251, 252, 253, 254]) := hL40_.F rfl
              have g_114 : FF S (uF S40 231 24 ((S40.1 231 24) + 2)) (fl [20, 21, 24, 25, 32, 33, 34, 35, 36, 40, 42, 43]) := FF.F hGm40 rfl
              have g_115 : FF S (uF S40 231 24 ((S40.1 231 24) + 2)) (fl [20, 21, 24, 25, 32, 33, 34, 35, 36, 42]) := FF.F hGL15540 rfl
              have g_116 : FF ((uF (uF (uF (uF (uF (uF (uF (uF S 231 24 0) 231 25 0) 231 32 0) 231 33 0) 231 34 0) 231 42 0) 231 35 0) 231 36 0)) (uF S40 231 24 ((S40.1 231 24) + 2)) (fl [20, 21, 24, 25, 32, 33, 34, 35]) := FF.F gL40_ rfl
              have i_117 : dX G (uF S40 231 24 ((S40.1 231 24) + 2)) := hI40.F (i := 24) (show (-2147483648) ≤ (S40.1 231 24) + 2 ∧ (S40.1 231 24) + 2 ≤ 2147483647 from ⟨by omega, by omega⟩)
              refine lv_iload_n hx hb dX12_tellAll_113 rfl (lv_at hl 1 rfl) ?_
              refine lv_iconst (v := iv 2) hx hb dX12_tellAll_114 (by decide) ?_
              refine r_icmp_ne (tgt := 126) hx hb ⟨(by omega), (by omega)⟩ ⟨(by omega), (by omega)⟩ dX12_tellAll_115 (by decide) (fun c_118 => ?_) (fun c_118 => ?_)
              · refine lv_iload_n hx hb dX12_tellAll_126 rfl (lv_at hl 1 rfl) ?_
                refine lv_iconst (v := iv 3) hx hb dX12_tellAll_127 (by decide) ?_
                refine r_icmp_ne (tgt := 139) hx hb ⟨(by omega), (by omega)⟩ ⟨(by omega), (by omega)⟩ dX12_tellAll_128 (by decide) (fun c_119 => ?_) (fun c_119 => ?_)
                · have kc : k (S40.1 231 24) = 8 := (by rw [← hkk]; exact (wd_m (w := 4) (by decide) K V T (S40.1 231 24)).1 (by omega) (by omega) ⟨by omega, by omega⟩)
                  obtain ⟨qd, hk2, hq15, hgd, hG2⟩ := hG.d hkr.z (by omega)
                  have hgs : gVa k (S40.1 231 24) qd := (by rcases hgd with z | z | z; (exfalso; have z1 := z.1; omega); (exact z.2); (exfalso; have z1 := z.1; have z2 := z.2.1; omega))
                  have hqT : qd ≤ T - 1 := (by have y := hkr.lt hq15 (by decide); have z : qd - 1 ≠ T - 1 := (fun z => by rw [z] at hq15; have x : k (T - 1) ≤ 1 := hkT; omega); omega)
                  have hlt : S40.1 231 24 < qd := (by obtain ⟨qi, hgi, hgw⟩ := hgs; have y1 := ogI_le hgi; rcases hgw with z | z; (have z2 := z.2; omega); (have z2 := z.2; omega))
                  refine lv_aload_n hx hb dX12_tellAll_139 rfl (lv_at hl 2 rfl) ?_
                  refine lv_iload_n hx hb dX12_tellAll_140 rfl (lv_at hl 0 rfl) ?_
                  have lk_120 : (uF S40 231 24 ((S40.1 231 24) + 2)).1 231 20 = S40.1 231 20 := uF_ne (fun h => absurd h.2 (by decide))
                  have lk_121 : (uF S40 231 24 ((S40.1 231 24) + 2)).1 231 24 = (S40.1 231 24) + 2 := uF_on
                  have kr_122 : KRr (uF S40 231 24 ((S40.1 231 24) + 2)) k v T := hkr.of (funext fun j => (uF_a).trans (((hL40_ 243 rfl).2.1 j).trans ((uF_a).trans ((uF_a).trans ((uF_a).trans ((uF_a).trans ((uF_a).trans ((uF_a).trans ((uF_a).trans (uF_a)))))))))) (funext fun j => (uF_a).trans (((hL40_ 244 rfl).2.1 j).trans ((uF_a).trans ((uF_a).trans ((uF_a).trans ((uF_a).trans ((uF_a).trans ((uF_a).trans ((uF_a).trans (uF_a)))))))))) (funext fun j => (uF_a).trans (((hL40_ 245 rfl).2.1 j).trans ((uF_a).trans ((uF_a).trans ((uF_a).trans ((uF_a).trans ((uF_a).trans ((uF_a).trans ((uF_a).trans (uF_a)))))))))) (funext fun j => (uF_a).trans (((hL40_ 246 rfl).2.1 j).trans ((uF_a).trans ((uF_a).trans ((uF_a).trans ((uF_a).trans ((uF_a).trans ((uF_a).trans ((uF_a).trans (uF_a)))))))))) (funext fun j => (uF_a).trans (((hL40_ 247 rfl).2.1 j).trans ((uF_a).trans ((uF_a).trans ((uF_a).trans ((uF_a).trans ((uF_a).trans ((uF_a).trans ((uF_a).trans (uF_a))))))))))
                  refine sBv (sV (As := [.int (iv ((S40.1 231 24) + 1))]) (rest := []) (k := 231) Cx (f_X12_tellVar l G (uF S40 231 24 ((S40.1 231 24) + 2)) (tk := (S40.1 231 24) + 1) (pz := (S40.1 231 24) + 2) (pp := S40.1 231 24) (q := qd) i_117 kr_122 (hM.of (hM.1.of (uF_ne (fun h => absurd h.2 (by decide))) (funext fun j => uF_a) (funext fun j => uF_a) (funext fun j => uF_a) (funext fun j => uF_a) (funext fun j => uF_a) (funext fun j => uF_a)) (uF_ne (fun h => absurd h.2 (by decide))) (uF_ne (fun h => absurd h.2 (by decide))) (uF_ne (fun h => absurd h.2 (by decide))) (uF_ne (fun h => absurd h.2 (by decide))) (uF_ne (fun h => absurd h.2 (by decide)))) hTV (by omega) (by omega) (hPb.of (uF_ne (fun h => absurd h.2 (by decide))) (funext fun j => uF_a)) (by omega) (by omega) hk2 hgs (by omega)) (c_X12_391 Cx rfl rfl (rmk_ok (by omega) (by decide))) hW (by decide) rfl rfl rfl hl.1 rfl (Nat.le_of_ble_eq_true rfl) dX12_tellAll_141 ⟨Nat.le_of_ble_eq_true rfl, Nat.le_of_ble_eq_true rfl⟩) hL (fun u_123 H locs k_124 hW hL => ?_)
                  obtain ⟨iu_123, fu_123, gu_123, xu_123⟩ := k_124
                  have F_125 := F_111.trans (fu_123.to (pl_sub (by decide)))
                  have F_126 := F_112.trans (fu_123.to (pl_sub (by decide)))
                  have F_127 := F_113.trans (fu_123.to (pl_sub (by decide)))
                  have g_128 : FF S u_123 (fl [20, 21, 24, 25, 32, 33, 34, 35, 36, 40, 42, 43]) := FF.trans g_114 (FF.to gu_123 (fl_sub (by decide)))
                  have g_129 : FF S u_123 (fl [20, 21, 24, 25, 32, 33, 34, 35, 36, 42]) := FF.trans g_115 (FF.to gu_123 (fl_sub (by decide)))
                  have g_130 : FF ((uF (uF (uF (uF (uF (uF (uF (uF S 231 24 0) 231 25 0) 231 32 0) 231 33 0) 231 34 0) 231 42 0) 231 35 0) 231 36 0)) u_123 (fl [20, 21, 24, 25, 32, 33, 34, 35]) := FF.trans g_116 (FF.to gu_123 (fl_sub (by decide)))
                  obtain ⟨xu_123, ku_123, au_123⟩ := xu_123
                  refine lv_goto (tgt := 40) hx hb dX12_tellAll_144 (by decide) ?_
                  have q_131 : (-2147483648) ≤ u_123.1 231 20 ∧ u_123.1 231 20 ≤ 2147483647 := iu_123.fi 20
                  have q_132 : (-2147483648) ≤ u_123.1 231 24 ∧ u_123.1 231 24 ≤ 2147483647 := iu_123.fi 24
                  exact ih_40 u_123  _ _ _ (by rw [if_pos (show S40.1 231 20 = 0 by omega)] at hm40; split; (rename_i hh; have cq := xu_123.2 hh; obtain ⟨_, _, _, _, cq⟩ := cq; omega); omega) iu_123 F_125 F_126 F_127 g_128 g_129 g_130 (fun h => by obtain ⟨M2, e2, m2, p2, c2⟩ := xu_123.2 h; exact ⟨M2, (by rw [eM, eMw_s hkr.z hM.1.1.2.1 (by omega) ((eSt_8 kc).trans e2), c2]), m2, p2, (by omega), (by rw [c2]; exact hG2), (ku_123 h (hWy.of (show (uF S40 231 24 ((S40.1 231 24) + 2)).1 231 35 = S40.1 231 35 from uF_ne (fun h => absurd h.2 (by decide))) (show (uF S40 231 24 ((S40.1 231 24) + 2)).2.1 254 = S40.2.1 254 from funext fun j => uF_a) rfl) M2 e2), (by obtain ⟨X9, hX9, haw⟩ := hXh; rw [c2]; exact XHr.go hkr.z hM.1.1.2.1 (by omega) ((eSt_8 kc).trans e2) (aSt_8 kc) haw (au_123 h X9 (XAr.of (S := S40) (u := (uF S40 231 24 ((S40.1 231 24) + 2))) hX9 (uF_ne (fun h => absurd h.2 (by decide))) (uF_ne (fun h => absurd h.2 (by decide))) (funext fun j => uF_l) (funext fun j => uF_l) (funext fun j => uF_a))))⟩) (fun h => by rw [eM]; exact eMw_n (by omega) ((eSt_8 kc).trans (xu_123.1 h))) hW hL (lv_sub hl [2] rfl)
                · have kc : k (S40.1 231 24) = 7 := (by rw [← hkk]; exact (wd_m (w := 3) (by decide) K V T (S40.1 231 24)).1 (by omega) (by omega) ⟨by omega, by omega⟩)
                  obtain ⟨qd, hk2, hq15, hgd, hG2⟩ := hG.d hkr.z (by omega)
                  have hgs : gPa T k (S40.1 231 24) qd := (by rcases hgd with z | z | z; (exfalso; have z1 := z.1; omega); (exfalso; have z1 := z.1; omega); (exact z.2.2))
                  have hqT : qd ≤ T - 1 := (by have y := hkr.lt hq15 (by decide); have z : qd - 1 ≠ T - 1 := (fun z => by rw [z] at hq15; have x : k (T - 1) ≤ 1 := hkT; omega); omega)
                  have hlt : S40.1 231 24 < qd := (by obtain ⟨qi, b, hgi, hg13, hgv_, hg15_, hgq⟩ := hgs; have y1 := ogI_le hgi; have y2 := ogVs_inc _ _ hgv_; omega)
                  refine lv_aload_n hx hb dX12_tellAll_131 rfl (lv_at hl 2 rfl) ?_
                  refine lv_iload_n hx hb dX12_tellAll_132 rfl (lv_at hl 0 rfl) ?_
                  have lk_133 : (uF S40 231 24 ((S40.1 231 24) + 2)).1 231 20 = S40.1 231 20 := uF_ne (fun h => absurd h.2 (by decide))
                  have lk_134 : (uF S40 231 24 ((S40.1 231 24) + 2)).1 231 24 = (S40.1 231 24) + 2 := uF_on
                  have kr_135 : KRr (uF S40 231 24 ((S40.1 231 24) + 2)) k v T := hkr.of (funext fun j => (uF_a).trans (((hL40_ 243 rfl).2.1 j).trans ((uF_a).trans ((uF_a).trans ((uF_a).trans ((uF_a).trans ((uF_a).trans ((uF_a).trans ((uF_a).trans (uF_a)))))))))) (funext fun j => (uF_a).trans (((hL40_ 244 rfl).2.1 j).trans ((uF_a).trans ((uF_a).trans ((uF_a).trans ((uF_a).trans ((uF_a).trans ((uF_a).trans ((uF_a).trans (uF_a)))))))))) (funext fun j => (uF_a).trans (((hL40_ 245 rfl).2.1 j).trans ((uF_a).trans ((uF_a).trans ((uF_a).trans ((uF_a).trans ((uF_a).trans ((uF_a).trans ((uF_a).trans (uF_a)))))))))) (funext fun j => (uF_a).trans (((hL40_ 246 rfl).2.1 j).trans ((uF_a).trans ((uF_a).trans ((uF_a).trans ((uF_a).trans ((uF_a).trans ((uF_a).trans ((uF_a).trans (uF_a)))))))))) (funext fun j => (uF_a).trans (((hL40_ 247 rfl).2.1 j).trans ((uF_a).trans ((uF_a).trans ((uF_a).trans ((uF_a).trans ((uF_a).trans ((uF_a).trans ((uF_a).trans (uF_a))))))))))
                  refine sBv (sV (As := [.int (iv ((S40.1 231 24) + 1))]) (rest := []) (k := 231) Cx (e_X12_tellPar l G (uF S40 231 24 ((S40.1 231 24) + 2)) (tk := (S40.1 231 24) + 1) (pz := (S40.1 231 24) + 2) (pp := S40.1 231 24) (q := qd) i_117 kr_135 (hM.of (hM.1.of (uF_ne (fun h => absurd h.2 (by decide))) (funext fun j => uF_a) (funext fun j => uF_a) (funext fun j => uF_a) (funext fun j => uF_a) (funext fun j => uF_a) (funext fun j => uF_a)) (uF_ne (fun h => absurd h.2 (by decide))) (uF_ne (fun h => absurd h.2 (by decide))) (uF_ne (fun h => absurd h.2 (by decide))) (uF_ne (fun h => absurd h.2 (by decide))) (uF_ne (fun h => absurd h.2 (by decide)))) hTV (by omega) (by omega) (hPb.of (uF_ne (fun h => absurd h.2 (by decide))) (funext fun j => uF_a)) (by omega) (by omega) hk2 hgs (by omega)) (c_X12_388 Cx rfl rfl (rmk_ok (by omega) (by decide))) hW (by decide) rfl rfl rfl hl.1 rfl (Nat.le_of_ble_eq_true rfl) dX12_tellAll_133 ⟨Nat.le_of_ble_eq_true rfl, Nat.le_of_ble_eq_true rfl⟩) hL (fun u_136 H locs k_137 hW hL => ?_)
                  obtain ⟨iu_136, fu_136, gu_136, xu_136⟩ := k_137
                  have F_138 := F_111.trans (fu_136.to (pl_sub (by decide)))
                  have F_139 := F_112.trans (fu_136.to (pl_sub (by decide)))
                  have F_140 := F_113.trans (fu_136.to (pl_sub (by decide)))
                  have g_141 : FF S u_136 (fl [20, 21, 24, 25, 32, 33, 34, 35, 36, 40, 42, 43]) := FF.trans g_114 (FF.to gu_136 (fl_sub (by decide)))
                  have g_142 : FF S u_136 (fl [20, 21, 24, 25, 32, 33, 34, 35, 36, 42]) := FF.trans g_115 (FF.to gu_136 (fl_sub (by decide)))
                  have g_143 : FF ((uF (uF (uF (uF (uF (uF (uF (uF S 231 24 0) 231 25 0) 231 32 0) 231 33 0) 231 34 0) 231 42 0) 231 35 0) 231 36 0)) u_136 (fl [20, 21, 24, 25, 32, 33, 34, 35]) := FF.trans g_116 (FF.to gu_136 (fl_sub (by decide)))
                  refine lv_goto (tgt := 144) hx hb dX12_tellAll_136 (by decide) ?_
                  refine lv_goto (tgt := 40) hx hb dX12_tellAll_144 (by decide) ?_
                  have q_144 : (-2147483648) ≤ u_136.1 231 20 ∧ u_136.1 231 20 ≤ 2147483647 := iu_136.fi 20
                  have q_145 : (-2147483648) ≤ u_136.1 231 24 ∧ u_136.1 231 24 ≤ 2147483647 := iu_136.fi 24
                  exact ih_40 u_136  _ _ _ (by rw [if_pos (show S40.1 231 20 = 0 by omega)] at hm40; split; (rename_i hh; have cq := xu_136.2 hh; obtain ⟨_, _, _, _, cq⟩ := cq; omega); omega) iu_136 F_138 F_139 F_140 g_141 g_142 g_143 (fun h => by obtain ⟨M2, e2, m2, p2, c2⟩ := xu_136.2 h; exact ⟨M2, (by rw [eM, eMw_s hkr.z hM.1.1.2.1 (by omega) ((eSt_7 kc).trans e2), c2]), m2, p2, (by omega), (by rw [c2]; exact hG2), (hWy.of (show u_136.1 231 35 = S40.1 231 35 from (gu_136 35 rfl).trans (uF_ne (fun h => absurd h.2 (by decide)))) (show u_136.2.1 254 = S40.2.1 254 from funext fun j => ((fu_136 254 rfl).2.1 j).trans (uF_a)) (eDp_w e2).1), (by obtain ⟨X9, hX9, haw⟩ := hXh; rw [c2]; exact XHr.go hkr.z hM.1.1.2.1 (by omega) ((eSt_7 kc).trans e2) (aSt_7 kc) haw (XAr.of (S := S40) (u := u_136) hX9 ((gu_136 35 rfl).trans (uF_ne (fun h => absurd h.2 (by decide)))) ((gu_136 36 rfl).trans (uF_ne (fun h => absurd h.2 (by decide)))) (funext fun j => ((fu_136 255 rfl).2.2.1 j).trans (uF_l)) (funext fun j => ((fu_136 256 rfl).2.2.1 j).trans (uF_l)) (funext fun j => ((fu_136 254 rfl).2.1 j).trans (uF_a))))⟩) (fun h => by rw [eM]; exact eMw_n (by omega) ((eSt_7 kc).trans (xu_136.1 h))) hW hL (lv_sub hl [2] rfl)
              · have kc : k (S40.1 231 24) = 6 := (by rw [← hkk]; exact (wd_m (w := 2) (by decide) K V T (S40.1 231 24)).1 (by omega) (by omega) ⟨by omega, by omega⟩)
                obtain ⟨qd, hk2, hq15, hgd, hG2⟩ := hG.d hkr.z (by omega)
                have hgs : gSt k (S40.1 231 24) qd := (by rcases hgd with z | z | z; (exact z.2); (exfalso; have z1 := z.1; omega); (exfalso; have z1 := z.1; have z2 := z.2.1; omega))
                have hqT : qd ≤ T - 1 := (by have y := hkr.lt hq15 (by decide); have z : qd - 1 ≠ T - 1 := (fun z => by rw [z] at hq15; have x : k (T - 1) ≤ 1 := hkT; omega); omega)
                have hq7 := hgs.2.2
                refine lv_aload_n hx hb dX12_tellAll_118 rfl (lv_at hl 2 rfl) ?_
                refine lv_iload_n hx hb dX12_tellAll_119 rfl (lv_at hl 0 rfl) ?_
                have lk_146 : (uF S40 231 24 ((S40.1 231 24) + 2)).1 231 20 = S40.1 231 20 := uF_ne (fun h => absurd h.2 (by decide))
                have lk_147 : (uF S40 231 24 ((S40.1 231 24) + 2)).1 231 24 = (S40.1 231 24) + 2 := uF_on
                have kr_148 : KRr (uF S40 231 24 ((S40.1 231 24) + 2)) k v T := hkr.of (funext fun j => (uF_a).trans (((hL40_ 243 rfl).2.1 j).trans ((uF_a).trans ((uF_a).trans ((uF_a).trans ((uF_a).trans ((uF_a).trans ((uF_a).trans ((uF_a).trans (uF_a)))))))))) (funext fun j => (uF_a).trans (((hL40_ 244 rfl).2.1 j).trans ((uF_a).trans ((uF_a).trans ((uF_a).trans ((uF_a).trans ((uF_a).trans ((uF_a).trans ((uF_a).trans (uF_a)))))))))) (funext fun j => (uF_a).trans (((hL40_ 245 rfl).2.1 j).trans ((uF_a).trans ((uF_a).trans ((uF_a).trans ((uF_a).trans ((uF_a).trans ((uF_a).trans ((uF_a).trans (uF_a)))))))))) (funext fun j => (uF_a).trans (((hL40_ 246 rfl).2.1 j).trans ((uF_a).trans ((uF_a).trans ((uF_a).trans ((uF_a).trans ((uF_a).trans ((uF_a).trans ((uF_a).trans (uF_a)))))))))) (funext fun j => (uF_a).trans (((hL40_ 247 rfl).2.1 j).trans ((uF_a).trans ((uF_a).trans ((uF_a).trans ((uF_a).trans ((uF_a).trans ((uF_a).trans ((uF_a).trans (uF_a))))))))))
                refine sBv (sV (As := [.int (iv ((S40.1 231 24) + 1))]) (rest := []) (k := 231) Cx (e_X12_tellSet l G (uF S40 231 24 ((S40.1 231 24) + 2)) (tk := (S40.1 231 24) + 1) (pz := (S40.1 231 24) + 2) (pp := S40.1 231 24) i_117 kr_148 (hM.of (hM.1.of (uF_ne (fun h => absurd h.2 (by decide))) (funext fun j => uF_a) (funext fun j => uF_a) (funext fun j => uF_a) (funext fun j => uF_a) (funext fun j => uF_a) (funext fun j => uF_a)) (uF_ne (fun h => absurd h.2 (by decide))) (uF_ne (fun h => absurd h.2 (by decide))) (uF_ne (fun h => absurd h.2 (by decide))) (uF_ne (fun h => absurd h.2 (by decide))) (uF_ne (fun h => absurd h.2 (by decide)))) hTV (by omega) (by omega) (hPb.of (uF_ne (fun h => absurd h.2 (by decide))) (funext fun j => uF_a)) (by omega) (by omega) hk2 ⟨hgs.1, hgs.2.1⟩ (by omega)) (c_X12_385 Cx rfl rfl (rmk_ok (by omega) (by decide))) hW (by decide) rfl rfl rfl hl.1 rfl (Nat.le_of_ble_eq_true rfl) dX12_tellAll_120 ⟨Nat.le_of_ble_eq_true rfl, Nat.le_of_ble_eq_true rfl⟩) hL (fun u_149 H locs k_150 hW hL => ?_)
                obtain ⟨iu_149, fu_149, gu_149, xu_149⟩ := k_150
                have F_151 := F_111.trans (fu_149.to (pl_sub (by decide)))
                have F_152 := F_112.trans (fu_149.to (pl_sub (by decide)))
                have F_153 := F_113.trans (fu_149.to (pl_sub (by decide)))
                have g_154 : FF S u_149 (fl [20, 21, 24, 25, 32, 33, 34, 35, 36, 40, 42, 43]) := FF.trans g_114 (FF.to gu_149 (fl_sub (by decide)))
                have g_155 : FF S u_149 (fl [20, 21, 24, 25, 32, 33, 34, 35, 36, 42]) := FF.trans g_115 (FF.to gu_149 (fl_sub (by decide)))
                have g_156 : FF ((uF (uF (uF (uF (uF (uF (uF (uF S 231 24 0) 231 25 0) 231 32 0) 231 33 0) 231 34 0) 231 42 0) 231 35 0) 231 36 0)) u_149 (fl [20, 21, 24, 25, 32, 33, 34, 35]) := FF.trans g_116 (FF.to gu_149 (fl_sub (by decide)))
                refine lv_goto (tgt := 144) hx hb dX12_tellAll_123 (by decide) ?_
                refine lv_goto (tgt := 40) hx hb dX12_tellAll_144 (by decide) ?_
                have q_157 : (-2147483648) ≤ u_149.1 231 20 ∧ u_149.1 231 20 ≤ 2147483647 := iu_149.fi 20
                have q_158 : (-2147483648) ≤ u_149.1 231 24 ∧ u_149.1 231 24 ≤ 2147483647 := iu_149.fi 24
                exact ih_40 u_149  _ _ _ (by rw [if_pos (show S40.1 231 20 = 0 by omega)] at hm40; split; (rename_i hh; have cq := xu_149.2 hh; obtain ⟨_, _, _, _, cq⟩ := cq; omega); omega) iu_149 F_151 F_152 F_153 g_154 g_155 g_156 (fun h => by obtain ⟨M2, e2, m2, p2, c2⟩ := xu_149.2 h; exact ⟨M2, (by rw [eM, eMw_s hkr.z hM.1.1.2.1 (by omega) ((eSt_6 kc).trans e2), (show u_149.1 231 24 = S40.1 231 24 + 7 from c2)]), m2, p2, (by omega), (by rw [c2, ← hq7]; exact hG2), (hWy.of (show u_149.1 231 35 = S40.1 231 35 from (gu_149 35 rfl).trans (uF_ne (fun h => absurd h.2 (by decide)))) (show u_149.2.1 254 = S40.2.1 254 from funext fun j => ((fu_149 254 rfl).2.1 j).trans (uF_a)) (eDs_w e2).1), (by obtain ⟨X9, hX9, haw⟩ := hXh; rw [(show u_149.1 231 24 = S40.1 231 24 + 7 from c2)]; exact XHr.go hkr.z hM.1.1.2.1 (by omega) ((eSt_6 kc).trans e2) (aSt_6 kc) haw (XAr.of (S := S40) (u := u_149) hX9 ((gu_149 35 rfl).trans (uF_ne (fun h => absurd h.2 (by decide)))) ((gu_149 36 rfl).trans (uF_ne (fun h => absurd h.2 (by decide)))) (funext fun j => ((fu_149 255 rfl).2.2.1 j).trans (uF_l)) (funext fun j => ((fu_149 256 rfl).2.2.1 j).trans (uF_l)) (funext fun j => ((fu_149 254 rfl).2.1 j).trans (uF_a))))⟩) (fun h => by rw [eM]; exact eMw_n (by omega) ((eSt_6 kc).trans (xu_149.1 h))) hW hL (lv_sub hl [2] rfl)
  have q_159 : (-2147483648) ≤ S.1 231 20 ∧ S.1 231 20 ≤ 2147483647 := hI.fi 20
  have lk_160 : (uF (uF (uF (uF (uF (uF (uF (uF S 231 24 0) 231 25 0) 231 32 0) 231 33 0) 231 34 0) 231 42 0) 231 35 0) 231 36 0).1 231 20 = S.1 231 20 := (uF_ne (fun h => absurd h.2 (by decide))).trans ((uF_ne (fun h => absurd h.2 (by decide))).trans ((uF_ne (fun h => absurd h.2 (by decide))).trans ((uF_ne (fun h => absurd h.2 (by decide))).trans ((uF_ne (fun h => absurd h.2 (by decide))).trans ((uF_ne (fun h => absurd h.2 (by decide))).trans ((uF_ne (fun h => absurd h.2 (by decide))).trans (uF_ne (fun h => absurd h.2 (by decide)))))))))
  have lk_161 : (uF (uF (uF (uF (uF (uF (uF (uF S 231 24 0) 231 25 0) 231 32 0) 231 33 0) 231 34 0) 231 42 0) 231 35 0) 231 36 0).1 231 24 = 0 := (uF_ne (fun h => absurd h.2 (by decide))).trans ((uF_ne (fun h => absurd h.2 (by decide))).trans ((uF_ne (fun h => absurd h.2 (by decide))).trans ((uF_ne (fun h => absurd h.2 (by decide))).trans ((uF_ne (fun h => absurd h.2 (by decide))).trans ((uF_ne (fun h => absurd h.2 (by decide))).trans ((uF_ne (fun h => absurd h.2 (by decide))).trans (uF_on)))))))
  exact loop_40 (_ + 1) (uF (uF (uF (uF (uF (uF (uF (uF S 231 24 0) 231 25 0) 231 32 0) 231 33 0) 231 34 0) 231 42 0) 231 35 0) 231 36 0)  _ _ _ (Nat.lt_succ_self _) i_100 F_96 F_97 Fr.rf g_98 g_99 FF.rf (fun _ => ⟨M00, (by rw [(show (uF (uF (uF (uF (uF (uF (uF (uF S 231 24 0) 231 25 0) 231 32 0) 231 33 0) 231 34 0) 231 42 0) 231 35 0) 231 36 0).1 231 24 = 0 from (uF_ne (fun h => absurd h.2 (by decide))).trans ((uF_ne (fun h => absurd h.2 (by decide))).trans ((uF_ne (fun h => absurd h.2 (by decide))).trans ((uF_ne (fun h => absurd h.2 (by decide))).trans ((uF_ne (fun h => absurd h.2 (by decide))).trans ((uF_ne (fun h => absurd h.2 (by decide))).trans ((uF_ne (fun h => absurd h.2 (by decide))).trans (uF_on))))))))]), MRr.zero (show (uF (uF (uF (uF (uF (uF (uF (uF S 231 24 0) 231 25 0) 231 32 0) 231 33 0) 231 34 0) 231 42 0) 231 35 0) 231 36 0).1 231 25 = 0 from (uF_ne (fun h => absurd h.2 (by decide))).trans ((uF_ne (fun h => absurd h.2 (by decide))).trans ((uF_ne (fun h => absurd h.2 (by decide))).trans ((uF_ne (fun h => absurd h.2 (by decide))).trans ((uF_ne (fun h => absurd h.2 (by decide))).trans ((uF_ne (fun h => absurd h.2 (by decide))).trans (uF_on))))))) (show (uF (uF (uF (uF (uF (uF (uF (uF S 231 24 0) 231 25 0) 231 32 0) 231 33 0) 231 34 0) 231 42 0) 231 35 0) 231 36 0).1 231 33 = 0 from (uF_ne (fun h => absurd h.2 (by decide))).trans ((uF_ne (fun h => absurd h.2 (by decide))).trans ((uF_ne (fun h => absurd h.2 (by decide))).trans ((uF_ne (fun h => absurd h.2 (by decide))).trans (uF_on))))) (show (uF (uF (uF (uF (uF (uF (uF (uF S 231 24 0) 231 25 0) 231 32 0) 231 33 0) 231 34 0) 231 42 0) 231 35 0) 231 36 0).1 231 34 = 0 from (uF_ne (fun h => absurd h.2 (by decide))).trans ((uF_ne (fun h => absurd h.2 (by decide))).trans ((uF_ne (fun h => absurd h.2 (by decide))).trans (uF_on)))) (show (uF (uF (uF (uF (uF (uF (uF (uF S 231 24 0) 231 25 0) 231 32 0) 231 33 0) 231 34 0) 231 42 0) 231 35 0) 231 36 0).1 231 35 = 0 from (uF_ne (fun h => absurd h.2 (by decide))).trans (uF_on)) (show (uF (uF (uF (uF (uF (uF (uF (uF S 231 24 0) 231 25 0) 231 32 0) 231 33 0) 231 34 0) 231 42 0) 231 35 0) 231 36 0).1 231 36 = 0 from uF_on) (show (uF (uF (uF (uF (uF (uF (uF (uF S 231 24 0) 231 25 0) 231 32 0) 231 33 0) 231 34 0) 231 42 0) 231 35 0) 231 36 0).1 231 42 = 0 from (uF_ne (fun h => absurd h.2 (by decide))).trans ((uF_ne (fun h => absurd h.2 (by decide))).trans (uF_on))), PBr.zero (show (uF (uF (uF (uF (uF (uF (uF (uF S 231 24 0) 231 25 0) 231 32 0) 231 33 0) 231 34 0) 231 42 0) 231 35 0) 231 36 0).1 231 32 = 0 from (uF_ne (fun h => absurd h.2 (by decide))).trans ((uF_ne (fun h => absurd h.2 (by decide))).trans ((uF_ne (fun h => absurd h.2 (by decide))).trans ((uF_ne (fun h => absurd h.2 (by decide))).trans ((uF_ne (fun h => absurd h.2 (by decide))).trans (uF_on)))))), (by have y24 := (show (uF (uF (uF (uF (uF (uF (uF (uF S 231 24 0) 231 25 0) 231 32 0) 231 33 0) 231 34 0) 231 42 0) 231 35 0) 231 36 0).1 231 24 = 0 from (uF_ne (fun h => absurd h.2 (by decide))).trans ((uF_ne (fun h => absurd h.2 (by decide))).trans ((uF_ne (fun h => absurd h.2 (by decide))).trans ((uF_ne (fun h => absurd h.2 (by decide))).trans ((uF_ne (fun h => absurd h.2 (by decide))).trans ((uF_ne (fun h => absurd h.2 (by decide))).trans ((uF_ne (fun h => absurd h.2 (by decide))).trans (uF_on)))))))); omega), (by rw [(show (uF (uF (uF (uF (uF (uF (uF (uF S 231 24 0) 231 25 0) 231 32 0) 231 33 0) 231 34 0) 231 42 0) 231 35 0) 231 36 0).1 231 24 = 0 from (uF_ne (fun h => absurd h.2 (by decide))).trans ((uF_ne (fun h => absurd h.2 (by decide))).trans ((uF_ne (fun h => absurd h.2 (by decide))).trans ((uF_ne (fun h => absurd h.2 (by decide))).trans ((uF_ne (fun h => absurd h.2 (by decide))).trans ((uF_ne (fun h => absurd h.2 (by decide))).trans ((uF_ne (fun h => absurd h.2 (by decide))).trans (uF_on))))))))]; exact hg1), (by show wsm _ _ = (0 : Int); rw [(show (uF (uF (uF (uF (uF (uF (uF (uF S 231 24 0) 231 25 0) 231 32 0) 231 33 0) 231 34 0) 231 42 0) 231 35 0) 231 36 0).1 231 35 = 0 from (uF_ne (fun h => absurd h.2 (by decide))).trans (uF_on))]; rfl), (by rw [(show (uF (uF (uF (uF (uF (uF (uF (uF S 231 24 0) 231 25 0) 231 32 0) 231 33 0) 231 34 0) 231 42 0) 231 35 0) 231 36 0).1 231 24 = 0 from (uF_ne (fun h => absurd h.2 (by decide))).trans ((uF_ne (fun h => absurd h.2 (by decide))).trans ((uF_ne (fun h => absurd h.2 (by decide))).trans ((uF_ne (fun h => absurd h.2 (by decide))).trans ((uF_ne (fun h => absurd h.2 (by decide))).trans ((uF_ne (fun h => absurd h.2 (by decide))).trans ((uF_ne (fun h => absurd h.2 (by decide))).trans (uF_on))))))))]; exact XHr.zero (show (uF (uF (uF (uF (uF (uF (uF (uF S 231 24 0) 231 25 0) 231 32 0) 231 33 0) 231 34 0) 231 42 0) 231 35 0) 231 36 0).1 231 36 = 0 from uF_on) (show (uF (uF (uF (uF (uF (uF (uF (uF S 231 24 0) 231 25 0) 231 32 0) 231 33 0) 231 34 0) 231 42 0) 231 35 0) 231 36 0).1 231 35 = 0 from (uF_ne (fun h => absurd h.2 (by decide))).trans (uF_on)))⟩) (fun h => absurd (show (uF (uF (uF (uF (uF (uF (uF (uF S 231 24 0) 231 25 0) 231 32 0) 231 33 0) 231 34 0) 231 42 0) 231 35 0) 231 36 0).1 231 20 = 0 by have e9 := (show (uF (uF (uF (uF (uF (uF (uF (uF S 231 24 0) 231 25 0) 231 32 0) 231 33 0) 231 34 0) 231 42 0) 231 35 0) 231 36 0).1 231 20 = S.1 231 20 from (uF_ne (fun h => absurd h.2 (by decide))).trans ((uF_ne (fun h => absurd h.2 (by decide))).trans ((uF_ne (fun h => absurd h.2 (by decide))).trans ((uF_ne (fun h => absurd h.2 (by decide))).trans ((uF_ne (fun h => absurd h.2 (by decide))).trans ((uF_ne (fun h => absurd h.2 (by decide))).trans ((uF_ne (fun h => absurd h.2 (by decide))).trans (uF_ne (fun h => absurd h.2 (by decide)))))))))); omega) h) hW hL (lv_sub hl [0] rfl)
