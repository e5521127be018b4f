set_option maxRecDepth 100000 in
set_option maxHeartbeats 4000000 in
theorem e_X12_named (l : Launch) (G : sG) (S : sS) {N : sN} {k v : Int → Int} {T pz q ix : Int} (hI : dX G S) (hkr : Hd (KRr S k v T)) (hNr : Hd (NRr N k v S)) (hK_ : Hd (NK N)) (hTV : Hd (TVn k v)) (hf0 : S.1 231 20 = 0) (hc : S.1 231 24 = pz) (hk2 : Hd (k pz = 2)) (hgx : Hd ((k (pz + 1) = 17 ∧ ogXs k (pz + 1 + 1) = some q) ∨ (k (pz + 1) ≠ 17 ∧ q = pz + 1))) (hpq : 0 ≤ pz ∧ pz + 1 ≤ q ∧ q ≤ T - 1) (hlk : 0 ≤ S.1 231 42 ∧ S.1 231 42 ≤ 20000) (hix : 0 ≤ ix ∧ ix + 12 < 1820) : Met l yX12_named (.code yX12_named cX12_named 10 none :: tb) (rmk 3 0 0) (sPc G 294 S [.ref (G.2.2.1 + 231), .int (iv ix)]) (sQv G 294 (fun u => dX G u ∧ Fr S u (pl [231, 257, 258]) ∧ FF S u (fl [20, 21, 24, 43]) ∧ (EOr S u N k v q (eN k v N (S.1 231 42) pz) ix ∧ (0 ≤ u.1 231 24 ∧ u.1 231 24 ≤ q)))) 0 0 (sF G) := by
  refine sEnter (by decide) (Nat.le_of_ble_eq_true rfl) ?_
  intro p e s m args below meth c Cx hr hlk hnm hW ls hl
  have Cx : sC G p m c cX12_named 10 s args RX12 := Cx
  obtain ⟨hx, hb, hml, hown, hts⟩ := id Cx.1
  have hL : sL G [] := sL_nil
  have hl : lv_has ls 10 [(0, .ref (G.2.2.1 + 231)), (1, .int (iv ix))] := hl
  have hW0 := hW
  obtain ⟨K, hK⟩ : ∃ z, S.2.1 244 = z := ⟨_, rfl⟩
  obtain ⟨V, hV⟩ : ∃ z, S.2.1 247 = z := ⟨_, rfl⟩
  obtain ⟨Fm, hFm⟩ : ∃ z, S.2.1 245 = z := ⟨_, rfl⟩
  obtain ⟨Wd, hWd⟩ : ∃ z, S.2.1 246 = z := ⟨_, rfl⟩
  have hkk : kr K V T = k := (by rw [← hK, ← hV]; exact hkr.1)
  have hTb := hkr.2.1
  have hN1 := hNr.1
  have htk2 := hkr.lt hk2 (by decide)
  refine lv_aload_n hx hb dX12_named_0 rfl (lv_at hl 0 rfl) ?_
  have q_1 : (-2147483648) ≤ S.1 231 24 ∧ S.1 231 24 ≤ 2147483647 := hI.fi 24
  refine g_X12_315 Cx hW (k := 231) (by decide) rfl (v := S.1 231 24) rfl dX12_named_1 ?_
  refine lv_istore_n (lv' := [(2, .int (iv (S.1 231 24))), (0, .ref (G.2.2.1 + 231)), (1, .int (iv ix))]) hx hb dX12_named_4 rfl hl (by decide) rfl (fun ls hl => ?_)
  refine lv_aload_n hx hb dX12_named_5 rfl (lv_at hl 1 rfl) ?_
  refine lv_iload_n hx hb dX12_named_6 rfl (lv_at hl 0 rfl) ?_
  have q_2 : (-2147483648) ≤ S.1 231 25 ∧ S.1 231 25 ≤ 2147483647 := hI.fi 25
  refine sBi (sV (As := [.int (iv (S.1 231 24))]) (rest := []) (k := 231) Cx (e_X12_find l G S (tk := S.1 231 24) hI hkr hNr hK_ (by rw [hc]; exact hk2)) (c_X12_361 Cx rfl rfl (rmk_ok (by omega) (by decide))) hW (by decide) rfl rfl rfl hl.1 rfl (Nat.le_of_ble_eq_true rfl) dX12_named_7 ⟨Nat.le_of_ble_eq_true rfl, Nat.le_of_ble_eq_true rfl⟩) hL (fun j u_3 H locs k_4 hW hL => ?_)
  obtain ⟨eu_3, xu_3⟩ := k_4
  rw [eu_3] at hW
  have fe : eFind N (v pz) = j := (by rw [← hc]; exact xu_3.2.symm)
  have fq := xu_3.1
  refine lv_istore_n (lv' := [(3, .int (iv j)), (2, .int (iv (S.1 231 24))), (0, .ref (G.2.2.1 + 231)), (1, .int (iv ix))]) hx hb dX12_named_10 rfl hl (by decide) rfl (fun ls hl => ?_)
  refine lv_aload_n hx hb dX12_named_11 rfl (lv_at hl 2 rfl) ?_
  refine lv_dup hx hb dX12_named_12 rfl ?_
  refine g_X12_315 Cx hW (k := 231) (by decide) rfl (v := S.1 231 24) rfl dX12_named_13 ?_
  refine lv_iconst (v := iv 1) hx hb dX12_named_16 (by decide) ?_
  refine r_iadd hx hb dX12_named_17 ?_
  refine p_X12_315 Cx hW hL (k := 231) (by decide) rfl dX12_named_18 (fun H locs hW hL => ?_)
  have F_5 : Fr S (uF S 231 24 ((S.1 231 24) + 1)) (pl [231, 257, 258]) := (Fr.rf : Fr S S (pl [231, 257, 258])).F rfl
  have g_6 : FF S (uF S 231 24 ((S.1 231 24) + 1)) (fl [20, 21, 24, 43]) := FF.F FF.rf rfl
  have i_7 : dX G (uF S 231 24 ((S.1 231 24) + 1)) := hI.F (i := 24) (show (-2147483648) ≤ (S.1 231 24) + 1 ∧ (S.1 231 24) + 1 ≤ 2147483647 from ⟨by omega, by omega⟩)
  refine lv_aload_n hx hb dX12_named_21 rfl (lv_at hl 2 rfl) ?_
  refine lv_bipush (v := iv 91) hx hb dX12_named_22 (by decide) ?_
  have lk_8 : (uF S 231 24 ((S.1 231 24) + 1)).1 231 24 = (S.1 231 24) + 1 := uF_on
  refine sBi (sV (As := [.int (iv 91)]) (rest := []) (k := 231) Cx (s_X12_isSign l G (uF S 231 24 ((S.1 231 24) + 1)) (sv := 91) (K := K) (V := V) (pz := (pz) + 1) i_7 (by omega) ((funext fun j => uF_a : (uF S 231 24 ((S.1 231 24) + 1)).2.1 244 = S.2.1 244).trans hK) ((funext fun j => uF_a : (uF S 231 24 ((S.1 231 24) + 1)).2.1 247 = S.2.1 247).trans hV) (by omega) (by omega)) (c_X12_318 Cx rfl rfl (rmk_ok (by omega) (by decide))) hW (by decide) rfl rfl rfl hl.1 rfl (Nat.le_of_ble_eq_true rfl) dX12_named_24 ⟨Nat.le_of_ble_eq_true rfl, Nat.le_of_ble_eq_true rfl⟩) hL (fun r_11 u_9 H locs k_10 hW hL => ?_)
  obtain ⟨eu_9, xu_9⟩ := k_10
  rw [eu_9] at hW
  have tu_9a : Hd (r_11 = 1 → k ((pz) + 1) = 17) := (fun h => by rw [← hkk]; exact (osg_91 K V T _).1 (by omega) (by omega) (xu_9.2.1 h))
  have tu_9b : Hd (r_11 ≠ 1 → k ((pz) + 1) ≠ 17) := (fun h z => xu_9.2.2 h ((osg_91 K V T _).2 (by rw [hkk]; exact z)))
  refine lv_istore (lv' := [(4, .int (iv r_11)), (3, .int (iv j)), (2, .int (iv (S.1 231 24))), (0, .ref (G.2.2.1 + 231)), (1, .int (iv ix))]) hx hb dX12_named_27 hl (by decide) rfl (fun ls hl => ?_)
  refine lv_iload_n hx hb dX12_named_29 rfl (lv_at hl 1 rfl) ?_
  refine lv_iconst (v := iv (-1)) hx hb dX12_named_30 (by decide) ?_
  refine r_icmp_ne (tgt := 38) hx hb ⟨(by omega), (by omega)⟩ ⟨(by omega), (by omega)⟩ dX12_named_31 (by decide) (fun c_12 => ?_) (fun c_12 => ?_)
  · have n2 := hNr.2.2 j (by omega) (by omega)
    have csj : Hd _ := cs_i n2.1
    have hj0 : 0 ≤ j := (by omega)
    refine lv_aload_n hx hb dX12_named_38 rfl (lv_at hl 3 rfl) ?_
    refine g_X12_62 Cx hW (k := 231) (by decide) rfl (v := .ref (G.2.2.1 + 249)) (rd_27 i_7) dX12_named_39 ?_
    refine lv_iload_n hx hb dX12_named_42 rfl (lv_at hl 1 rfl) ?_
    refine rIald Cx hW (k := 249) (by decide) rfl (by decide) (by omega) (by omega) dX12_named_43 ?_
    have q_13 : (-2147483648) ≤ S.2.1 249 j ∧ S.2.1 249 j ≤ 2147483647 := hI.ai 249 j
    refine r_i (b := S.2.1 249 j) uF_a ?_
    refine lv_istore (lv' := [(5, .int (iv (S.2.1 249 j))), (4, .int (iv r_11)), (3, .int (iv j)), (2, .int (iv (S.1 231 24))), (0, .ref (G.2.2.1 + 231)), (1, .int (iv ix))]) hx hb dX12_named_44 hl (by decide) rfl (fun ls hl => ?_)
    have join_167 : ∀ (S167 : sS)  (H : Heap) (locs : List Loc) (ls : Array Slot), (dX G S167) → (Fr S S167 (pl [231, 257, 258])) → (Fr ((uF S 231 24 ((S.1 231 24) + 1))) S167 (pl [231, 258])) → (FF S S167 (fl [20, 21, 24, 43])) → (FF ((uF S 231 24 ((S.1 231 24) + 1))) S167 (fl [20, 21, 24, 43])) → (Hd (N.2.2.1 j 0 = 7 ∨ N.2.2.1 j 0 = 8)) → (S167.1 231 20 = 0 ∧ S167.1 231 24 = q ∧ 0 ≤ S167.1 231 43 ∧ S167.1 231 43 ≤ 2) → (Hd (eN k v N (S.1 231 42) pz = eN3 N j (S167.1 231 43) (S167.2.1 258 0) (S167.2.1 258 1) q (S.1 231 42))) → sW G 294 S167 H → sL G locs → lv_has ls 10 [(5, .int (iv (S.2.1 249 j))), (4, .int (iv r_11)), (3, .int (iv j)), (2, .int (iv (S.1 231 24))), (0, .ref (G.2.2.1 + 231)), (1, .int (iv ix))] → W p l e (rmk 3 0 0) s m args below meth c H locs 0 0 (MQ below (sQv G 294 (fun u => dX G u ∧ Fr S u (pl [231, 257, 258]) ∧ FF S u (fl [20, 21, 24, 43]) ∧ (EOr S u N k v q (eN k v N (S.1 231 42) pz) ix ∧ (0 ≤ u.1 231 24 ∧ u.1 231 24 ≤ q)))) args s 0 0 (sF G)) (F0 m 167 ls []) := by
      intro S167  H locs ls hI167 hFm167 hL167_ hGm167 gL167_ h7 h167 hEN hW hL hl
      have n34 := n2.2.2.2.1 h7
      have w34 := (hK_.2 j (by omega) (by omega)).2.2.2.1 h7
      have s3v := (hK_.2 j (by omega) (by omega)).2.2.1 h7 3 (.inl rfl)
      have s4v := (hK_.2 j (by omega) (by omega)).2.2.1 h7 4 (.inr rfl)
      have s3b : -1 ≤ N.2.2.1 j 3 ∧ N.2.2.1 j 3 < N.1 := (by rcases s3v with z | z <;> omega)
      have s4b : -1 ≤ N.2.2.1 j 4 ∧ N.2.2.1 j 4 < N.1 := (by rcases s4v with z | z <;> omega)
      have s3v : Hd _ := s3v; have s4v : Hd _ := s4v; have w34 : Hd _ := w34
      have join_196 : ∀ (dm : Int) (H : Heap) (locs : List Loc) (ls : Array Slot), (0 ≤ dm ∧ dm ≤ 2) → (Hd (wnt N j dm)) → sW G 294 S167 H → sL G locs → lv_has ls 10 [(5, .int (iv (S.2.1 249 j))), (4, .int (iv r_11)), (3, .int (iv j)), (2, .int (iv (S.1 231 24))), (0, .ref (G.2.2.1 + 231)), (1, .int (iv ix))] → W p l e (rmk 3 0 0) s m args below meth c H locs 0 0 (MQ below (sQv G 294 (fun u => dX G u ∧ Fr S u (pl [231, 257, 258]) ∧ FF S u (fl [20, 21, 24, 43]) ∧ (EOr S u N k v q (eN k v N (S.1 231 42) pz) ix ∧ (0 ≤ u.1 231 24 ∧ u.1 231 24 ≤ q)))) args s 0 0 (sF G)) (F0 m 196 ls [.int (iv dm)]) := by
        intro dm H locs ls hdm hwn hW hL hl
        refine lv_istore (lv' := [(6, .int (iv dm)), (5, .int (iv (S.2.1 249 j))), (4, .int (iv r_11)), (3, .int (iv j)), (2, .int (iv (S.1 231 24))), (0, .ref (G.2.2.1 + 231)), (1, .int (iv ix))]) hx hb dX12_named_196 hl (by decide) rfl (fun ls hl => ?_)
        have join_213 : ∀ (S213 : sS)  (H : Heap) (locs : List Loc) (ls : Array Slot), (dX G S213) → (Fr S S213 (pl [231, 257, 258])) → (Fr ((uF S 231 24 ((S.1 231 24) + 1))) S213 (pl [231, 258])) → (Fr S167 S213 (pl [231])) → (FF S S213 (fl [20, 21, 24, 43])) → (FF ((uF S 231 24 ((S.1 231 24) + 1))) S213 (fl [20, 21, 24, 43])) → (FF S167 S213 (fl [20, 21])) → (Hd (S213.1 231 20 = 0 → S167.1 231 43 = dm)) → (Hd (S213.1 231 20 ≠ 0 → eN k v N (S.1 231 42) pz = none)) → sW G 294 S213 H → sL G locs → lv_has ls 10 [(6, .int (iv dm)), (5, .int (iv (S.2.1 249 j))), (4, .int (iv r_11)), (3, .int (iv j)), (2, .int (iv (S.1 231 24))), (0, .ref (G.2.2.1 + 231)), (1, .int (iv ix))] → W p l e (rmk 3 0 0) s m args below meth c H locs 0 0 (MQ below (sQv G 294 (fun u => dX G u ∧ Fr S u (pl [231, 257, 258]) ∧ FF S u (fl [20, 21, 24, 43]) ∧ (EOr S u N k v q (eN k v N (S.1 231 42) pz) ix ∧ (0 ≤ u.1 231 24 ∧ u.1 231 24 ≤ q)))) args s 0 0 (sF G)) (F0 m 213 ls []) := by
          intro S213  H locs ls hI213 hFm213 hFL167213 hL213_ hGm213 hGL167213 gL213_ h213 h213n hW hL hl
          refine lv_iconst (v := iv 0) hx hb dX12_named_213 (by decide) ?_
          refine lv_istore (lv' := [(7, .int (iv 0)), (6, .int (iv dm)), (5, .int (iv (S.2.1 249 j))), (4, .int (iv r_11)), (3, .int (iv j)), (2, .int (iv (S.1 231 24))), (0, .ref (G.2.2.1 + 231)), (1, .int (iv ix))]) hx hb dX12_named_214 hl (by decide) rfl (fun ls hl => ?_)
          refine lv_iconst (v := iv 0) hx hb dX12_named_216 (by decide) ?_
          refine lv_istore (lv' := [(8, .int (iv 0)), (7, .int (iv 0)), (6, .int (iv dm)), (5, .int (iv (S.2.1 249 j))), (4, .int (iv r_11)), (3, .int (iv j)), (2, .int (iv (S.1 231 24))), (0, .ref (G.2.2.1 + 231)), (1, .int (iv ix))]) hx hb dX12_named_217 hl (by decide) rfl (fun ls hl => ?_)
          have loop_219 : ∀ (fuel : Nat) (S219 : sS) (i : Int) (plc : Int) (H : Heap) (locs : List Loc) (ls : Array Slot), (dm - i).toNat < fuel → (dX G S219) → (Fr S S219 (pl [231, 257, 258])) → (Fr ((uF S 231 24 ((S.1 231 24) + 1))) S219 (pl [231, 258])) → (Fr S167 S219 (pl [231])) → (Fr S213 S219 (pl [231])) → (FF S S219 (fl [20, 21, 24, 43])) → (FF ((uF S 231 24 ((S.1 231 24) + 1))) S219 (fl [20, 21, 24, 43])) → (FF S167 S219 (fl [20, 21])) → (FF S213 S219 (fl [20, 21])) → (0 ≤ i ∧ i ≤ dm) → (Hd (S219.1 231 20 = 0 → S167.1 231 43 = dm ∧ LP3 N j (S167.2.1 258 0) (S167.2.1 258 1) i plc)) → (Hd (S219.1 231 20 ≠ 0 → eN k v N (S.1 231 42) pz = none)) → sW G 294 S219 H → sL G locs → lv_has ls 10 [(8, .int (iv i)), (7, .int (iv plc)), (6, .int (iv dm)), (5, .int (iv (S.2.1 249 j))), (4, .int (iv r_11)), (3, .int (iv j)), (2, .int (iv (S.1 231 24))), (0, .ref (G.2.2.1 + 231)), (1, .int (iv ix))] → W p l e (rmk 3 0 0) s m args below meth c H locs 0 0 (MQ below (sQv G 294 (fun u => dX G u ∧ Fr S u (pl [231, 257, 258]) ∧ FF S u (fl [20, 21, 24, 43]) ∧ (EOr S u N k v q (eN k v N (S.1 231 42) pz) ix ∧ (0 ≤ u.1 231 24 ∧ u.1 231 24 ≤ q)))) args s 0 0 (sF G)) (F0 m 219 ls []) := by
            intro fuel
            induction fuel with
            | zero => intro S219 i plc H locs ls hmeas hI219 hFm219 hFL167219 hFL213219 hL219_ hGm219 hGL167219 hGL213219 gL219_ hi hpl hnn hW hL hl; exact absurd hmeas (Nat.not_lt_zero _)
            | succ fuel ih_219 =>
              intro S219 i plc H locs ls hmeas hI219 hFm219 hFL167219 hFL213219 hL219_ hGm219 hGL167219 hGL213219 gL219_ hi hpl hnn hW hL hl
              refine lv_iload hx hb dX12_named_219 (lv_at hl 0 rfl) ?_
              refine lv_iload hx hb dX12_named_221 (lv_at hl 2 rfl) ?_
              refine r_icmp_ge (tgt := 328) hx hb ⟨(by omega), (by omega)⟩ ⟨(by omega), (by omega)⟩ dX12_named_223 (by decide) (fun c_14 => ?_) (fun c_14 => ?_)
              · refine lv_aload_n hx hb dX12_named_328 rfl (lv_at hl 7 rfl) ?_
                have q_15 : (-2147483648) ≤ S219.1 231 20 ∧ S219.1 231 20 ≤ 2147483647 := hI219.fi 20
                refine g_X12_270 Cx hW (k := 231) (by decide) rfl (v := S219.1 231 20) rfl dX12_named_329 ?_
                refine r_if_eq (tgt := 336) hx hb ⟨(by omega), (by omega)⟩ dX12_named_332 (by decide) (fun c_16 => ?_) (fun c_16 => ?_)
                · have hp9 := hpl (by omega)
                  have hy3 := eN3_y (q := q) (lk := S.1 231 42) (a0 := (S167.2.1 258 0)) (a1 := (S167.2.1 258 1)) hwn (show LP3 N j (S167.2.1 258 0) (S167.2.1 258 1) dm plc from (by have z := hp9.2; rw [show i = dm by omega] at z; exact z))
                  have hy4 := hy3.2
                  refine lv_aload_n hx hb dX12_named_336 rfl (lv_at hl 7 rfl) ?_
                  refine lv_iload_n hx hb dX12_named_337 rfl (lv_at hl 8 rfl) ?_
                  refine lv_iload hx hb dX12_named_338 (lv_at hl 3 rfl) ?_
                  refine lv_iconst (v := iv 2) hx hb dX12_named_340 (by decide) ?_
                  refine r_icmp_ne (tgt := 362) hx hb ⟨(by omega), (by omega)⟩ ⟨(by omega), (by omega)⟩ dX12_named_341 (by decide) (fun c_17 => ?_) (fun c_17 => ?_)
                  · have n8 : N.2.2.1 j 0 = 8 := (by rcases h7 with z | z; (exact absurd (csj.2.1.mpr z) (by omega)); exact z)
                    have n88 := n2.2.2.2.2.1 n8; have nb8 := (hK_.2 j (by omega) (by omega)).2.2.2.2.2 n8; have so3 := csj.2.2.1.mpr n8
                    refine lv_lconst (v := jv 0) hx hb dX12_named_362 (by decide) ?_
                    refine sBv (sV (As := [.int (iv ix), .long (jv 0)]) (rest := []) (k := 231) Cx (e_X12_constant l G S219 (ix := ix) (cv := 0) hI219 (by omega) (by omega)) (c_X12_431 Cx rfl rfl (rmk_ok (by omega) (by decide))) hW (by decide) rfl rfl rfl hl.1 rfl (Nat.le_of_ble_eq_true rfl) dX12_named_363 ⟨Nat.le_of_ble_eq_true rfl, Nat.le_of_ble_eq_true rfl⟩) hL (fun u_18 H locs k_19 hW hL => ?_)
                    obtain ⟨iu_18, fu_18, gu_18, xu_18⟩ := k_19
                    have F_20 := hFm219.trans (fu_18.to (pl_sub (by decide)))
                    have g_21 : FF S u_18 (fl [20, 21, 24, 43]) := FF.trans hGm219 (FF.to gu_18 (fl_sub (by decide)))
                    have g_22 : FF ((uF S 231 24 ((S.1 231 24) + 1))) u_18 (fl [20, 21, 24, 43]) := FF.trans hGL167219 (FF.to gu_18 (fl_sub (by decide)))
                    have g_23 : FF S167 u_18 (fl [20, 21]) := FF.trans hGL213219 (FF.to gu_18 (fl_sub (by decide)))
                    have g_24 : FF S213 u_18 (fl [20, 21]) := FF.trans gL219_ (FF.to gu_18 (fl_sub (by decide)))
                    refine lv_iload hx hb dX12_named_366 (lv_at hl 3 rfl) ?_
                    refine lv_iconst (v := iv 3) hx hb dX12_named_368 (by decide) ?_
                    refine r_icmp_ne (tgt := 389) hx hb ⟨(by omega), (by omega)⟩ ⟨(by omega), (by omega)⟩ dX12_named_369 (by decide) (fun c => absurd (by omega) c) (fun _ => ?_)
                    refine lv_aload_n hx hb dX12_named_372 rfl (lv_at hl 7 rfl) ?_
                    refine g_X12_88 Cx hW (k := 231) (by decide) rfl (v := .ref (G.2.2.1 + 257)) (rd_41 iu_18) dX12_named_373 ?_
                    refine lv_iload_n hx hb dX12_named_376 rfl (lv_at hl 8 rfl) ?_
                    refine lv_aload_n hx hb dX12_named_377 rfl (lv_at hl 7 rfl) ?_
                    refine g_X12_71 Cx hW (k := 231) (by decide) rfl (v := .ref (G.2.2.1 + 252)) (rd_30 iu_18) dX12_named_378 ?_
                    refine lv_iload_n hx hb dX12_named_381 rfl (lv_at hl 5 rfl) ?_
                    refine rIald Cx hW (k := 252) (by decide) rfl (by decide) (by omega) (by omega) dX12_named_382 ?_
                    have q_25 : (-2147483648) ≤ S.2.1 252 j ∧ S.2.1 252 j ≤ 2147483647 := hI.ai 252 j
                    refine r_i (b := S.2.1 252 j) (((fu_18 252 rfl).2.1 j).trans (((hL219_ 252 rfl).2.1 j).trans (((hL213_ 252 rfl).2.1 j).trans (((hL167_ 252 rfl).2.1 j).trans (uF_a))))) ?_
                    refine r_iadd hx hb dX12_named_383 ?_
                    refine lv_iload hx hb dX12_named_384 (lv_at hl 1 rfl) ?_
                    refine r_iadd hx hb dX12_named_386 ?_
                    refine lv_lconst (v := jv 1) hx hb dX12_named_387 (by decide) ?_
                    refine rLast Cx hW hL (k := 257) (by decide) rfl (by decide) (by omega) (by omega) dX12_named_388 (fun H locs hW hL => ?_)
                    have F_26 : Fr S (uL u_18 257 ((ix + (S.2.1 252 j)) + plc) 1) (pl [231, 257, 258]) := F_20.L rfl
                    have i_27 : dX G (uL u_18 257 ((ix + (S.2.1 252 j)) + plc) 1) := iu_18.L ⟨by omega, by omega⟩
                    have q_28 : (-2147483648) ≤ S167.1 231 24 ∧ S167.1 231 24 ≤ 2147483647 := hI167.fi 24
                    have lk_29 : (uL u_18 257 ((ix + (S.2.1 252 j)) + plc) 1).1 231 24 = S167.1 231 24 := (uL_f).trans ((gu_18 24 rfl).trans ((gL219_ 24 rfl).trans (gL213_ 24 rfl)))
                    have q_30 : (-2147483648) ≤ S.1 231 42 ∧ S.1 231 42 ≤ 2147483647 := hI.fi 42
                    have lk_31 : (uL u_18 257 ((ix + (S.2.1 252 j)) + plc) 1).1 231 42 = S.1 231 42 := (uL_f).trans ((gu_18 42 rfl).trans ((gL219_ 42 rfl).trans ((gL213_ 42 rfl).trans ((gL167_ 42 rfl).trans (uF_ne (fun h => absurd h.2 (by decide)))))))
                    have lk_32 : (uL u_18 257 ((ix + (S.2.1 252 j)) + plc) 1).1 231 20 = S219.1 231 20 := (uL_f).trans (gu_18 20 rfl)
                    have nr_33 : NRr N k v (uL u_18 257 ((ix + (S.2.1 252 j)) + plc) 1) := hNr.of ((uL_f).trans ((gu_18 25 rfl).trans ((gL219_ 25 rfl).trans ((gL213_ 25 rfl).trans ((gL167_ 25 rfl).trans (uF_ne (fun h => absurd h.2 (by decide)))))))) (funext fun j => (uL_a).trans (((fu_18 248 rfl).2.1 j).trans (((hL219_ 248 rfl).2.1 j).trans (((hL213_ 248 rfl).2.1 j).trans (((hL167_ 248 rfl).2.1 j).trans (uF_a)))))) (funext fun j => (uL_a).trans (((fu_18 249 rfl).2.1 j).trans (((hL219_ 249 rfl).2.1 j).trans (((hL213_ 249 rfl).2.1 j).trans (((hL167_ 249 rfl).2.1 j).trans (uF_a)))))) (funext fun j => (uL_a).trans (((fu_18 250 rfl).2.1 j).trans (((hL219_ 250 rfl).2.1 j).trans (((hL213_ 250 rfl).2.1 j).trans (((hL167_ 250 rfl).2.1 j).trans (uF_a)))))) (funext fun j => (uL_a).trans (((fu_18 251 rfl).2.1 j).trans (((hL219_ 251 rfl).2.1 j).trans (((hL213_ 251 rfl).2.1 j).trans (((hL167_ 251 rfl).2.1 j).trans (uF_a)))))) (funext fun j => (uL_a).trans (((fu_18 252 rfl).2.1 j).trans (((hL219_ 252 rfl).2.1 j).trans (((hL213_ 252 rfl).2.1 j).trans (((hL167_ 252 rfl).2.1 j).trans (uF_a)))))) (funext fun j => (uL_a).trans (((fu_18 253 rfl).2.1 j).trans (((hL219_ 253 rfl).2.1 j).trans (((hL213_ 253 rfl).2.1 j).trans (((hL167_ 253 rfl).2.1 j).trans (uF_a))))))
                    exact sVret Cx hr hlk hW hL ⟨i_27, F_26, g_21, ⟨⟨(fun jj a => (uL_ne (fun h => by have h2 := h.2; omega)).trans ((xu_18.2 jj a).trans (((hL219_ 257 rfl).2.2.1 jj).trans (((hL213_ 257 rfl).2.2.1 jj).trans (((hL167_ 257 rfl).2.2.1 jj).trans (uF_l)))))), (fun _ => ⟨(eV N j plc), (by rw [show (uL u_18 257 ((ix + (S.2.1 252 j)) + plc) 1).1 231 42 = S.1 231 42 from (uL_f).trans ((gu_18 42 rfl).trans ((gL219_ 42 rfl).trans ((gL213_ 42 rfl).trans ((gL167_ 42 rfl).trans (uF_ne (fun h => absurd h.2 (by decide))))))), hEN, hp9.1]; exact hy3.1), (by rw [show eV N j plc = unt (N.2.2.1 j 5 + plc) from if_neg (by omega), n88, show ix + S.2.1 252 j + plc = ix + (S.2.1 252 j + plc) by omega]; exact fvr_1 xu_18.1 (by omega)), (vb9_eV hK_ (by omega) (by omega) h7 hy4.1 hy4.2), ⟨by omega, by omega⟩, (by have e7 := (show (uL u_18 257 ((ix + (S.2.1 252 j)) + plc) 1).1 231 24 = S167.1 231 24 from (uL_f).trans ((gu_18 24 rfl).trans ((gL219_ 24 rfl).trans (gL213_ 24 rfl)))); omega), nr_33⟩), (fun h => absurd (show (uL u_18 257 ((ix + (S.2.1 252 j)) + plc) 1).1 231 20 = 0 by have e9 := (show (uL u_18 257 ((ix + (S.2.1 252 j)) + plc) 1).1 231 20 = S219.1 231 20 from (uL_f).trans (gu_18 20 rfl)); omega) h)⟩, (by have e7c := (show (uL u_18 257 ((ix + (S.2.1 252 j)) + plc) 1).1 231 24 = S167.1 231 24 from (uL_f).trans ((gu_18 24 rfl).trans ((gL219_ 24 rfl).trans (gL213_ 24 rfl)))); omega)⟩⟩ dX12_named_389
                  · have n7 : N.2.2.1 j 0 = 7 := csj.2.1.mp (by omega)
                    have n77 := n2.2.2.2.2.2 n7 plc hy4.1 hy4.2
                    refine lv_aload_n hx hb dX12_named_344 rfl (lv_at hl 7 rfl) ?_
                    refine g_X12_74 Cx hW (k := 231) (by decide) rfl (v := .ref (G.2.2.1 + 253)) (rd_31 hI219) dX12_named_345 ?_
                    refine lv_aload_n hx hb dX12_named_348 rfl (lv_at hl 7 rfl) ?_
                    refine g_X12_71 Cx hW (k := 231) (by decide) rfl (v := .ref (G.2.2.1 + 252)) (rd_30 hI219) dX12_named_349 ?_
                    refine lv_iload_n hx hb dX12_named_352 rfl (lv_at hl 5 rfl) ?_
                    refine rIald Cx hW (k := 252) (by decide) rfl (by decide) (by omega) (by omega) dX12_named_353 ?_
                    have q_34 : (-2147483648) ≤ S.2.1 252 j ∧ S.2.1 252 j ≤ 2147483647 := hI.ai 252 j
                    refine r_i (b := S.2.1 252 j) (((hL219_ 252 rfl).2.1 j).trans (((hL213_ 252 rfl).2.1 j).trans (((hL167_ 252 rfl).2.1 j).trans (uF_a)))) ?_
                    refine lv_iload hx hb dX12_named_354 (lv_at hl 1 rfl) ?_
                    refine r_iadd hx hb dX12_named_356 ?_
                    refine rIald Cx hW (k := 253) (by decide) rfl (by decide) (by omega) (by omega) dX12_named_357 ?_
                    have q_35 : (-2147483648) ≤ S.2.1 253 ((S.2.1 252 j) + plc) ∧ S.2.1 253 ((S.2.1 252 j) + plc) ≤ 2147483647 := hI.ai 253 ((S.2.1 252 j) + plc)
                    refine r_i (b := S.2.1 253 ((S.2.1 252 j) + plc)) (((hL219_ 253 rfl).2.1 ((S.2.1 252 j) + plc)).trans (((hL213_ 253 rfl).2.1 ((S.2.1 252 j) + plc)).trans (((hL167_ 253 rfl).2.1 ((S.2.1 252 j) + plc)).trans (uF_a)))) ?_
                    refine r_i2l hx hb ⟨(by omega), (by omega)⟩ dX12_named_358 ?_
                    refine lv_goto (tgt := 363) hx hb dX12_named_359 (by decide) ?_
                    refine sBv (sV (As := [.int (iv ix), .long (jv (S.2.1 253 ((S.2.1 252 j) + plc)))]) (rest := []) (k := 231) Cx (e_X12_constant l G S219 (ix := ix) (cv := S.2.1 253 ((S.2.1 252 j) + plc)) hI219 (by omega) (by omega)) (c_X12_431 Cx rfl rfl (rmk_ok (by omega) (by decide))) hW (by decide) rfl rfl rfl hl.1 rfl (Nat.le_of_ble_eq_true rfl) dX12_named_363 ⟨Nat.le_of_ble_eq_true rfl, Nat.le_of_ble_eq_true rfl⟩) hL (fun u_36 H locs k_37 hW hL => ?_)
                    obtain ⟨iu_36, fu_36, gu_36, xu_36⟩ := k_37
                    have F_38 := hFm219.trans (fu_36.to (pl_sub (by decide)))
                    have g_39 : FF S u_36 (fl [20, 21, 24, 43]) := FF.trans hGm219 (FF.to gu_36 (fl_sub (by decide)))
                    have g_40 : FF ((uF S 231 24 ((S.1 231 24) + 1))) u_36 (fl [20, 21, 24, 43]) := FF.trans hGL167219 (FF.to gu_36 (fl_sub (by decide)))
                    have g_41 : FF S167 u_36 (fl [20, 21]) := FF.trans hGL213219 (FF.to gu_36 (fl_sub (by decide)))
                    have g_42 : FF S213 u_36 (fl [20, 21]) := FF.trans gL219_ (FF.to gu_36 (fl_sub (by decide)))
                    refine lv_iload hx hb dX12_named_366 (lv_at hl 3 rfl) ?_
                    refine lv_iconst (v := iv 3) hx hb dX12_named_368 (by decide) ?_
                    refine r_icmp_ne (tgt := 389) hx hb ⟨(by omega), (by omega)⟩ ⟨(by omega), (by omega)⟩ dX12_named_369 (by decide) (fun _ => ?_) (fun c => absurd c (by omega))
                    have q_43 : (-2147483648) ≤ S167.1 231 24 ∧ S167.1 231 24 ≤ 2147483647 := hI167.fi 24
                    have lk_44 : u_36.1 231 24 = S167.1 231 24 := (gu_36 24 rfl).trans ((gL219_ 24 rfl).trans (gL213_ 24 rfl))
                    have q_45 : (-2147483648) ≤ S.1 231 42 ∧ S.1 231 42 ≤ 2147483647 := hI.fi 42
                    have lk_46 : u_36.1 231 42 = S.1 231 42 := (gu_36 42 rfl).trans ((gL219_ 42 rfl).trans ((gL213_ 42 rfl).trans ((gL167_ 42 rfl).trans (uF_ne (fun h => absurd h.2 (by decide))))))
                    have lk_47 : u_36.1 231 20 = S219.1 231 20 := gu_36 20 rfl
                    have nr_48 : NRr N k v u_36 := hNr.of ((gu_36 25 rfl).trans ((gL219_ 25 rfl).trans ((gL213_ 25 rfl).trans ((gL167_ 25 rfl).trans (uF_ne (fun h => absurd h.2 (by decide))))))) (funext fun j => ((fu_36 248 rfl).2.1 j).trans (((hL219_ 248 rfl).2.1 j).trans (((hL213_ 248 rfl).2.1 j).trans (((hL167_ 248 rfl).2.1 j).trans (uF_a))))) (funext fun j => ((fu_36 249 rfl).2.1 j).trans (((hL219_ 249 rfl).2.1 j).trans (((hL213_ 249 rfl).2.1 j).trans (((hL167_ 249 rfl).2.1 j).trans (uF_a))))) (funext fun j => ((fu_36 250 rfl).2.1 j).trans (((hL219_ 250 rfl).2.1 j).trans (((hL213_ 250 rfl).2.1 j).trans (((hL167_ 250 rfl).2.1 j).trans (uF_a))))) (funext fun j => ((fu_36 251 rfl).2.1 j).trans (((hL219_ 251 rfl).2.1 j).trans (((hL213_ 251 rfl).2.1 j).trans (((hL167_ 251 rfl).2.1 j).trans (uF_a))))) (funext fun j => ((fu_36 252 rfl).2.1 j).trans (((hL219_ 252 rfl).2.1 j).trans (((hL213_ 252 rfl).2.1 j).trans (((hL167_ 252 rfl).2.1 j).trans (uF_a))))) (funext fun j => ((fu_36 253 rfl).2.1 j).trans (((hL219_ 253 rfl).2.1 j).trans (((hL213_ 253 rfl).2.1 j).trans (((hL167_ 253 rfl).2.1 j).trans (uF_a)))))
                    exact sVret Cx hr hlk hW hL ⟨iu_36, F_38, g_39, ⟨⟨(fun jj a => (xu_36.2 jj a).trans (((hL219_ 257 rfl).2.2.1 jj).trans (((hL213_ 257 rfl).2.2.1 jj).trans (((hL167_ 257 rfl).2.2.1 jj).trans (uF_l))))), (fun _ => ⟨(eV N j plc), (by rw [show u_36.1 231 42 = S.1 231 42 from (gu_36 42 rfl).trans ((gL219_ 42 rfl).trans ((gL213_ 42 rfl).trans ((gL167_ 42 rfl).trans (uF_ne (fun h => absurd h.2 (by decide)))))), hEN, hp9.1]; exact hy3.1), (by rw [show eV N j plc = cst (N.2.2.2 j plc) from if_pos n7, n77.2.2]; exact xu_36.1), (vb9_eV hK_ (by omega) (by omega) h7 hy4.1 hy4.2), ⟨by omega, by omega⟩, (by have e7 := (show u_36.1 231 24 = S167.1 231 24 from (gu_36 24 rfl).trans ((gL219_ 24 rfl).trans (gL213_ 24 rfl))); omega), nr_48⟩), (fun h => absurd (show u_36.1 231 20 = 0 by have e9 := (show u_36.1 231 20 = S219.1 231 20 from gu_36 20 rfl); omega) h)⟩, (by have e7c := (show u_36.1 231 24 = S167.1 231 24 from (gu_36 24 rfl).trans ((gL219_ 24 rfl).trans (gL213_ 24 rfl))); omega)⟩⟩ dX12_named_389
                · have q_49 : (-2147483648) ≤ S167.1 231 24 ∧ S167.1 231 24 ≤ 2147483647 := hI167.fi 24
                  have lk_50 : S219.1 231 24 = S167.1 231 24 := (gL219_ 24 rfl).trans (gL213_ 24 rfl)
                  have q_51 : (-2147483648) ≤ S.1 231 42 ∧ S.1 231 42 ≤ 2147483647 := hI.fi 42
                  have lk_52 : S219.1 231 42 = S.1 231 42 := (gL219_ 42 rfl).trans ((gL213_ 42 rfl).trans ((gL167_ 42 rfl).trans (uF_ne (fun h => absurd h.2 (by decide)))))
                  exact sVret Cx hr hlk hW hL ⟨hI219, hFm219, hGm219, ⟨⟨(fun j a => ((hL219_ 257 rfl).2.2.1 j).trans (((hL213_ 257 rfl).2.2.1 j).trans (((hL167_ 257 rfl).2.2.1 j).trans (uF_l)))), (fun h => absurd h (by have e9 := (show S219.1 231 20 = S219.1 231 20 from rfl); omega)), (fun _ => (hnn (by omega)))⟩, (by have e7c := (show S219.1 231 24 = S167.1 231 24 from (gL219_ 24 rfl).trans (gL213_ 24 rfl)); omega)⟩⟩ dX12_named_335
              · refine lv_aload_n hx hb dX12_named_226 rfl (lv_at hl 7 rfl) ?_
                have q_53 : (-2147483648) ≤ S219.1 231 20 ∧ S219.1 231 20 ≤ 2147483647 := hI219.fi 20
                refine g_X12_270 Cx hW (k := 231) (by decide) rfl (v := S219.1 231 20) rfl dX12_named_227 ?_
                refine r_if_ne (tgt := 328) hx hb ⟨(by omega), (by omega)⟩ dX12_named_230 (by decide) (fun c_54 => ?_) (fun c_54 => ?_)
                · refine lv_aload_n hx hb dX12_named_328 rfl (lv_at hl 7 rfl) ?_
                  refine g_X12_270 Cx hW (k := 231) (by decide) rfl (v := S219.1 231 20) rfl dX12_named_329 ?_
                  refine r_if_eq (tgt := 336) hx hb ⟨(by omega), (by omega)⟩ dX12_named_332 (by decide) (fun c_55 => ?_) (fun c_55 => ?_)
                  · have hp9 := hpl (by omega)
                    have hy3 := eN3_y (q := q) (lk := S.1 231 42) (a0 := (S167.2.1 258 0)) (a1 := (S167.2.1 258 1)) hwn (show LP3 N j (S167.2.1 258 0) (S167.2.1 258 1) dm plc from (by have z := hp9.2; rw [show i = dm by omega] at z; exact z))
                    have hy4 := hy3.2
                    refine lv_aload_n hx hb dX12_named_336 rfl (lv_at hl 7 rfl) ?_
                    refine lv_iload_n hx hb dX12_named_337 rfl (lv_at hl 8 rfl) ?_
                    refine lv_iload hx hb dX12_named_338 (lv_at hl 3 rfl) ?_
                    refine lv_iconst (v := iv 2) hx hb dX12_named_340 (by decide) ?_
                    refine r_icmp_ne (tgt := 362) hx hb ⟨(by omega), (by omega)⟩ ⟨(by omega), (by omega)⟩ dX12_named_341 (by decide) (fun c_56 => ?_) (fun c_56 => ?_)
                    · have n8 : N.2.2.1 j 0 = 8 := (by rcases h7 with z | z; (exact absurd (csj.2.1.mpr z) (by omega)); exact z)
                      have n88 := n2.2.2.2.2.1 n8; have nb8 := (hK_.2 j (by omega) (by omega)).2.2.2.2.2 n8; have so3 := csj.2.2.1.mpr n8
                      refine lv_lconst (v := jv 0) hx hb dX12_named_362 (by decide) ?_
                      refine sBv (sV (As := [.int (iv ix), .long (jv 0)]) (rest := []) (k := 231) Cx (e_X12_constant l G S219 (ix := ix) (cv := 0) hI219 (by omega) (by omega)) (c_X12_431 Cx rfl rfl (rmk_ok (by omega) (by decide))) hW (by decide) rfl rfl rfl hl.1 rfl (Nat.le_of_ble_eq_true rfl) dX12_named_363 ⟨Nat.le_of_ble_eq_true rfl, Nat.le_of_ble_eq_true rfl⟩) hL (fun u_57 H locs k_58 hW hL => ?_)
                      obtain ⟨iu_57, fu_57, gu_57, xu_57⟩ := k_58
                      have F_59 := hFm219.trans (fu_57.to (pl_sub (by decide)))
                      have g_60 : FF S u_57 (fl [20, 21, 24, 43]) := FF.trans hGm219 (FF.to gu_57 (fl_sub (by decide)))
                      have g_61 : FF ((uF S 231 24 ((S.1 231 24) + 1))) u_57 (fl [20, 21, 24, 43]) := FF.trans hGL167219 (FF.to gu_57 (fl_sub (by decide)))
                      have g_62 : FF S167 u_57 (fl [20, 21]) := FF.trans hGL213219 (FF.to gu_57 (fl_sub (by decide)))
                      have g_63 : FF S213 u_57 (fl [20, 21]) := FF.trans gL219_ (FF.to gu_57 (fl_sub (by decide)))
                      refine lv_iload hx hb dX12_named_366 (lv_at hl 3 rfl) ?_
                      refine lv_iconst (v := iv 3) hx hb dX12_named_368 (by decide) ?_
                      refine r_icmp_ne (tgt := 389) hx hb ⟨(by omega), (by omega)⟩ ⟨(by omega), (by omega)⟩ dX12_named_369 (by decide) (fun c => absurd (by omega) c) (fun _ => ?_)
                      refine lv_aload_n hx hb dX12_named_372 rfl (lv_at hl 7 rfl) ?_
                      refine g_X12_88 Cx hW (k := 231) (by decide) rfl (v := .ref (G.2.2.1 + 257)) (rd_41 iu_57) dX12_named_373 ?_
                      refine lv_iload_n hx hb dX12_named_376 rfl (lv_at hl 8 rfl) ?_
                      refine lv_aload_n hx hb dX12_named_377 rfl (lv_at hl 7 rfl) ?_
                      refine g_X12_71 Cx hW (k := 231) (by decide) rfl (v := .ref (G.2.2.1 + 252)) (rd_30 iu_57) dX12_named_378 ?_
                      refine lv_iload_n hx hb dX12_named_381 rfl (lv_at hl 5 rfl) ?_
                      refine rIald Cx hW (k := 252) (by decide) rfl (by decide) (by omega) (by omega) dX12_named_382 ?_
                      have q_64 : (-2147483648) ≤ S.2.1 252 j ∧ S.2.1 252 j ≤ 2147483647 := hI.ai 252 j
                      refine r_i (b := S.2.1 252 j) (((fu_57 252 rfl).2.1 j).trans (((hL219_ 252 rfl).2.1 j).trans (((hL213_ 252 rfl).2.1 j).trans (((hL167_ 252 rfl).2.1 j).trans (uF_a))))) ?_
                      refine r_iadd hx hb dX12_named_383 ?_
                      refine lv_iload hx hb dX12_named_384 (lv_at hl 1 rfl) ?_
                      refine r_iadd hx hb dX12_named_386 ?_
                      refine lv_lconst (v := jv 1) hx hb dX12_named_387 (by decide) ?_
                      refine rLast Cx hW hL (k := 257) (by decide) rfl (by decide) (by omega) (by omega) dX12_named_388 (fun H locs hW hL => ?_)
                      have F_65 : Fr S (uL u_57 257 ((ix + (S.2.1 252 j)) + plc) 1) (pl [231, 257, 258]) := F_59.L rfl
                      have i_66 : dX G (uL u_57 257 ((ix + (S.2.1 252 j)) + plc) 1) := iu_57.L ⟨by omega, by omega⟩
                      have q_67 : (-2147483648) ≤ S167.1 231 24 ∧ S167.1 231 24 ≤ 2147483647 := hI167.fi 24
                      have lk_68 : (uL u_57 257 ((ix + (S.2.1 252 j)) + plc) 1).1 231 24 = S167.1 231 24 := (uL_f).trans ((gu_57 24 rfl).trans ((gL219_ 24 rfl).trans (gL213_ 24 rfl)))
                      have q_69 : (-2147483648) ≤ S.1 231 42 ∧ S.1 231 42 ≤ 2147483647 := hI.fi 42
                      have lk_70 : (uL u_57 257 ((ix + (S.2.1 252 j)) + plc) 1).1 231 42 = S.1 231 42 := (uL_f).trans ((gu_57 42 rfl).trans ((gL219_ 42 rfl).trans ((gL213_ 42 rfl).trans ((gL167_ 42 rfl).trans (uF_ne (fun h => absurd h.2 (by decide)))))))
                      have lk_71 : (uL u_57 257 ((ix + (S.2.1 252 j)) + plc) 1).1 231 20 = S219.1 231 20 := (uL_f).trans (gu_57 20 rfl)
                      have nr_72 : NRr N k v (uL u_57 257 ((ix + (S.2.1 252 j)) + plc) 1) := hNr.of ((uL_f).trans ((gu_57 25 rfl).trans ((gL219_ 25 rfl).trans ((gL213_ 25 rfl).trans ((gL167_ 25 rfl).trans (uF_ne (fun h => absurd h.2 (by decide)))))))) (funext fun j => (uL_a).trans (((fu_57 248 rfl).2.1 j).trans (((hL219_ 248 rfl).2.1 j).trans (((hL213_ 248 rfl).2.1 j).trans (((hL167_ 248 rfl).2.1 j).trans (uF_a)))))) (funext fun j => (uL_a).trans (((fu_57 249 rfl).2.1 j).trans (((hL219_ 249 rfl).2.1 j).trans (((hL213_ 249 rfl).2.1 j).trans (((hL167_ 249 rfl).2.1 j).trans (uF_a)))))) (funext fun j => (uL_a).trans (((fu_57 250 rfl).2.1 j).trans (((hL219_ 250 rfl).2.1 j).trans (((hL213_ 250 rfl).2.1 j).trans (((hL167_ 250 rfl).2.1 j).trans (uF_a)))))) (funext fun j => (uL_a).trans (((fu_57 251 rfl).2.1 j).trans (((hL219_ 251 rfl).2.1 j).trans (((hL213_ 251 rfl).2.1 j).trans (((hL167_ 251 rfl).2.1 j).trans (uF_a)))))) (funext fun j => (uL_a).trans (((fu_57 252 rfl).2.1 j).trans (((hL219_ 252 rfl).2.1 j).trans (((hL213_ 252 rfl).2.1 j).trans (((hL167_ 252 rfl).2.1 j).trans (uF_a)))))) (funext fun j => (uL_a).trans (((fu_57 253 rfl).2.1 j).trans (((hL219_ 253 rfl).2.1 j).trans (((hL213_ 253 rfl).2.1 j).trans (((hL167_ 253 rfl).2.1 j).trans (uF_a))))))
                      exact sVret Cx hr hlk hW hL ⟨i_66, F_65, g_60, ⟨⟨(fun jj a => (uL_ne (fun h => by have h2 := h.2; omega)).trans ((xu_57.2 jj a).trans (((hL219_ 257 rfl).2.2.1 jj).trans (((hL213_ 257 rfl).2.2.1 jj).trans (((hL167_ 257 rfl).2.2.1 jj).trans (uF_l)))))), (fun _ => ⟨(eV N j plc), (by rw [show (uL u_57 257 ((ix + (S.2.1 252 j)) + plc) 1).1 231 42 = S.1 231 42 from (uL_f).trans ((gu_57 42 rfl).trans ((gL219_ 42 rfl).trans ((gL213_ 42 rfl).trans ((gL167_ 42 rfl).trans (uF_ne (fun h => absurd h.2 (by decide))))))), hEN, hp9.1]; exact hy3.1), (by rw [show eV N j plc = unt (N.2.2.1 j 5 + plc) from if_neg (by omega), n88, show ix + S.2.1 252 j + plc = ix + (S.2.1 252 j + plc) by omega]; exact fvr_1 xu_57.1 (by omega)), (vb9_eV hK_ (by omega) (by omega) h7 hy4.1 hy4.2), ⟨by omega, by omega⟩, (by have e7 := (show (uL u_57 257 ((ix + (S.2.1 252 j)) + plc) 1).1 231 24 = S167.1 231 24 from (uL_f).trans ((gu_57 24 rfl).trans ((gL219_ 24 rfl).trans (gL213_ 24 rfl)))); omega), nr_72⟩), (fun h => absurd (show (uL u_57 257 ((ix + (S.2.1 252 j)) + plc) 1).1 231 20 = 0 by have e9 := (show (uL u_57 257 ((ix + (S.2.1 252 j)) + plc) 1).1 231 20 = S219.1 231 20 from (uL_f).trans (gu_57 20 rfl)); omega) h)⟩, (by have e7c := (show (uL u_57 257 ((ix + (S.2.1 252 j)) + plc) 1).1 231 24 = S167.1 231 24 from (uL_f).trans ((gu_57 24 rfl).trans ((gL219_ 24 rfl).trans (gL213_ 24 rfl)))); omega)⟩⟩ dX12_named_389
                    · have n7 : N.2.2.1 j 0 = 7 := csj.2.1.mp (by omega)
                      have n77 := n2.2.2.2.2.2 n7 plc hy4.1 hy4.2
                      refine lv_aload_n hx hb dX12_named_344 rfl (lv_at hl 7 rfl) ?_
                      refine g_X12_74 Cx hW (k := 231) (by decide) rfl (v := .ref (G.2.2.1 + 253)) (rd_31 hI219) dX12_named_345 ?_
                      refine lv_aload_n hx hb dX12_named_348 rfl (lv_at hl 7 rfl) ?_
                      refine g_X12_71 Cx hW (k := 231) (by decide) rfl (v := .ref (G.2.2.1 + 252)) (rd_30 hI219) dX12_named_349 ?_
                      refine lv_iload_n hx hb dX12_named_352 rfl (lv_at hl 5 rfl) ?_
                      refine rIald Cx hW (k := 252) (by decide) rfl (by decide) (by omega) (by omega) dX12_named_353 ?_
                      have q_73 : (-2147483648) ≤ S.2.1 252 j ∧ S.2.1 252 j ≤ 2147483647 := hI.ai 252 j
                      refine r_i (b := S.2.1 252 j) (((hL219_ 252 rfl).2.1 j).trans (((hL213_ 252 rfl).2.1 j).trans (((hL167_ 252 rfl).2.1 j).trans (uF_a)))) ?_
                      refine lv_iload hx hb dX12_named_354 (lv_at hl 1 rfl) ?_
                      refine r_iadd hx hb dX12_named_356 ?_
                      refine rIald Cx hW (k := 253) (by decide) rfl (by decide) (by omega) (by omega) dX12_named_357 ?_
                      have q_74 : (-2147483648) ≤ S.2.1 253 ((S.2.1 252 j) + plc) ∧ S.2.1 253 ((S.2.1 252 j) + plc) ≤ 2147483647 := hI.ai 253 ((S.2.1 252 j) + plc)
                      refine r_i (b := S.2.1 253 ((S.2.1 252 j) + plc)) (((hL219_ 253 rfl).2.1 ((S.2.1 252 j) + plc)).trans (((hL213_ 253 rfl).2.1 ((S.2.1 252 j) + plc)).trans (((hL167_ 253 rfl).2.1 ((S.2.1 252 j) + plc)).trans (uF_a)))) ?_
                      refine r_i2l hx hb ⟨(by omega), (by omega)⟩ dX12_named_358 ?_
                      refine lv_goto (tgt := 363) hx hb dX12_named_359 (by decide) ?_
                      refine sBv (sV (As := [.int (iv ix), .long (jv (S.2.1 253 ((S.2.1 252 j) + plc)))]) (rest := []) (k := 231) Cx (e_X12_constant l G S219 (ix := ix) (cv := S.2.1 253 ((S.2.1 252 j) + plc)) hI219 (by omega) (by omega)) (c_X12_431 Cx rfl rfl (rmk_ok (by omega) (by decide))) hW (by decide) rfl rfl rfl hl.1 rfl (Nat.le_of_ble_eq_true rfl) dX12_named_363 ⟨Nat.le_of_ble_eq_true rfl, Nat.le_of_ble_eq_true rfl⟩) hL (fun u_75 H locs k_76 hW hL => ?_)
                      obtain ⟨iu_75, fu_75, gu_75, xu_75⟩ := k_76
                      have F_77 := hFm219.trans (fu_75.to (pl_sub (by decide)))
                      have g_78 : FF S u_75 (fl [20, 21, 24, 43]) := FF.trans hGm219 (FF.to gu_75 (fl_sub (by decide)))
                      have g_79 : FF ((uF S 231 24 ((S.1 231 24) + 1))) u_75 (fl [20, 21, 24, 43]) := FF.trans hGL167219 (FF.to gu_75 (fl_sub (by decide)))
                      have g_80 : FF S167 u_75 (fl [20, 21]) := FF.trans hGL213219 (FF.to gu_75 (fl_sub (by decide)))
                      have g_81 : FF S213 u_75 (fl [20, 21]) := FF.trans gL219_ (FF.to gu_75 (fl_sub (by decide)))
                      refine lv_iload hx hb dX12_named_366 (lv_at hl 3 rfl) ?_
                      refine lv_iconst (v := iv 3) hx hb dX12_named_368 (by decide) ?_
                      refine r_icmp_ne (tgt := 389) hx hb ⟨(by omega), (by omega)⟩ ⟨(by omega), (by omega)⟩ dX12_named_369 (by decide) (fun _ => ?_) (fun c => absurd c (by omega))
                      have q_82 : (-2147483648) ≤ S167.1 231 24 ∧ S167.1 231 24 ≤ 2147483647 := hI167.fi 24
                      have lk_83 : u_75.1 231 24 = S167.1 231 24 := (gu_75 24 rfl).trans ((gL219_ 24 rfl).trans (gL213_ 24 rfl))
                      have q_84 : (-2147483648) ≤ S.1 231 42 ∧ S.1 231 42 ≤ 2147483647 := hI.fi 42
                      have lk_85 : u_75.1 231 42 = S.1 231 42 := (gu_75 42 rfl).trans ((gL219_ 42 rfl).trans ((gL213_ 42 rfl).trans ((gL167_ 42 rfl).trans (uF_ne (fun h => absurd h.2 (by decide))))))
                      have lk_86 : u_75.1 231 20 = S219.1 231 20 := gu_75 20 rfl
                      have nr_87 : NRr N k v u_75 := hNr.of ((gu_75 25 rfl).trans ((gL219_ 25 rfl).trans ((gL213_ 25 rfl).trans ((gL167_ 25 rfl).trans (uF_ne (fun h => absurd h.2 (by decide))))))) (funext fun j => ((fu_75 248 rfl).2.1 j).trans (((hL219_ 248 rfl).2.1 j).trans (((hL213_ 248 rfl).2.1 j).trans (((hL167_ 248 rfl).2.1 j).trans (uF_a))))) (funext fun j => ((fu_75 249 rfl).2.1 j).trans (((hL219_ 249 rfl).2.1 j).trans (((hL213_ 249 rfl).2.1 j).trans (((hL167_ 249 rfl).2.1 j).trans (uF_a))))) (funext fun j => ((fu_75 250 rfl).2.1 j).trans (((hL219_ 250 rfl).2.1 j).trans (((hL213_ 250 rfl).2.1 j).trans (((hL167_ 250 rfl).2.1 j).trans (uF_a))))) (funext fun j => ((fu_75 251 rfl).2.1 j).trans (((hL219_ 251 rfl).2.1 j).trans (((hL213_ 251 rfl).2.1 j).trans (((hL167_ 251 rfl).2.1 j).trans (uF_a))))) (funext fun j => ((fu_75 252 rfl).2.1 j).trans (((hL219_ 252 rfl).2.1 j).trans (((hL213_ 252 rfl).2.1 j).trans (((hL167_ 252 rfl).2.1 j).trans (uF_a))))) (funext fun j => ((fu_75 253 rfl).2.1 j).trans (((hL219_ 253 rfl).2.1 j).trans (((hL213_ 253 rfl).2.1 j).trans (((hL167_ 253 rfl).2.1 j).trans (uF_a)))))
                      exact sVret Cx hr hlk hW hL ⟨iu_75, F_77, g_78, ⟨⟨(fun jj a => (xu_75.2 jj a).trans (((hL219_ 257 rfl).2.2.1 jj).trans (((hL213_ 257 rfl).2.2.1 jj).trans (((hL167_ 257 rfl).2.2.1 jj).trans (uF_l))))), (fun _ => ⟨(eV N j plc), (by rw [show u_75.1 231 42 = S.1 231 42 from (gu_75 42 rfl).trans ((gL219_ 42 rfl).trans ((gL213_ 42 rfl).trans ((gL167_ 42 rfl).trans (uF_ne (fun h => absurd h.2 (by decide)))))), hEN, hp9.1]; exact hy3.1), (by rw [show eV N j plc = cst (N.2.2.2 j plc) from if_pos n7, n77.2.2]; exact xu_75.1), (vb9_eV hK_ (by omega) (by omega) h7 hy4.1 hy4.2), ⟨by omega, by omega⟩, (by have e7 := (show u_75.1 231 24 = S167.1 231 24 from (gu_75 24 rfl).trans ((gL219_ 24 rfl).trans (gL213_ 24 rfl))); omega), nr_87⟩), (fun h => absurd (show u_75.1 231 20 = 0 by have e9 := (show u_75.1 231 20 = S219.1 231 20 from gu_75 20 rfl); omega) h)⟩, (by have e7c := (show u_75.1 231 24 = S167.1 231 24 from (gu_75 24 rfl).trans ((gL219_ 24 rfl).trans (gL213_ 24 rfl))); omega)⟩⟩ dX12_named_389
                  · have q_88 : (-2147483648) ≤ S167.1 231 24 ∧ S167.1 231 24 ≤ 2147483647 := hI167.fi 24
                    have lk_89 : S219.1 231 24 = S167.1 231 24 := (gL219_ 24 rfl).trans (gL213_ 24 rfl)
                    have q_90 : (-2147483648) ≤ S.1 231 42 ∧ S.1 231 42 ≤ 2147483647 := hI.fi 42
                    have lk_91 : S219.1 231 42 = S.1 231 42 := (gL219_ 42 rfl).trans ((gL213_ 42 rfl).trans ((gL167_ 42 rfl).trans (uF_ne (fun h => absurd h.2 (by decide)))))
                    exact sVret Cx hr hlk hW hL ⟨hI219, hFm219, hGm219, ⟨⟨(fun j a => ((hL219_ 257 rfl).2.2.1 j).trans (((hL213_ 257 rfl).2.2.1 j).trans (((hL167_ 257 rfl).2.2.1 j).trans (uF_l)))), (fun h => absurd h (by have e9 := (show S219.1 231 20 = S219.1 231 20 from rfl); omega)), (fun _ => (hnn (by omega)))⟩, (by have e7c := (show S219.1 231 24 = S167.1 231 24 from (gL219_ 24 rfl).trans (gL213_ 24 rfl)); omega)⟩⟩ dX12_named_335
                · refine lv_iload hx hb dX12_named_233 (lv_at hl 0 rfl) ?_
                  refine r_if_ne (tgt := 247) hx hb ⟨(by omega), (by omega)⟩ dX12_named_235 (by decide) (fun c_92 => ?_) (fun c_92 => ?_)
                  · refine lv_aload_n hx hb dX12_named_247 rfl (lv_at hl 7 rfl) ?_
                    refine g_X12_68 Cx hW (k := 231) (by decide) rfl (v := .ref (G.2.2.1 + 251)) (rd_29 hI219) dX12_named_248 ?_
                    refine lv_iload_n hx hb dX12_named_251 rfl (lv_at hl 5 rfl) ?_
                    refine rIald Cx hW (k := 251) (by decide) rfl (by decide) (by omega) (by omega) dX12_named_252 ?_
                    have q_93 : (-2147483648) ≤ S.2.1 251 j ∧ S.2.1 251 j ≤ 2147483647 := hI.ai 251 j
                    refine r_i (b := S.2.1 251 j) (((hL219_ 251 rfl).2.1 j).trans (((hL213_ 251 rfl).2.1 j).trans (((hL167_ 251 rfl).2.1 j).trans (uF_a)))) ?_
                    refine lv_istore (lv' := [(9, .int (iv (S.2.1 251 j))), (8, .int (iv i)), (7, .int (iv plc)), (6, .int (iv dm)), (5, .int (iv (S.2.1 249 j))), (4, .int (iv r_11)), (3, .int (iv j)), (2, .int (iv (S.1 231 24))), (0, .ref (G.2.2.1 + 231)), (1, .int (iv ix))]) hx hb dX12_named_253 hl (by decide) rfl (fun ls hl => ?_)
                    have es4 : S.2.1 251 j = N.2.2.1 j 4 := n34.2.symm
                    obtain ⟨k1_, k2_, k3_⟩ : 0 ≤ N.2.2.1 j 4 ∧ N.2.2.1 j 4 < N.1 ∧ N.2.2.1 (N.2.2.1 j 4) 0 = 6 := (by rcases s4v with z | z; (exfalso; rcases hwn with y | y | y <;> omega); exact z)
                    have hst := (hNr.2.2 (N.2.2.1 j 4) k1_ k2_).2.1 k3_
                    have hsk := (hK_.2 (N.2.2.1 j 4) k1_ k2_).2.1 k3_
                    have ai : S167.2.1 258 i = S167.2.1 258 1 := congrArg _ (by omega)
                    have lo_ : S.2.1 250 (S.2.1 251 j) = N.2.2.1 (N.2.2.1 j 4) 1 := (by rw [es4]; exact hst.1.symm)
                    have hi_ : S.2.1 251 (S.2.1 251 j) = N.2.2.1 (N.2.2.1 j 4) 2 := (by rw [es4]; exact hst.2.symm)
                    refine lv_aload_n hx hb dX12_named_255 rfl (lv_at hl 8 rfl) ?_
                    refine g_X12_91 Cx hW (k := 231) (by decide) rfl (v := .ref (G.2.2.1 + 258)) (rd_44 hI219) dX12_named_256 ?_
                    refine lv_iload hx hb dX12_named_259 (lv_at hl 1 rfl) ?_
                    refine rIald Cx hW (k := 258) (by decide) rfl (by decide) (by omega) (by omega) dX12_named_261 ?_
                    have q_94 : (-2147483648) ≤ S167.2.1 258 i ∧ S167.2.1 258 i ≤ 2147483647 := hI167.ai 258 i
                    refine r_i (b := S167.2.1 258 i) (((hL219_ 258 rfl).2.1 i).trans ((hL213_ 258 rfl).2.1 i)) ?_
                    refine lv_aload_n hx hb dX12_named_262 rfl (lv_at hl 8 rfl) ?_
                    refine g_X12_65 Cx hW (k := 231) (by decide) rfl (v := .ref (G.2.2.1 + 250)) (rd_28 hI219) dX12_named_263 ?_
                    refine lv_iload hx hb dX12_named_266 (lv_at hl 0 rfl) ?_
                    refine rIald Cx hW (k := 250) (by decide) rfl (by decide) (by omega) (by omega) dX12_named_268 ?_
                    have q_95 : (-2147483648) ≤ S.2.1 250 (S.2.1 251 j) ∧ S.2.1 250 (S.2.1 251 j) ≤ 2147483647 := hI.ai 250 (S.2.1 251 j)
                    refine r_i (b := S.2.1 250 (S.2.1 251 j)) (((hL219_ 250 rfl).2.1 (S.2.1 251 j)).trans (((hL213_ 250 rfl).2.1 (S.2.1 251 j)).trans (((hL167_ 250 rfl).2.1 (S.2.1 251 j)).trans (uF_a)))) ?_
                    refine r_icmp_lt (tgt := 289) hx hb ⟨(by omega), (by omega)⟩ ⟨(by omega), (by omega)⟩ dX12_named_269 (by decide) (fun c_96 => ?_) (fun c_96 => ?_)
                    · refine lv_aload_n hx hb dX12_named_289 rfl (lv_at hl 8 rfl) ?_
                      refine lv_iconst (v := iv 5) hx hb dX12_named_290 (by decide) ?_
                      refine lv_iload_n hx hb dX12_named_291 rfl (lv_at hl 7 rfl) ?_
                      refine sBv (sV (As := [.int (iv 5), .int (iv (S.1 231 24))]) (rest := []) (k := 231) Cx (s_X12_wrong l G S219 (cd := 5) (tk := S.1 231 24) hI219 (by omega) (by omega)) (c_X12_321 Cx rfl rfl (rmk_ok (by omega) (by decide))) hW (by decide) rfl rfl rfl hl.1 rfl (Nat.le_of_ble_eq_true rfl) dX12_named_292 ⟨Nat.le_of_ble_eq_true rfl, Nat.le_of_ble_eq_true rfl⟩) hL (fun u_97 H locs k_98 hW hL => ?_)
                      obtain ⟨iu_97, fu_97, gu_97, xu_97⟩ := k_98
                      have F_99 := hFm219.trans (fu_97.to (pl_sub (by decide)))
                      have F_100 := hFL167219.trans (fu_97.to (pl_sub (by decide)))
                      have F_101 := hFL213219.trans fu_97
                      have F_102 := hL219_.trans fu_97
                      have g_103 : FF S u_97 (fl [20, 21, 24, 43]) := FF.trans hGm219 (FF.to gu_97 (fl_sub (by decide)))
                      have g_104 : FF ((uF S 231 24 ((S.1 231 24) + 1))) u_97 (fl [20, 21, 24, 43]) := FF.trans hGL167219 (FF.to gu_97 (fl_sub (by decide)))
                      have g_105 : FF S167 u_97 (fl [20, 21]) := FF.trans hGL213219 (FF.to gu_97 (fl_sub (by decide)))
                      have g_106 : FF S213 u_97 (fl [20, 21]) := FF.trans gL219_ (FF.to gu_97 (fl_sub (by decide)))
                      refine lv_iload hx hb dX12_named_295 (lv_at hl 2 rfl) ?_
                      refine lv_aload_n hx hb dX12_named_297 rfl (lv_at hl 8 rfl) ?_
                      refine lv_iload hx hb dX12_named_298 (lv_at hl 0 rfl) ?_
                      refine sBi (sV (As := [.int (iv (S.2.1 251 j))]) (rest := [.int (iv plc)]) (k := 231) Cx (s_X12_sizeOf l G u_97 (i := S.2.1 251 j) iu_97 (.inr ⟨by omega, by omega, (by rw [((fu_97 250 rfl).2.1 ((S.2.1 251 j))).trans (((hL219_ 250 rfl).2.1 ((S.2.1 251 j))).trans (((hL213_ 250 rfl).2.1 ((S.2.1 251 j))).trans (((hL167_ 250 rfl).2.1 ((S.2.1 251 j))).trans (uF_a))))]; omega), (by rw [((fu_97 250 rfl).2.1 ((S.2.1 251 j))).trans (((hL219_ 250 rfl).2.1 ((S.2.1 251 j))).trans (((hL213_ 250 rfl).2.1 ((S.2.1 251 j))).trans (((hL167_ 250 rfl).2.1 ((S.2.1 251 j))).trans (uF_a)))), ((fu_97 251 rfl).2.1 ((S.2.1 251 j))).trans (((hL219_ 251 rfl).2.1 ((S.2.1 251 j))).trans (((hL213_ 251 rfl).2.1 ((S.2.1 251 j))).trans (((hL167_ 251 rfl).2.1 ((S.2.1 251 j))).trans (uF_a))))]; omega), (by rw [((fu_97 251 rfl).2.1 ((S.2.1 251 j))).trans (((hL219_ 251 rfl).2.1 ((S.2.1 251 j))).trans (((hL213_ 251 rfl).2.1 ((S.2.1 251 j))).trans (((hL167_ 251 rfl).2.1 ((S.2.1 251 j))).trans (uF_a))))]; omega), (by rw [((fu_97 250 rfl).2.1 ((S.2.1 251 j))).trans (((hL219_ 250 rfl).2.1 ((S.2.1 251 j))).trans (((hL213_ 250 rfl).2.1 ((S.2.1 251 j))).trans (((hL167_ 250 rfl).2.1 ((S.2.1 251 j))).trans (uF_a)))), ((fu_97 251 rfl).2.1 ((S.2.1 251 j))).trans (((hL219_ 251 rfl).2.1 ((S.2.1 251 j))).trans (((hL213_ 251 rfl).2.1 ((S.2.1 251 j))).trans (((hL167_ 251 rfl).2.1 ((S.2.1 251 j))).trans (uF_a))))]; omega)⟩)) (c_X12_410 Cx rfl rfl (rmk_ok (by omega) (by decide))) hW (by decide) rfl rfl rfl hl.1 rfl (Nat.le_of_ble_eq_true rfl) dX12_named_300 ⟨Nat.le_of_ble_eq_true rfl, Nat.le_of_ble_eq_true rfl⟩) hL (fun r_109 u_107 H locs k_108 hW hL => ?_)
                      obtain ⟨eu_107, xu_107⟩ := k_108
                      rw [eu_107] at hW
                      have hsz : r_109 = siz N (N.2.2.1 j 4) := (by rw [xu_107.1]; unfold nSz siz; rw [if_neg (by omega), if_neg (by omega), ((fu_97 250 rfl).2.1 ((S.2.1 251 j))).trans (((hL219_ 250 rfl).2.1 ((S.2.1 251 j))).trans (((hL213_ 250 rfl).2.1 ((S.2.1 251 j))).trans (((hL167_ 250 rfl).2.1 ((S.2.1 251 j))).trans (uF_a)))), ((fu_97 251 rfl).2.1 ((S.2.1 251 j))).trans (((hL219_ 251 rfl).2.1 ((S.2.1 251 j))).trans (((hL213_ 251 rfl).2.1 ((S.2.1 251 j))).trans (((hL167_ 251 rfl).2.1 ((S.2.1 251 j))).trans (uF_a)))), lo_, hi_])
                      refine r_imul hx hb dX12_named_303 ?_
                      refine lv_aload_n hx hb dX12_named_304 rfl (lv_at hl 8 rfl) ?_
                      refine g_X12_91 Cx hW (k := 231) (by decide) rfl (v := .ref (G.2.2.1 + 258)) (rd_44 iu_97) dX12_named_305 ?_
                      refine lv_iload hx hb dX12_named_308 (lv_at hl 1 rfl) ?_
                      refine rIald Cx hW (k := 258) (by decide) rfl (by decide) (by omega) (by omega) dX12_named_310 ?_
                      refine r_i (b := S167.2.1 258 i) (((fu_97 258 rfl).2.1 i).trans (((hL219_ 258 rfl).2.1 i).trans ((hL213_ 258 rfl).2.1 i))) ?_
                      refine r_iadd hx hb dX12_named_311 ?_
                      refine lv_aload_n hx hb dX12_named_312 rfl (lv_at hl 8 rfl) ?_
                      refine g_X12_65 Cx hW (k := 231) (by decide) rfl (v := .ref (G.2.2.1 + 250)) (rd_28 iu_97) dX12_named_313 ?_
                      refine lv_iload hx hb dX12_named_316 (lv_at hl 0 rfl) ?_
                      refine rIald Cx hW (k := 250) (by decide) rfl (by decide) (by omega) (by omega) dX12_named_318 ?_
                      refine r_i (b := S.2.1 250 (S.2.1 251 j)) (((fu_97 250 rfl).2.1 (S.2.1 251 j)).trans (((hL219_ 250 rfl).2.1 (S.2.1 251 j)).trans (((hL213_ 250 rfl).2.1 (S.2.1 251 j)).trans (((hL167_ 250 rfl).2.1 (S.2.1 251 j)).trans (uF_a))))) ?_
                      refine r_isub hx hb dX12_named_319 ?_
                      refine lv_istore (lv' := [(7, .int (iv (((plc * r_109) + (S167.2.1 258 i)) - (S.2.1 250 (S.2.1 251 j))))), (9, .int (iv (S.2.1 251 j))), (8, .int (iv i)), (6, .int (iv dm)), (5, .int (iv (S.2.1 249 j))), (4, .int (iv r_11)), (3, .int (iv j)), (2, .int (iv (S.1 231 24))), (0, .ref (G.2.2.1 + 231)), (1, .int (iv ix))]) hx hb dX12_named_320 hl (by decide) rfl (fun ls hl => ?_)
                      refine lv_iinc (v := iv (i + 1)) (lv' := [(8, .int (iv (i + 1))), (7, .int (iv (((plc * r_109) + (S167.2.1 258 i)) - (S.2.1 250 (S.2.1 251 j))))), (9, .int (iv (S.2.1 251 j))), (6, .int (iv dm)), (5, .int (iv (S.2.1 249 j))), (4, .int (iv r_11)), (3, .int (iv j)), (2, .int (iv (S.1 231 24))), (0, .ref (G.2.2.1 + 231)), (1, .int (iv ix))]) hx hb dX12_named_322 hl (k := 2) rfl ((Int32.ofInt_add _ _).symm) (by decide) rfl (fun ls hl => ?_)
                      refine lv_goto (tgt := 219) hx hb dX12_named_325 (by decide) ?_
                      have q_110 : (-2147483648) ≤ u_97.1 231 20 ∧ u_97.1 231 20 ≤ 2147483647 := iu_97.fi 20
                      exact ih_219 u_97 (i + 1) (((plc * r_109) + (S167.2.1 258 i)) - (S.2.1 250 (S.2.1 251 j))) _ _ _ (by omega) iu_97 F_99 F_100 F_101 F_102 g_103 g_104 g_105 g_106 (by omega) (fun h => absurd h (by have e9 := (show u_97.1 231 20 = u_97.1 231 20 from rfl); have a9 := xu_97; omega)) (fun _ => by rw [hEN, (hpl (by omega)).1]; exact eN3_1 (by omega) (fun z => by have z1 := z.1; have z2 := z.2; omega)) hW hL (lv_sub hl [0, 1, 3, 4, 5, 6, 7, 8, 9] rfl)
                    · refine lv_aload_n hx hb dX12_named_272 rfl (lv_at hl 8 rfl) ?_
                      refine g_X12_91 Cx hW (k := 231) (by decide) rfl (v := .ref (G.2.2.1 + 258)) (rd_44 hI219) dX12_named_273 ?_
                      refine lv_iload hx hb dX12_named_276 (lv_at hl 1 rfl) ?_
                      refine rIald Cx hW (k := 258) (by decide) rfl (by decide) (by omega) (by omega) dX12_named_278 ?_
                      refine r_i (b := S167.2.1 258 i) (((hL219_ 258 rfl).2.1 i).trans ((hL213_ 258 rfl).2.1 i)) ?_
                      refine lv_aload_n hx hb dX12_named_279 rfl (lv_at hl 8 rfl) ?_
                      refine g_X12_68 Cx hW (k := 231) (by decide) rfl (v := .ref (G.2.2.1 + 251)) (rd_29 hI219) dX12_named_280 ?_
                      refine lv_iload hx hb dX12_named_283 (lv_at hl 0 rfl) ?_
                      refine rIald Cx hW (k := 251) (by decide) rfl (by decide) (by omega) (by omega) dX12_named_285 ?_
                      have q_111 : (-2147483648) ≤ S.2.1 251 (S.2.1 251 j) ∧ S.2.1 251 (S.2.1 251 j) ≤ 2147483647 := hI.ai 251 (S.2.1 251 j)
                      refine r_i (b := S.2.1 251 (S.2.1 251 j)) (((hL219_ 251 rfl).2.1 (S.2.1 251 j)).trans (((hL213_ 251 rfl).2.1 (S.2.1 251 j)).trans (((hL167_ 251 rfl).2.1 (S.2.1 251 j)).trans (uF_a)))) ?_
                      refine r_icmp_le (tgt := 295) hx hb ⟨(by omega), (by omega)⟩ ⟨(by omega), (by omega)⟩ dX12_named_286 (by decide) (fun c_112 => ?_) (fun c_112 => ?_)
                      · refine lv_iload hx hb dX12_named_295 (lv_at hl 2 rfl) ?_
                        refine lv_aload_n hx hb dX12_named_297 rfl (lv_at hl 8 rfl) ?_
                        refine lv_iload hx hb dX12_named_298 (lv_at hl 0 rfl) ?_
                        refine sBi (sV (As := [.int (iv (S.2.1 251 j))]) (rest := [.int (iv plc)]) (k := 231) Cx (s_X12_sizeOf l G S219 (i := S.2.1 251 j) hI219 (.inr ⟨by omega, by omega, (by rw [((hL219_ 250 rfl).2.1 ((S.2.1 251 j))).trans (((hL213_ 250 rfl).2.1 ((S.2.1 251 j))).trans (((hL167_ 250 rfl).2.1 ((S.2.1 251 j))).trans (uF_a)))]; omega), (by rw [((hL219_ 250 rfl).2.1 ((S.2.1 251 j))).trans (((hL213_ 250 rfl).2.1 ((S.2.1 251 j))).trans (((hL167_ 250 rfl).2.1 ((S.2.1 251 j))).trans (uF_a))), ((hL219_ 251 rfl).2.1 ((S.2.1 251 j))).trans (((hL213_ 251 rfl).2.1 ((S.2.1 251 j))).trans (((hL167_ 251 rfl).2.1 ((S.2.1 251 j))).trans (uF_a)))]; omega), (by rw [((hL219_ 251 rfl).2.1 ((S.2.1 251 j))).trans (((hL213_ 251 rfl).2.1 ((S.2.1 251 j))).trans (((hL167_ 251 rfl).2.1 ((S.2.1 251 j))).trans (uF_a)))]; omega), (by rw [((hL219_ 250 rfl).2.1 ((S.2.1 251 j))).trans (((hL213_ 250 rfl).2.1 ((S.2.1 251 j))).trans (((hL167_ 250 rfl).2.1 ((S.2.1 251 j))).trans (uF_a))), ((hL219_ 251 rfl).2.1 ((S.2.1 251 j))).trans (((hL213_ 251 rfl).2.1 ((S.2.1 251 j))).trans (((hL167_ 251 rfl).2.1 ((S.2.1 251 j))).trans (uF_a)))]; omega)⟩)) (c_X12_410 Cx rfl rfl (rmk_ok (by omega) (by decide))) hW (by decide) rfl rfl rfl hl.1 rfl (Nat.le_of_ble_eq_true rfl) dX12_named_300 ⟨Nat.le_of_ble_eq_true rfl, Nat.le_of_ble_eq_true rfl⟩) hL (fun r_115 u_113 H locs k_114 hW hL => ?_)
                        obtain ⟨eu_113, xu_113⟩ := k_114
                        rw [eu_113] at hW
                        have hsz : r_115 = siz N (N.2.2.1 j 4) := (by rw [xu_113.1]; unfold nSz siz; rw [if_neg (by omega), if_neg (by omega), ((hL219_ 250 rfl).2.1 ((S.2.1 251 j))).trans (((hL213_ 250 rfl).2.1 ((S.2.1 251 j))).trans (((hL167_ 250 rfl).2.1 ((S.2.1 251 j))).trans (uF_a))), ((hL219_ 251 rfl).2.1 ((S.2.1 251 j))).trans (((hL213_ 251 rfl).2.1 ((S.2.1 251 j))).trans (((hL167_ 251 rfl).2.1 ((S.2.1 251 j))).trans (uF_a))), lo_, hi_])
                        refine r_imul hx hb dX12_named_303 ?_
                        refine lv_aload_n hx hb dX12_named_304 rfl (lv_at hl 8 rfl) ?_
                        refine g_X12_91 Cx hW (k := 231) (by decide) rfl (v := .ref (G.2.2.1 + 258)) (rd_44 hI219) dX12_named_305 ?_
                        refine lv_iload hx hb dX12_named_308 (lv_at hl 1 rfl) ?_
                        refine rIald Cx hW (k := 258) (by decide) rfl (by decide) (by omega) (by omega) dX12_named_310 ?_
                        refine r_i (b := S167.2.1 258 i) (((hL219_ 258 rfl).2.1 i).trans ((hL213_ 258 rfl).2.1 i)) ?_
                        refine r_iadd hx hb dX12_named_311 ?_
                        refine lv_aload_n hx hb dX12_named_312 rfl (lv_at hl 8 rfl) ?_
                        refine g_X12_65 Cx hW (k := 231) (by decide) rfl (v := .ref (G.2.2.1 + 250)) (rd_28 hI219) dX12_named_313 ?_
                        refine lv_iload hx hb dX12_named_316 (lv_at hl 0 rfl) ?_
                        refine rIald Cx hW (k := 250) (by decide) rfl (by decide) (by omega) (by omega) dX12_named_318 ?_
                        refine r_i (b := S.2.1 250 (S.2.1 251 j)) (((hL219_ 250 rfl).2.1 (S.2.1 251 j)).trans (((hL213_ 250 rfl).2.1 (S.2.1 251 j)).trans (((hL167_ 250 rfl).2.1 (S.2.1 251 j)).trans (uF_a)))) ?_
                        refine r_isub hx hb dX12_named_319 ?_
                        refine lv_istore (lv' := [(7, .int (iv (((plc * r_115) + (S167.2.1 258 i)) - (S.2.1 250 (S.2.1 251 j))))), (9, .int (iv (S.2.1 251 j))), (8, .int (iv i)), (6, .int (iv dm)), (5, .int (iv (S.2.1 249 j))), (4, .int (iv r_11)), (3, .int (iv j)), (2, .int (iv (S.1 231 24))), (0, .ref (G.2.2.1 + 231)), (1, .int (iv ix))]) hx hb dX12_named_320 hl (by decide) rfl (fun ls hl => ?_)
                        refine lv_iinc (v := iv (i + 1)) (lv' := [(8, .int (iv (i + 1))), (7, .int (iv (((plc * r_115) + (S167.2.1 258 i)) - (S.2.1 250 (S.2.1 251 j))))), (9, .int (iv (S.2.1 251 j))), (6, .int (iv dm)), (5, .int (iv (S.2.1 249 j))), (4, .int (iv r_11)), (3, .int (iv j)), (2, .int (iv (S.1 231 24))), (0, .ref (G.2.2.1 + 231)), (1, .int (iv ix))]) hx hb dX12_named_322 hl (k := 2) rfl ((Int32.ofInt_add _ _).symm) (by decide) rfl (fun ls hl => ?_)
                        refine lv_goto (tgt := 219) hx hb dX12_named_325 (by decide) ?_
                        exact ih_219 S219 (i + 1) (((plc * r_115) + (S167.2.1 258 i)) - (S.2.1 250 (S.2.1 251 j))) _ _ _ (by omega) hI219 hFm219 hFL167219 hFL213219 hL219_ hGm219 hGL167219 hGL213219 gL219_ (by omega) (fun h => ⟨(hpl (by omega)).1, .inr (.inr ⟨by omega, (by have z := (hpl (by omega)).2; rcases z with z | z | z; (exfalso; omega); (exact z.2.1); (exfalso; omega)), ⟨by omega, by omega⟩, (by have z := (hpl (by omega)).2; have pz0 : plc = (S167.2.1 258 0) - N.2.2.1 (N.2.2.1 j 3) 1 := (by rcases z with z | z | z; (exfalso; omega); (exact z.2.2); (exfalso; omega)); rw [← pz0, ← hsz]; omega)⟩)⟩) (fun h => absurd (show S219.1 231 20 = 0 by have e9 := (show S219.1 231 20 = S219.1 231 20 from rfl); omega) h) hW hL (lv_sub hl [0, 1, 3, 4, 5, 6, 7, 8, 9] rfl)
                      · refine lv_aload_n hx hb dX12_named_289 rfl (lv_at hl 8 rfl) ?_
                        refine lv_iconst (v := iv 5) hx hb dX12_named_290 (by decide) ?_
                        refine lv_iload_n hx hb dX12_named_291 rfl (lv_at hl 7 rfl) ?_
                        refine sBv (sV (As := [.int (iv 5), .int (iv (S.1 231 24))]) (rest := []) (k := 231) Cx (s_X12_wrong l G S219 (cd := 5) (tk := S.1 231 24) hI219 (by omega) (by omega)) (c_X12_321 Cx rfl rfl (rmk_ok (by omega) (by decide))) hW (by decide) rfl rfl rfl hl.1 rfl (Nat.le_of_ble_eq_true rfl) dX12_named_292 ⟨Nat.le_of_ble_eq_true rfl, Nat.le_of_ble_eq_true rfl⟩) hL (fun u_116 H locs k_117 hW hL => ?_)
                        obtain ⟨iu_116, fu_116, gu_116, xu_116⟩ := k_117
                        have F_118 := hFm219.trans (fu_116.to (pl_sub (by decide)))
                        have F_119 := hFL167219.trans (fu_116.to (pl_sub (by decide)))
                        have F_120 := hFL213219.trans fu_116
                        have F_121 := hL219_.trans fu_116
                        have g_122 : FF S u_116 (fl [20, 21, 24, 43]) := FF.trans hGm219 (FF.to gu_116 (fl_sub (by decide)))
                        have g_123 : FF ((uF S 231 24 ((S.1 231 24) + 1))) u_116 (fl [20, 21, 24, 43]) := FF.trans hGL167219 (FF.to gu_116 (fl_sub (by decide)))
                        have g_124 : FF S167 u_116 (fl [20, 21]) := FF.trans hGL213219 (FF.to gu_116 (fl_sub (by decide)))
                        have g_125 : FF S213 u_116 (fl [20, 21]) := FF.trans gL219_ (FF.to gu_116 (fl_sub (by decide)))
                        refine lv_iload hx hb dX12_named_295 (lv_at hl 2 rfl) ?_
                        refine lv_aload_n hx hb dX12_named_297 rfl (lv_at hl 8 rfl) ?_
                        refine lv_iload hx hb dX12_named_298 (lv_at hl 0 rfl) ?_
                        refine sBi (sV (As := [.int (iv (S.2.1 251 j))]) (rest := [.int (iv plc)]) (k := 231) Cx (s_X12_sizeOf l G u_116 (i := S.2.1 251 j) iu_116 (.inr ⟨by omega, by omega, (by rw [((fu_116 250 rfl).2.1 ((S.2.1 251 j))).trans (((hL219_ 250 rfl).2.1 ((S.2.1 251 j))).trans (((hL213_ 250 rfl).2.1 ((S.2.1 251 j))).trans (((hL167_ 250 rfl).2.1 ((S.2.1 251 j))).trans (uF_a))))]; omega), (by rw [((fu_116 250 rfl).2.1 ((S.2.1 251 j))).trans (((hL219_ 250 rfl).2.1 ((S.2.1 251 j))).trans (((hL213_ 250 rfl).2.1 ((S.2.1 251 j))).trans (((hL167_ 250 rfl).2.1 ((S.2.1 251 j))).trans (uF_a)))), ((fu_116 251 rfl).2.1 ((S.2.1 251 j))).trans (((hL219_ 251 rfl).2.1 ((S.2.1 251 j))).trans (((hL213_ 251 rfl).2.1 ((S.2.1 251 j))).trans (((hL167_ 251 rfl).2.1 ((S.2.1 251 j))).trans (uF_a))))]; omega), (by rw [((fu_116 251 rfl).2.1 ((S.2.1 251 j))).trans (((hL219_ 251 rfl).2.1 ((S.2.1 251 j))).trans (((hL213_ 251 rfl).2.1 ((S.2.1 251 j))).trans (((hL167_ 251 rfl).2.1 ((S.2.1 251 j))).trans (uF_a))))]; omega), (by rw [((fu_116 250 rfl).2.1 ((S.2.1 251 j))).trans (((hL219_ 250 rfl).2.1 ((S.2.1 251 j))).trans (((hL213_ 250 rfl).2.1 ((S.2.1 251 j))).trans (((hL167_ 250 rfl).2.1 ((S.2.1 251 j))).trans (uF_a)))), ((fu_116 251 rfl).2.1 ((S.2.1 251 j))).trans (((hL219_ 251 rfl).2.1 ((S.2.1 251 j))).trans (((hL213_ 251 rfl).2.1 ((S.2.1 251 j))).trans (((hL167_ 251 rfl).2.1 ((S.2.1 251 j))).trans (uF_a))))]; omega)⟩)) (c_X12_410 Cx rfl rfl (rmk_ok (by omega) (by decide))) hW (by decide) rfl rfl rfl hl.1 rfl (Nat.le_of_ble_eq_true rfl) dX12_named_300 ⟨Nat.le_of_ble_eq_true rfl, Nat.le_of_ble_eq_true rfl⟩) hL (fun r_128 u_126 H locs k_127 hW hL => ?_)
                        obtain ⟨eu_126, xu_126⟩ := k_127
                        rw [eu_126] at hW
                        have hsz : r_128 = siz N (N.2.2.1 j 4) := (by rw [xu_126.1]; unfold nSz siz; rw [if_neg (by omega), if_neg (by omega), ((fu_116 250 rfl).2.1 ((S.2.1 251 j))).trans (((hL219_ 250 rfl).2.1 ((S.2.1 251 j))).trans (((hL213_ 250 rfl).2.1 ((S.2.1 251 j))).trans (((hL167_ 250 rfl).2.1 ((S.2.1 251 j))).trans (uF_a)))), ((fu_116 251 rfl).2.1 ((S.2.1 251 j))).trans (((hL219_ 251 rfl).2.1 ((S.2.1 251 j))).trans (((hL213_ 251 rfl).2.1 ((S.2.1 251 j))).trans (((hL167_ 251 rfl).2.1 ((S.2.1 251 j))).trans (uF_a)))), lo_, hi_])
                        refine r_imul hx hb dX12_named_303 ?_
                        refine lv_aload_n hx hb dX12_named_304 rfl (lv_at hl 8 rfl) ?_
                        refine g_X12_91 Cx hW (k := 231) (by decide) rfl (v := .ref (G.2.2.1 + 258)) (rd_44 iu_116) dX12_named_305 ?_
                        refine lv_iload hx hb dX12_named_308 (lv_at hl 1 rfl) ?_
                        refine rIald Cx hW (k := 258) (by decide) rfl (by decide) (by omega) (by omega) dX12_named_310 ?_
                        refine r_i (b := S167.2.1 258 i) (((fu_116 258 rfl).2.1 i).trans (((hL219_ 258 rfl).2.1 i).trans ((hL213_ 258 rfl).2.1 i))) ?_
                        refine r_iadd hx hb dX12_named_311 ?_
                        refine lv_aload_n hx hb dX12_named_312 rfl (lv_at hl 8 rfl) ?_
                        refine g_X12_65 Cx hW (k := 231) (by decide) rfl (v := .ref (G.2.2.1 + 250)) (rd_28 iu_116) dX12_named_313 ?_
                        refine lv_iload hx hb dX12_named_316 (lv_at hl 0 rfl) ?_
                        refine rIald Cx hW (k := 250) (by decide) rfl (by decide) (by omega) (by omega) dX12_named_318 ?_
                        refine r_i (b := S.2.1 250 (S.2.1 251 j)) (((fu_116 250 rfl).2.1 (S.2.1 251 j)).trans (((hL219_ 250 rfl).2.1 (S.2.1 251 j)).trans (((hL213_ 250 rfl).2.1 (S.2.1 251 j)).trans (((hL167_ 250 rfl).2.1 (S.2.1 251 j)).trans (uF_a))))) ?_
                        refine r_isub hx hb dX12_named_319 ?_
                        refine lv_istore (lv' := [(7, .int (iv (((plc * r_128) + (S167.2.1 258 i)) - (S.2.1 250 (S.2.1 251 j))))), (9, .int (iv (S.2.1 251 j))), (8, .int (iv i)), (6, .int (iv dm)), (5, .int (iv (S.2.1 249 j))), (4, .int (iv r_11)), (3, .int (iv j)), (2, .int (iv (S.1 231 24))), (0, .ref (G.2.2.1 + 231)), (1, .int (iv ix))]) hx hb dX12_named_320 hl (by decide) rfl (fun ls hl => ?_)
                        refine lv_iinc (v := iv (i + 1)) (lv' := [(8, .int (iv (i + 1))), (7, .int (iv (((plc * r_128) + (S167.2.1 258 i)) - (S.2.1 250 (S.2.1 251 j))))), (9, .int (iv (S.2.1 251 j))), (6, .int (iv dm)), (5, .int (iv (S.2.1 249 j))), (4, .int (iv r_11)), (3, .int (iv j)), (2, .int (iv (S.1 231 24))), (0, .ref (G.2.2.1 + 231)), (1, .int (iv ix))]) hx hb dX12_named_322 hl (k := 2) rfl ((Int32.ofInt_add _ _).symm) (by decide) rfl (fun ls hl => ?_)
                        refine lv_goto (tgt := 219) hx hb dX12_named_325 (by decide) ?_
                        have q_129 : (-2147483648) ≤ u_116.1 231 20 ∧ u_116.1 231 20 ≤ 2147483647 := iu_116.fi 20
                        exact ih_219 u_116 (i + 1) (((plc * r_128) + (S167.2.1 258 i)) - (S.2.1 250 (S.2.1 251 j))) _ _ _ (by omega) iu_116 F_118 F_119 F_120 F_121 g_122 g_123 g_124 g_125 (by omega) (fun h => absurd h (by have e9 := (show u_116.1 231 20 = u_116.1 231 20 from rfl); have a9 := xu_116; omega)) (fun _ => by rw [hEN, (hpl (by omega)).1]; exact eN3_1 (by omega) (fun z => by have z1 := z.1; have z2 := z.2; omega)) hW hL (lv_sub hl [0, 1, 3, 4, 5, 6, 7, 8, 9] rfl)
                  · refine lv_aload_n hx hb dX12_named_238 rfl (lv_at hl 7 rfl) ?_
                    refine g_X12_65 Cx hW (k := 231) (by decide) rfl (v := .ref (G.2.2.1 + 250)) (rd_28 hI219) dX12_named_239 ?_
                    refine lv_iload_n hx hb dX12_named_242 rfl (lv_at hl 5 rfl) ?_
                    refine rIald Cx hW (k := 250) (by decide) rfl (by decide) (by omega) (by omega) dX12_named_243 ?_
                    have q_130 : (-2147483648) ≤ S.2.1 250 j ∧ S.2.1 250 j ≤ 2147483647 := hI.ai 250 j
                    refine r_i (b := S.2.1 250 j) (((hL219_ 250 rfl).2.1 j).trans (((hL213_ 250 rfl).2.1 j).trans (((hL167_ 250 rfl).2.1 j).trans (uF_a)))) ?_
                    refine lv_goto (tgt := 253) hx hb dX12_named_244 (by decide) ?_
                    refine lv_istore (lv' := [(9, .int (iv (S.2.1 250 j))), (8, .int (iv i)), (7, .int (iv plc)), (6, .int (iv dm)), (5, .int (iv (S.2.1 249 j))), (4, .int (iv r_11)), (3, .int (iv j)), (2, .int (iv (S.1 231 24))), (0, .ref (G.2.2.1 + 231)), (1, .int (iv ix))]) hx hb dX12_named_253 hl (by decide) rfl (fun ls hl => ?_)
                    have es3 : S.2.1 250 j = N.2.2.1 j 3 := n34.1.symm
                    obtain ⟨k1_, k2_, k3_⟩ : 0 ≤ N.2.2.1 j 3 ∧ N.2.2.1 j 3 < N.1 ∧ N.2.2.1 (N.2.2.1 j 3) 0 = 6 := (by rcases s3v with z | z; (exfalso; rcases hwn with y | y | y <;> omega); exact z)
                    have hst := (hNr.2.2 (N.2.2.1 j 3) k1_ k2_).2.1 k3_
                    have hsk := (hK_.2 (N.2.2.1 j 3) k1_ k2_).2.1 k3_
                    have ai : S167.2.1 258 i = S167.2.1 258 0 := congrArg _ (by omega)
                    have lo_ : S.2.1 250 (S.2.1 250 j) = N.2.2.1 (N.2.2.1 j 3) 1 := (by rw [es3]; exact hst.1.symm)
                    have hi_ : S.2.1 251 (S.2.1 250 j) = N.2.2.1 (N.2.2.1 j 3) 2 := (by rw [es3]; exact hst.2.symm)
                    refine lv_aload_n hx hb dX12_named_255 rfl (lv_at hl 8 rfl) ?_
                    refine g_X12_91 Cx hW (k := 231) (by decide) rfl (v := .ref (G.2.2.1 + 258)) (rd_44 hI219) dX12_named_256 ?_
                    refine lv_iload hx hb dX12_named_259 (lv_at hl 1 rfl) ?_
                    refine rIald Cx hW (k := 258) (by decide) rfl (by decide) (by omega) (by omega) dX12_named_261 ?_
                    have q_131 : (-2147483648) ≤ S167.2.1 258 i ∧ S167.2.1 258 i ≤ 2147483647 := hI167.ai 258 i
                    refine r_i (b := S167.2.1 258 i) (((hL219_ 258 rfl).2.1 i).trans ((hL213_ 258 rfl).2.1 i)) ?_
                    refine lv_aload_n hx hb dX12_named_262 rfl (lv_at hl 8 rfl) ?_
                    refine g_X12_65 Cx hW (k := 231) (by decide) rfl (v := .ref (G.2.2.1 + 250)) (rd_28 hI219) dX12_named_263 ?_
                    refine lv_iload hx hb dX12_named_266 (lv_at hl 0 rfl) ?_
                    refine rIald Cx hW (k := 250) (by decide) rfl (by decide) (by omega) (by omega) dX12_named_268 ?_
                    have q_132 : (-2147483648) ≤ S.2.1 250 (S.2.1 250 j) ∧ S.2.1 250 (S.2.1 250 j) ≤ 2147483647 := hI.ai 250 (S.2.1 250 j)
                    refine r_i (b := S.2.1 250 (S.2.1 250 j)) (((hL219_ 250 rfl).2.1 (S.2.1 250 j)).trans (((hL213_ 250 rfl).2.1 (S.2.1 250 j)).trans (((hL167_ 250 rfl).2.1 (S.2.1 250 j)).trans (uF_a)))) ?_
                    refine r_icmp_lt (tgt := 289) hx hb ⟨(by omega), (by omega)⟩ ⟨(by omega), (by omega)⟩ dX12_named_269 (by decide) (fun c_133 => ?_) (fun c_133 => ?_)
                    · refine lv_aload_n hx hb dX12_named_289 rfl (lv_at hl 8 rfl) ?_
                      refine lv_iconst (v := iv 5) hx hb dX12_named_290 (by decide) ?_
                      refine lv_iload_n hx hb dX12_named_291 rfl (lv_at hl 7 rfl) ?_
                      refine sBv (sV (As := [.int (iv 5), .int (iv (S.1 231 24))]) (rest := []) (k := 231) Cx (s_X12_wrong l G S219 (cd := 5) (tk := S.1 231 24) hI219 (by omega) (by omega)) (c_X12_321 Cx rfl rfl (rmk_ok (by omega) (by decide))) hW (by decide) rfl rfl rfl hl.1 rfl (Nat.le_of_ble_eq_true rfl) dX12_named_292 ⟨Nat.le_of_ble_eq_true rfl, Nat.le_of_ble_eq_true rfl⟩) hL (fun u_134 H locs k_135 hW hL => ?_)
                      obtain ⟨iu_134, fu_134, gu_134, xu_134⟩ := k_135
                      have F_136 := hFm219.trans (fu_134.to (pl_sub (by decide)))
                      have F_137 := hFL167219.trans (fu_134.to (pl_sub (by decide)))
                      have F_138 := hFL213219.trans fu_134
                      have F_139 := hL219_.trans fu_134
                      have g_140 : FF S u_134 (fl [20, 21, 24, 43]) := FF.trans hGm219 (FF.to gu_134 (fl_sub (by decide)))
                      have g_141 : FF ((uF S 231 24 ((S.1 231 24) + 1))) u_134 (fl [20, 21, 24, 43]) := FF.trans hGL167219 (FF.to gu_134 (fl_sub (by decide)))
                      have g_142 : FF S167 u_134 (fl [20, 21]) := FF.trans hGL213219 (FF.to gu_134 (fl_sub (by decide)))
                      have g_143 : FF S213 u_134 (fl [20, 21]) := FF.trans gL219_ (FF.to gu_134 (fl_sub (by decide)))
                      refine lv_iload hx hb dX12_named_295 (lv_at hl 2 rfl) ?_
                      refine lv_aload_n hx hb dX12_named_297 rfl (lv_at hl 8 rfl) ?_
                      refine lv_iload hx hb dX12_named_298 (lv_at hl 0 rfl) ?_
                      refine sBi (sV (As := [.int (iv (S.2.1 250 j))]) (rest := [.int (iv plc)]) (k := 231) Cx (s_X12_sizeOf l G u_134 (i := S.2.1 250 j) iu_134 (.inr ⟨by omega, by omega, (by rw [((fu_134 250 rfl).2.1 ((S.2.1 250 j))).trans (((hL219_ 250 rfl).2.1 ((S.2.1 250 j))).trans (((hL213_ 250 rfl).2.1 ((S.2.1 250 j))).trans (((hL167_ 250 rfl).2.1 ((S.2.1 250 j))).trans (uF_a))))]; omega), (by rw [((fu_134 250 rfl).2.1 ((S.2.1 250 j))).trans (((hL219_ 250 rfl).2.1 ((S.2.1 250 j))).trans (((hL213_ 250 rfl).2.1 ((S.2.1 250 j))).trans (((hL167_ 250 rfl).2.1 ((S.2.1 250 j))).trans (uF_a)))), ((fu_134 251 rfl).2.1 ((S.2.1 250 j))).trans (((hL219_ 251 rfl).2.1 ((S.2.1 250 j))).trans (((hL213_ 251 rfl).2.1 ((S.2.1 250 j))).trans (((hL167_ 251 rfl).2.1 ((S.2.1 250 j))).trans (uF_a))))]; omega), (by rw [((fu_134 251 rfl).2.1 ((S.2.1 250 j))).trans (((hL219_ 251 rfl).2.1 ((S.2.1 250 j))).trans (((hL213_ 251 rfl).2.1 ((S.2.1 250 j))).trans (((hL167_ 251 rfl).2.1 ((S.2.1 250 j))).trans (uF_a))))]; omega), (by rw [((fu_134 250 rfl).2.1 ((S.2.1 250 j))).trans (((hL219_ 250 rfl).2.1 ((S.2.1 250 j))).trans (((hL213_ 250 rfl).2.1 ((S.2.1 250 j))).trans (((hL167_ 250 rfl).2.1 ((S.2.1 250 j))).trans (uF_a)))), ((fu_134 251 rfl).2.1 ((S.2.1 250 j))).trans (((hL219_ 251 rfl).2.1 ((S.2.1 250 j))).trans (((hL213_ 251 rfl).2.1 ((S.2.1 250 j))).trans (((hL167_ 251 rfl).2.1 ((S.2.1 250 j))).trans (uF_a))))]; omega)⟩)) (c_X12_410 Cx rfl rfl (rmk_ok (by omega) (by decide))) hW (by decide) rfl rfl rfl hl.1 rfl (Nat.le_of_ble_eq_true rfl) dX12_named_300 ⟨Nat.le_of_ble_eq_true rfl, Nat.le_of_ble_eq_true rfl⟩) hL (fun r_146 u_144 H locs k_145 hW hL => ?_)
                      obtain ⟨eu_144, xu_144⟩ := k_145
                      rw [eu_144] at hW
                      have hsz : r_146 = siz N (N.2.2.1 j 3) := (by rw [xu_144.1]; unfold nSz siz; rw [if_neg (by omega), if_neg (by omega), ((fu_134 250 rfl).2.1 ((S.2.1 250 j))).trans (((hL219_ 250 rfl).2.1 ((S.2.1 250 j))).trans (((hL213_ 250 rfl).2.1 ((S.2.1 250 j))).trans (((hL167_ 250 rfl).2.1 ((S.2.1 250 j))).trans (uF_a)))), ((fu_134 251 rfl).2.1 ((S.2.1 250 j))).trans (((hL219_ 251 rfl).2.1 ((S.2.1 250 j))).trans (((hL213_ 251 rfl).2.1 ((S.2.1 250 j))).trans (((hL167_ 251 rfl).2.1 ((S.2.1 250 j))).trans (uF_a)))), lo_, hi_])
                      refine r_imul hx hb dX12_named_303 ?_
                      refine lv_aload_n hx hb dX12_named_304 rfl (lv_at hl 8 rfl) ?_
                      refine g_X12_91 Cx hW (k := 231) (by decide) rfl (v := .ref (G.2.2.1 + 258)) (rd_44 iu_134) dX12_named_305 ?_
                      refine lv_iload hx hb dX12_named_308 (lv_at hl 1 rfl) ?_
                      refine rIald Cx hW (k := 258) (by decide) rfl (by decide) (by omega) (by omega) dX12_named_310 ?_
                      refine r_i (b := S167.2.1 258 i) (((fu_134 258 rfl).2.1 i).trans (((hL219_ 258 rfl).2.1 i).trans ((hL213_ 258 rfl).2.1 i))) ?_
                      refine r_iadd hx hb dX12_named_311 ?_
                      refine lv_aload_n hx hb dX12_named_312 rfl (lv_at hl 8 rfl) ?_
                      refine g_X12_65 Cx hW (k := 231) (by decide) rfl (v := .ref (G.2.2.1 + 250)) (rd_28 iu_134) dX12_named_313 ?_
                      refine lv_iload hx hb dX12_named_316 (lv_at hl 0 rfl) ?_
                      refine rIald Cx hW (k := 250) (by decide) rfl (by decide) (by omega) (by omega) dX12_named_318 ?_
                      refine r_i (b := S.2.1 250 (S.2.1 250 j)) (((fu_134 250 rfl).2.1 (S.2.1 250 j)).trans (((hL219_ 250 rfl).2.1 (S.2.1 250 j)).trans (((hL213_ 250 rfl).2.1 (S.2.1 250 j)).trans (((hL167_ 250 rfl).2.1 (S.2.1 250 j)).trans (uF_a))))) ?_
                      refine r_isub hx hb dX12_named_319 ?_
                      refine lv_istore (lv' := [(7, .int (iv (((plc * r_146) + (S167.2.1 258 i)) - (S.2.1 250 (S.2.1 250 j))))), (9, .int (iv (S.2.1 250 j))), (8, .int (iv i)), (6, .int (iv dm)), (5, .int (iv (S.2.1 249 j))), (4, .int (iv r_11)), (3, .int (iv j)), (2, .int (iv (S.1 231 24))), (0, .ref (G.2.2.1 + 231)), (1, .int (iv ix))]) hx hb dX12_named_320 hl (by decide) rfl (fun ls hl => ?_)
                      refine lv_iinc (v := iv (i + 1)) (lv' := [(8, .int (iv (i + 1))), (7, .int (iv (((plc * r_146) + (S167.2.1 258 i)) - (S.2.1 250 (S.2.1 250 j))))), (9, .int (iv (S.2.1 250 j))), (6, .int (iv dm)), (5, .int (iv (S.2.1 249 j))), (4, .int (iv r_11)), (3, .int (iv j)), (2, .int (iv (S.1 231 24))), (0, .ref (G.2.2.1 + 231)), (1, .int (iv ix))]) hx hb dX12_named_322 hl (k := 2) rfl ((Int32.ofInt_add _ _).symm) (by decide) rfl (fun ls hl => ?_)
                      refine lv_goto (tgt := 219) hx hb dX12_named_325 (by decide) ?_
                      have q_147 : (-2147483648) ≤ u_134.1 231 20 ∧ u_134.1 231 20 ≤ 2147483647 := iu_134.fi 20
                      exact ih_219 u_134 (i + 1) (((plc * r_146) + (S167.2.1 258 i)) - (S.2.1 250 (S.2.1 250 j))) _ _ _ (by omega) iu_134 F_136 F_137 F_138 F_139 g_140 g_141 g_142 g_143 (by omega) (fun h => absurd h (by have e9 := (show u_134.1 231 20 = u_134.1 231 20 from rfl); have a9 := xu_134; omega)) (fun _ => by rw [hEN, (hpl (by omega)).1]; exact eN3_0 hwn (by omega) (fun z => by have z1 := z.1; have z2 := z.2; omega)) hW hL (lv_sub hl [0, 1, 3, 4, 5, 6, 7, 8, 9] rfl)
                    · refine lv_aload_n hx hb dX12_named_272 rfl (lv_at hl 8 rfl) ?_
                      refine g_X12_91 Cx hW (k := 231) (by decide) rfl (v := .ref (G.2.2.1 + 258)) (rd_44 hI219) dX12_named_273 ?_
                      refine lv_iload hx hb dX12_named_276 (lv_at hl 1 rfl) ?_
                      refine rIald Cx hW (k := 258) (by decide) rfl (by decide) (by omega) (by omega) dX12_named_278 ?_
                      refine r_i (b := S167.2.1 258 i) (((hL219_ 258 rfl).2.1 i).trans ((hL213_ 258 rfl).2.1 i)) ?_
                      refine lv_aload_n hx hb dX12_named_279 rfl (lv_at hl 8 rfl) ?_
                      refine g_X12_68 Cx hW (k := 231) (by decide) rfl (v := .ref (G.2.2.1 + 251)) (rd_29 hI219) dX12_named_280 ?_
                      refine lv_iload hx hb dX12_named_283 (lv_at hl 0 rfl) ?_
                      refine rIald Cx hW (k := 251) (by decide) rfl (by decide) (by omega) (by omega) dX12_named_285 ?_
                      have q_148 : (-2147483648) ≤ S.2.1 251 (S.2.1 250 j) ∧ S.2.1 251 (S.2.1 250 j) ≤ 2147483647 := hI.ai 251 (S.2.1 250 j)
                      refine r_i (b := S.2.1 251 (S.2.1 250 j)) (((hL219_ 251 rfl).2.1 (S.2.1 250 j)).trans (((hL213_ 251 rfl).2.1 (S.2.1 250 j)).trans (((hL167_ 251 rfl).2.1 (S.2.1 250 j)).trans (uF_a)))) ?_
                      refine r_icmp_le (tgt := 295) hx hb ⟨(by omega), (by omega)⟩ ⟨(by omega), (by omega)⟩ dX12_named_286 (by decide) (fun c_149 => ?_) (fun c_149 => ?_)
                      · refine lv_iload hx hb dX12_named_295 (lv_at hl 2 rfl) ?_
                        refine lv_aload_n hx hb dX12_named_297 rfl (lv_at hl 8 rfl) ?_
                        refine lv_iload hx hb dX12_named_298 (lv_at hl 0 rfl) ?_
                        refine sBi (sV (As := [.int (iv (S.2.1 250 j))]) (rest := [.int (iv plc)]) (k := 231) Cx (s_X12_sizeOf l G S219 (i := S.2.1 250 j) hI219 (.inr ⟨by omega, by omega, (by rw [((hL219_ 250 rfl).2.1 ((S.2.1 250 j))).trans (((hL213_ 250 rfl).2.1 ((S.2.1 250 j))).trans (((hL167_ 250 rfl).2.1 ((S.2.1 250 j))).trans (uF_a)))]; omega), (by rw [((hL219_ 250 rfl).2.1 ((S.2.1 250 j))).trans (((hL213_ 250 rfl).2.1 ((S.2.1 250 j))).trans (((hL167_ 250 rfl).2.1 ((S.2.1 250 j))).trans (uF_a))), ((hL219_ 251 rfl).2.1 ((S.2.1 250 j))).trans (((hL213_ 251 rfl).2.1 ((S.2.1 250 j))).trans (((hL167_ 251 rfl).2.1 ((S.2.1 250 j))).trans (uF_a)))]; omega), (by rw [((hL219_ 251 rfl).2.1 ((S.2.1 250 j))).trans (((hL213_ 251 rfl).2.1 ((S.2.1 250 j))).trans (((hL167_ 251 rfl).2.1 ((S.2.1 250 j))).trans (uF_a)))]; omega), (by rw [((hL219_ 250 rfl).2.1 ((S.2.1 250 j))).trans (((hL213_ 250 rfl).2.1 ((S.2.1 250 j))).trans (((hL167_ 250 rfl).2.1 ((S.2.1 250 j))).trans (uF_a))), ((hL219_ 251 rfl).2.1 ((S.2.1 250 j))).trans (((hL213_ 251 rfl).2.1 ((S.2.1 250 j))).trans (((hL167_ 251 rfl).2.1 ((S.2.1 250 j))).trans (uF_a)))]; omega)⟩)) (c_X12_410 Cx rfl rfl (rmk_ok (by omega) (by decide))) hW (by decide) rfl rfl rfl hl.1 rfl (Nat.le_of_ble_eq_true rfl) dX12_named_300 ⟨Nat.le_of_ble_eq_true rfl, Nat.le_of_ble_eq_true rfl⟩) hL (fun r_152 u_150 H locs k_151 hW hL => ?_)
                        obtain ⟨eu_150, xu_150⟩ := k_151
                        rw [eu_150] at hW
                        have hsz : r_152 = siz N (N.2.2.1 j 3) := (by rw [xu_150.1]; unfold nSz siz; rw [if_neg (by omega), if_neg (by omega), ((hL219_ 250 rfl).2.1 ((S.2.1 250 j))).trans (((hL213_ 250 rfl).2.1 ((S.2.1 250 j))).trans (((hL167_ 250 rfl).2.1 ((S.2.1 250 j))).trans (uF_a))), ((hL219_ 251 rfl).2.1 ((S.2.1 250 j))).trans (((hL213_ 251 rfl).2.1 ((S.2.1 250 j))).trans (((hL167_ 251 rfl).2.1 ((S.2.1 250 j))).trans (uF_a))), lo_, hi_])
                        refine r_imul hx hb dX12_named_303 ?_
                        refine lv_aload_n hx hb dX12_named_304 rfl (lv_at hl 8 rfl) ?_
                        refine g_X12_91 Cx hW (k := 231) (by decide) rfl (v := .ref (G.2.2.1 + 258)) (rd_44 hI219) dX12_named_305 ?_
                        refine lv_iload hx hb dX12_named_308 (lv_at hl 1 rfl) ?_
                        refine rIald Cx hW (k := 258) (by decide) rfl (by decide) (by omega) (by omega) dX12_named_310 ?_
                        refine r_i (b := S167.2.1 258 i) (((hL219_ 258 rfl).2.1 i).trans ((hL213_ 258 rfl).2.1 i)) ?_
                        refine r_iadd hx hb dX12_named_311 ?_
                        refine lv_aload_n hx hb dX12_named_312 rfl (lv_at hl 8 rfl) ?_
                        refine g_X12_65 Cx hW (k := 231) (by decide) rfl (v := .ref (G.2.2.1 + 250)) (rd_28 hI219) dX12_named_313 ?_
                        refine lv_iload hx hb dX12_named_316 (lv_at hl 0 rfl) ?_
                        refine rIald Cx hW (k := 250) (by decide) rfl (by decide) (by omega) (by omega) dX12_named_318 ?_
                        refine r_i (b := S.2.1 250 (S.2.1 250 j)) (((hL219_ 250 rfl).2.1 (S.2.1 250 j)).trans (((hL213_ 250 rfl).2.1 (S.2.1 250 j)).trans (((hL167_ 250 rfl).2.1 (S.2.1 250 j)).trans (uF_a)))) ?_
                        refine r_isub hx hb dX12_named_319 ?_
                        refine lv_istore (lv' := [(7, .int (iv (((plc * r_152) + (S167.2.1 258 i)) - (S.2.1 250 (S.2.1 250 j))))), (9, .int (iv (S.2.1 250 j))), (8, .int (iv i)), (6, .int (iv dm)), (5, .int (iv (S.2.1 249 j))), (4, .int (iv r_11)), (3, .int (iv j)), (2, .int (iv (S.1 231 24))), (0, .ref (G.2.2.1 + 231)), (1, .int (iv ix))]) hx hb dX12_named_320 hl (by decide) rfl (fun ls hl => ?_)
                        refine lv_iinc (v := iv (i + 1)) (lv' := [(8, .int (iv (i + 1))), (7, .int (iv (((plc * r_152) + (S167.2.1 258 i)) - (S.2.1 250 (S.2.1 250 j))))), (9, .int (iv (S.2.1 250 j))), (6, .int (iv dm)), (5, .int (iv (S.2.1 249 j))), (4, .int (iv r_11)), (3, .int (iv j)), (2, .int (iv (S.1 231 24))), (0, .ref (G.2.2.1 + 231)), (1, .int (iv ix))]) hx hb dX12_named_322 hl (k := 2) rfl ((Int32.ofInt_add _ _).symm) (by decide) rfl (fun ls hl => ?_)
                        refine lv_goto (tgt := 219) hx hb dX12_named_325 (by decide) ?_
                        exact ih_219 S219 (i + 1) (((plc * r_152) + (S167.2.1 258 i)) - (S.2.1 250 (S.2.1 250 j))) _ _ _ (by omega) hI219 hFm219 hFL167219 hFL213219 hL219_ hGm219 hGL167219 hGL213219 gL219_ (by omega) (fun h => ⟨(hpl (by omega)).1, .inr (.inl ⟨by omega, ⟨by omega, by omega⟩, (by have z := (hpl (by omega)).2; have pz0 : plc = 0 := (by rcases z with z | z | z <;> omega); rw [pz0, Int.zero_mul]; omega)⟩)⟩) (fun h => absurd (show S219.1 231 20 = 0 by have e9 := (show S219.1 231 20 = S219.1 231 20 from rfl); omega) h) hW hL (lv_sub hl [0, 1, 3, 4, 5, 6, 7, 8, 9] rfl)
                      · refine lv_aload_n hx hb dX12_named_289 rfl (lv_at hl 8 rfl) ?_
                        refine lv_iconst (v := iv 5) hx hb dX12_named_290 (by decide) ?_
                        refine lv_iload_n hx hb dX12_named_291 rfl (lv_at hl 7 rfl) ?_
                        refine sBv (sV (As := [.int (iv 5), .int (iv (S.1 231 24))]) (rest := []) (k := 231) Cx (s_X12_wrong l G S219 (cd := 5) (tk := S.1 231 24) hI219 (by omega) (by omega)) (c_X12_321 Cx rfl rfl (rmk_ok (by omega) (by decide))) hW (by decide) rfl rfl rfl hl.1 rfl (Nat.le_of_ble_eq_true rfl) dX12_named_292 ⟨Nat.le_of_ble_eq_true rfl, Nat.le_of_ble_eq_true rfl⟩) hL (fun u_153 H locs k_154 hW hL => ?_)
                        obtain ⟨iu_153, fu_153, gu_153, xu_153⟩ := k_154
                        have F_155 := hFm219.trans (fu_153.to (pl_sub (by decide)))
                        have F_156 := hFL167219.trans (fu_153.to (pl_sub (by decide)))
                        have F_157 := hFL213219.trans fu_153
                        have F_158 := hL219_.trans fu_153
                        have g_159 : FF S u_153 (fl [20, 21, 24, 43]) := FF.trans hGm219 (FF.to gu_153 (fl_sub (by decide)))
                        have g_160 : FF ((uF S 231 24 ((S.1 231 24) + 1))) u_153 (fl [20, 21, 24, 43]) := FF.trans hGL167219 (FF.to gu_153 (fl_sub (by decide)))
                        have g_161 : FF S167 u_153 (fl [20, 21]) := FF.trans hGL213219 (FF.to gu_153 (fl_sub (by decide)))
                        have g_162 : FF S213 u_153 (fl [20, 21]) := FF.trans gL219_ (FF.to gu_153 (fl_sub (by decide)))
                        refine lv_iload hx hb dX12_named_295 (lv_at hl 2 rfl) ?_
                        refine lv_aload_n hx hb dX12_named_297 rfl (lv_at hl 8 rfl) ?_
                        refine lv_iload hx hb dX12_named_298 (lv_at hl 0 rfl) ?_
                        refine sBi (sV (As := [.int (iv (S.2.1 250 j))]) (rest := [.int (iv plc)]) (k := 231) Cx (s_X12_sizeOf l G u_153 (i := S.2.1 250 j) iu_153 (.inr ⟨by omega, by omega, (by rw [((fu_153 250 rfl).2.1 ((S.2.1 250 j))).trans (((hL219_ 250 rfl).2.1 ((S.2.1 250 j))).trans (((hL213_ 250 rfl).2.1 ((S.2.1 250 j))).trans (((hL167_ 250 rfl).2.1 ((S.2.1 250 j))).trans (uF_a))))]; omega), (by rw [((fu_153 250 rfl).2.1 ((S.2.1 250 j))).trans (((hL219_ 250 rfl).2.1 ((S.2.1 250 j))).trans (((hL213_ 250 rfl).2.1 ((S.2.1 250 j))).trans (((hL167_ 250 rfl).2.1 ((S.2.1 250 j))).trans (uF_a)))), ((fu_153 251 rfl).2.1 ((S.2.1 250 j))).trans (((hL219_ 251 rfl).2.1 ((S.2.1 250 j))).trans (((hL213_ 251 rfl).2.1 ((S.2.1 250 j))).trans (((hL167_ 251 rfl).2.1 ((S.2.1 250 j))).trans (uF_a))))]; omega), (by rw [((fu_153 251 rfl).2.1 ((S.2.1 250 j))).trans (((hL219_ 251 rfl).2.1 ((S.2.1 250 j))).trans (((hL213_ 251 rfl).2.1 ((S.2.1 250 j))).trans (((hL167_ 251 rfl).2.1 ((S.2.1 250 j))).trans (uF_a))))]; omega), (by rw [((fu_153 250 rfl).2.1 ((S.2.1 250 j))).trans (((hL219_ 250 rfl).2.1 ((S.2.1 250 j))).trans (((hL213_ 250 rfl).2.1 ((S.2.1 250 j))).trans (((hL167_ 250 rfl).2.1 ((S.2.1 250 j))).trans (uF_a)))), ((fu_153 251 rfl).2.1 ((S.2.1 250 j))).trans (((hL219_ 251 rfl).2.1 ((S.2.1 250 j))).trans (((hL213_ 251 rfl).2.1 ((S.2.1 250 j))).trans (((hL167_ 251 rfl).2.1 ((S.2.1 250 j))).trans (uF_a))))]; omega)⟩)) (c_X12_410 Cx rfl rfl (rmk_ok (by omega) (by decide))) hW (by decide) rfl rfl rfl hl.1 rfl (Nat.le_of_ble_eq_true rfl) dX12_named_300 ⟨Nat.le_of_ble_eq_true rfl, Nat.le_of_ble_eq_true rfl⟩) hL (fun r_165 u_163 H locs k_164 hW hL => ?_)
                        obtain ⟨eu_163, xu_163⟩ := k_164
                        rw [eu_163] at hW
                        have hsz : r_165 = siz N (N.2.2.1 j 3) := (by rw [xu_163.1]; unfold nSz siz; rw [if_neg (by omega), if_neg (by omega), ((fu_153 250 rfl).2.1 ((S.2.1 250 j))).trans (((hL219_ 250 rfl).2.1 ((S.2.1 250 j))).trans (((hL213_ 250 rfl).2.1 ((S.2.1 250 j))).trans (((hL167_ 250 rfl).2.1 ((S.2.1 250 j))).trans (uF_a)))), ((fu_153 251 rfl).2.1 ((S.2.1 250 j))).trans (((hL219_ 251 rfl).2.1 ((S.2.1 250 j))).trans (((hL213_ 251 rfl).2.1 ((S.2.1 250 j))).trans (((hL167_ 251 rfl).2.1 ((S.2.1 250 j))).trans (uF_a)))), lo_, hi_])
                        refine r_imul hx hb dX12_named_303 ?_
                        refine lv_aload_n hx hb dX12_named_304 rfl (lv_at hl 8 rfl) ?_
                        refine g_X12_91 Cx hW (k := 231) (by decide) rfl (v := .ref (G.2.2.1 + 258)) (rd_44 iu_153) dX12_named_305 ?_
                        refine lv_iload hx hb dX12_named_308 (lv_at hl 1 rfl) ?_
                        refine rIald Cx hW (k := 258) (by decide) rfl (by decide) (by omega) (by omega) dX12_named_310 ?_
                        refine r_i (b := S167.2.1 258 i) (((fu_153 258 rfl).2.1 i).trans (((hL219_ 258 rfl).2.1 i).trans ((hL213_ 258 rfl).2.1 i))) ?_
                        refine r_iadd hx hb dX12_named_311 ?_
                        refine lv_aload_n hx hb dX12_named_312 rfl (lv_at hl 8 rfl) ?_
                        refine g_X12_65 Cx hW (k := 231) (by decide) rfl (v := .ref (G.2.2.1 + 250)) (rd_28 iu_153) dX12_named_313 ?_
                        refine lv_iload hx hb dX12_named_316 (lv_at hl 0 rfl) ?_
                        refine rIald Cx hW (k := 250) (by decide) rfl (by decide) (by omega) (by omega) dX12_named_318 ?_
                        refine r_i (b := S.2.1 250 (S.2.1 250 j)) (((fu_153 250 rfl).2.1 (S.2.1 250 j)).trans (((hL219_ 250 rfl).2.1 (S.2.1 250 j)).trans (((hL213_ 250 rfl).2.1 (S.2.1 250 j)).trans (((hL167_ 250 rfl).2.1 (S.2.1 250 j)).trans (uF_a))))) ?_
                        refine r_isub hx hb dX12_named_319 ?_
                        refine lv_istore (lv' := [(7, .int (iv (((plc * r_165) + (S167.2.1 258 i)) - (S.2.1 250 (S.2.1 250 j))))), (9, .int (iv (S.2.1 250 j))), (8, .int (iv i)), (6, .int (iv dm)), (5, .int (iv (S.2.1 249 j))), (4, .int (iv r_11)), (3, .int (iv j)), (2, .int (iv (S.1 231 24))), (0, .ref (G.2.2.1 + 231)), (1, .int (iv ix))]) hx hb dX12_named_320 hl (by decide) rfl (fun ls hl => ?_)
                        refine lv_iinc (v := iv (i + 1)) (lv' := [(8, .int (iv (i + 1))), (7, .int (iv (((plc * r_165) + (S167.2.1 258 i)) - (S.2.1 250 (S.2.1 250 j))))), (9, .int (iv (S.2.1 250 j))), (6, .int (iv dm)), (5, .int (iv (S.2.1 249 j))), (4, .int (iv r_11)), (3, .int (iv j)), (2, .int (iv (S.1 231 24))), (0, .ref (G.2.2.1 + 231)), (1, .int (iv ix))]) hx hb dX12_named_322 hl (k := 2) rfl ((Int32.ofInt_add _ _).symm) (by decide) rfl (fun ls hl => ?_)
                        refine lv_goto (tgt := 219) hx hb dX12_named_325 (by decide) ?_
                        have q_166 : (-2147483648) ≤ u_153.1 231 20 ∧ u_153.1 231 20 ≤ 2147483647 := iu_153.fi 20
                        exact ih_219 u_153 (i + 1) (((plc * r_165) + (S167.2.1 258 i)) - (S.2.1 250 (S.2.1 250 j))) _ _ _ (by omega) iu_153 F_155 F_156 F_157 F_158 g_159 g_160 g_161 g_162 (by omega) (fun h => absurd h (by have e9 := (show u_153.1 231 20 = u_153.1 231 20 from rfl); have a9 := xu_153; omega)) (fun _ => by rw [hEN, (hpl (by omega)).1]; exact eN3_0 hwn (by omega) (fun z => by have z1 := z.1; have z2 := z.2; omega)) hW hL (lv_sub hl [0, 1, 3, 4, 5, 6, 7, 8, 9] rfl)
          have q_167 : (-2147483648) ≤ S213.1 231 20 ∧ S213.1 231 20 ≤ 2147483647 := hI213.fi 20
          exact loop_219 (_ + 1) S213 0 0 _ _ _ (Nat.lt_succ_self _) hI213 hFm213 hFL167213 hL213_ Fr.rf hGm213 hGL167213 gL213_ FF.rf (by omega) (fun h => ⟨h213 h, .inl ⟨rfl, rfl⟩⟩) h213n hW hL (lv_sub hl [0, 1, 2, 3, 4, 5, 6, 7, 8] rfl)
        refine lv_aload_n hx hb dX12_named_198 rfl (lv_at hl 5 rfl) ?_
        have q_168 : (-2147483648) ≤ S167.1 231 43 ∧ S167.1 231 43 ≤ 2147483647 := hI167.fi 43
        refine g_X12_441 Cx hW (k := 231) (by decide) rfl (v := S167.1 231 43) rfl dX12_named_199 ?_
        refine lv_iload hx hb dX12_named_202 (lv_at hl 0 rfl) ?_
        refine r_icmp_eq (tgt := 213) hx hb ⟨(by omega), (by omega)⟩ ⟨(by omega), (by omega)⟩ dX12_named_204 (by decide) (fun c_169 => ?_) (fun c_169 => ?_)
        · have q_170 : (-2147483648) ≤ S167.1 231 20 ∧ S167.1 231 20 ≤ 2147483647 := hI167.fi 20
          exact join_213 S167  _ _ _ hI167 hFm167 hL167_ (Fr.rf : Fr S167 S167 (pl [231])) hGm167 gL167_ (FF.rf : FF S167 S167 (fl [20, 21])) (fun _ => by omega) (fun h => absurd (show S167.1 231 20 = 0 by have e9 := (show S167.1 231 20 = S167.1 231 20 from rfl); omega) h) hW hL (lv_sub hl [0, 1, 2, 3, 4, 5, 6] rfl)
        · refine lv_aload_n hx hb dX12_named_207 rfl (lv_at hl 5 rfl) ?_
          refine lv_iconst (v := iv 2) hx hb dX12_named_208 (by decide) ?_
          refine lv_iload_n hx hb dX12_named_209 rfl (lv_at hl 4 rfl) ?_
          refine sBv (sV (As := [.int (iv 2), .int (iv (S.1 231 24))]) (rest := []) (k := 231) Cx (s_X12_wrong l G S167 (cd := 2) (tk := S.1 231 24) hI167 (by omega) (by omega)) (c_X12_321 Cx rfl rfl (rmk_ok (by omega) (by decide))) hW (by decide) rfl rfl rfl hl.1 rfl (Nat.le_of_ble_eq_true rfl) dX12_named_210 ⟨Nat.le_of_ble_eq_true rfl, Nat.le_of_ble_eq_true rfl⟩) hL (fun u_171 H locs k_172 hW hL => ?_)
          obtain ⟨iu_171, fu_171, gu_171, xu_171⟩ := k_172
          have F_173 := hFm167.trans (fu_171.to (pl_sub (by decide)))
          have F_174 := hL167_.trans (fu_171.to (pl_sub (by decide)))
          have F_175 := (Fr.rf : Fr S167 S167 (pl [231])).trans fu_171
          have g_176 : FF S u_171 (fl [20, 21, 24, 43]) := FF.trans hGm167 (FF.to gu_171 (fl_sub (by decide)))
          have g_177 : FF ((uF S 231 24 ((S.1 231 24) + 1))) u_171 (fl [20, 21, 24, 43]) := FF.trans gL167_ (FF.to gu_171 (fl_sub (by decide)))
          have g_178 : FF S167 u_171 (fl [20, 21]) := FF.trans (FF.rf : FF S167 S167 (fl [20, 21])) (FF.to gu_171 (fl_sub (by decide)))
          have q_179 : (-2147483648) ≤ u_171.1 231 20 ∧ u_171.1 231 20 ≤ 2147483647 := iu_171.fi 20
          exact join_213 u_171  _ _ _ iu_171 F_173 F_174 F_175 g_176 g_177 g_178 (fun h => absurd h (by have e9 := (show u_171.1 231 20 = u_171.1 231 20 from rfl); have a9 := xu_171; omega)) (fun _ => by rw [hEN]; exact eN3_w hwn (by omega) (by omega)) hW hL (lv_sub hl [0, 1, 2, 3, 4, 5, 6] rfl)
      refine lv_aload_n hx hb dX12_named_167 rfl (lv_at hl 4 rfl) ?_
      refine g_X12_68 Cx hW (k := 231) (by decide) rfl (v := .ref (G.2.2.1 + 251)) (rd_29 hI167) dX12_named_168 ?_
      refine lv_iload_n hx hb dX12_named_171 rfl (lv_at hl 2 rfl) ?_
      refine rIald Cx hW (k := 251) (by decide) rfl (by decide) (by omega) (by omega) dX12_named_172 ?_
      have q_180 : (-2147483648) ≤ S.2.1 251 j ∧ S.2.1 251 j ≤ 2147483647 := hI.ai 251 j
      refine r_i (b := S.2.1 251 j) (((hL167_ 251 rfl).2.1 j).trans (uF_a)) ?_
      refine lv_iconst (v := iv (-1)) hx hb dX12_named_173 (by decide) ?_
      refine r_icmp_eq (tgt := 181) hx hb ⟨(by omega), (by omega)⟩ ⟨(by omega), (by omega)⟩ dX12_named_174 (by decide) (fun c_181 => ?_) (fun c_181 => ?_)
      · refine lv_aload_n hx hb dX12_named_181 rfl (lv_at hl 4 rfl) ?_
        refine g_X12_65 Cx hW (k := 231) (by decide) rfl (v := .ref (G.2.2.1 + 250)) (rd_28 hI167) dX12_named_182 ?_
        refine lv_iload_n hx hb dX12_named_185 rfl (lv_at hl 2 rfl) ?_
        refine rIald Cx hW (k := 250) (by decide) rfl (by decide) (by omega) (by omega) dX12_named_186 ?_
        have q_182 : (-2147483648) ≤ S.2.1 250 j ∧ S.2.1 250 j ≤ 2147483647 := hI.ai 250 j
        refine r_i (b := S.2.1 250 j) (((hL167_ 250 rfl).2.1 j).trans (uF_a)) ?_
        refine lv_iconst (v := iv (-1)) hx hb dX12_named_187 (by decide) ?_
        refine r_icmp_eq (tgt := 195) hx hb ⟨(by omega), (by omega)⟩ ⟨(by omega), (by omega)⟩ dX12_named_188 (by decide) (fun c_183 => ?_) (fun c_183 => ?_)
        · refine lv_iconst (v := iv 0) hx hb dX12_named_195 (by decide) ?_
          exact join_196 0 _ _ _ (by omega) (by unfold wnt; first | (exact .inl ⟨by omega, by (by_cases z : N.2.2.1 j 3 < 0; (exfalso; have y := w34 z; omega); omega), by omega⟩) | (exact .inr (.inl ⟨by omega, by omega, by omega⟩)) | (exact .inr (.inr ⟨by omega, by omega, by omega⟩))) hW hL (lv_sub hl [0, 1, 2, 3, 4, 5] rfl)
        · refine lv_iconst (v := iv 1) hx hb dX12_named_191 (by decide) ?_
          refine lv_goto (tgt := 196) hx hb dX12_named_192 (by decide) ?_
          exact join_196 1 _ _ _ (by omega) (by unfold wnt; first | (exact .inl ⟨by omega, by (by_cases z : N.2.2.1 j 3 < 0; (exfalso; have y := w34 z; omega); omega), by omega⟩) | (exact .inr (.inl ⟨by omega, by omega, by omega⟩)) | (exact .inr (.inr ⟨by omega, by omega, by omega⟩))) hW hL (lv_sub hl [0, 1, 2, 3, 4, 5] rfl)
      · refine lv_iconst (v := iv 2) hx hb dX12_named_177 (by decide) ?_
        refine lv_goto (tgt := 196) hx hb dX12_named_178 (by decide) ?_
        exact join_196 2 _ _ _ (by omega) (by unfold wnt; first | (exact .inl ⟨by omega, by (by_cases z : N.2.2.1 j 3 < 0; (exfalso; have y := w34 z; omega); omega), by omega⟩) | (exact .inr (.inl ⟨by omega, by omega, by omega⟩)) | (exact .inr (.inr ⟨by omega, by omega, by omega⟩))) hW hL (lv_sub hl [0, 1, 2, 3, 4, 5] rfl)
    refine lv_iload hx hb dX12_named_46 (lv_at hl 0 rfl) ?_
    refine lv_iconst (v := iv 2) hx hb dX12_named_48 (by decide) ?_
    refine r_icmp_eq (tgt := 76) hx hb ⟨(by omega), (by omega)⟩ ⟨(by omega), (by omega)⟩ dX12_named_49 (by decide) (fun c_184 => ?_) (fun c_184 => ?_)
    · refine lv_iload hx hb dX12_named_76 (lv_at hl 0 rfl) ?_
      refine lv_iconst (v := iv 5) hx hb dX12_named_78 (by decide) ?_
      refine r_icmp_ne (tgt := 95) hx hb ⟨(by omega), (by omega)⟩ ⟨(by omega), (by omega)⟩ dX12_named_79 (by decide) (fun _ => ?_) (fun c => absurd c (by omega))
      have h7 : Hd (N.2.2.1 j 0 = 7 ∨ N.2.2.1 j 0 = 8) := (by first | exact .inl (csj.2.1.mp (by omega)) | exact .inr (csj.2.2.1.mp (by omega)))
      refine lv_aload_n hx hb dX12_named_95 rfl (lv_at hl 4 rfl) ?_
      refine lv_iconst (v := iv 0) hx hb dX12_named_96 (by decide) ?_
      refine p_X12_441 Cx hW hL (k := 231) (by decide) rfl dX12_named_97 (fun H locs hW hL => ?_)
      have F_185 : Fr S (uF (uF S 231 24 ((S.1 231 24) + 1)) 231 43 0) (pl [231, 257, 258]) := F_5.F rfl
      have F_186 : Fr ((uF S 231 24 ((S.1 231 24) + 1))) (uF (uF S 231 24 ((S.1 231 24) + 1)) 231 43 0) (pl [231, 258]) := (Fr.rf : Fr (uF S 231 24 ((S.1 231 24) + 1)) (uF S 231 24 ((S.1 231 24) + 1)) (pl [231, 258])).F rfl
      have g_187 : FF S (uF (uF S 231 24 ((S.1 231 24) + 1)) 231 43 0) (fl [20, 21, 24, 43]) := FF.F g_6 rfl
      have g_188 : FF ((uF S 231 24 ((S.1 231 24) + 1))) (uF (uF S 231 24 ((S.1 231 24) + 1)) 231 43 0) (fl [20, 21, 24, 43]) := FF.F (FF.rf : FF ((uF S 231 24 ((S.1 231 24) + 1))) ((uF S 231 24 ((S.1 231 24) + 1))) (fl [20, 21, 24, 43])) rfl
      have i_189 : dX G (uF (uF S 231 24 ((S.1 231 24) + 1)) 231 43 0) := i_7.F (i := 43) (show (-2147483648) ≤ 0 ∧ 0 ≤ 2147483647 from ⟨by omega, by omega⟩)
      refine lv_iload hx hb dX12_named_100 (lv_at hl 1 rfl) ?_
      refine r_if_eq (tgt := 159) hx hb ⟨(by omega), (by omega)⟩ dX12_named_102 (by decide) (fun c_190 => ?_) (fun c_190 => ?_)
      · have nk : k (pz + 1) ≠ 17 := tu_9b (by omega)
        have hq9 : q = pz + 1 := (by rcases hgx with z | z; (exact absurd z.1 nk); (exact z.2))
        refine lv_aload_n hx hb dX12_named_159 rfl (lv_at hl 4 rfl) ?_
        have q_191 : (-2147483648) ≤ S.1 231 20 ∧ S.1 231 20 ≤ 2147483647 := hI.fi 20
        refine g_X12_270 Cx hW (k := 231) (by decide) rfl (v := S.1 231 20) ((uF_ne (fun h => absurd h.2 (by decide))).trans (uF_ne (fun h => absurd h.2 (by decide)))) dX12_named_160 ?_
        refine r_if_eq (tgt := 167) hx hb ⟨(by omega), (by omega)⟩ dX12_named_163 (by decide) (fun _ => ?_) (fun c => absurd (by omega) c)
        have lk_192 : (uF (uF S 231 24 ((S.1 231 24) + 1)) 231 43 0).1 231 20 = S.1 231 20 := (uF_ne (fun h => absurd h.2 (by decide))).trans (uF_ne (fun h => absurd h.2 (by decide)))
        have lk_193 : (uF (uF S 231 24 ((S.1 231 24) + 1)) 231 43 0).1 231 24 = (S.1 231 24) + 1 := (uF_ne (fun h => absurd h.2 (by decide))).trans (uF_on)
        have lk_194 : (uF (uF S 231 24 ((S.1 231 24) + 1)) 231 43 0).1 231 43 = 0 := uF_on
        exact join_167 (uF (uF S 231 24 ((S.1 231 24) + 1)) 231 43 0)  _ _ _ i_189 F_185 F_186 g_187 g_188 h7 (by have e6 := (show (uF (uF S 231 24 ((S.1 231 24) + 1)) 231 43 0).1 231 43 = 0 from uF_on); have e7 := (show (uF (uF S 231 24 ((S.1 231 24) + 1)) 231 43 0).1 231 24 = (S.1 231 24) + 1 from (uF_ne (fun h => absurd h.2 (by decide))).trans (uF_on)); have e8 := (show (uF (uF S 231 24 ((S.1 231 24) + 1)) 231 43 0).1 231 20 = S.1 231 20 from (uF_ne (fun h => absurd h.2 (by decide))).trans (uF_ne (fun h => absurd h.2 (by decide)))); omega) (by rw [show (uF (uF S 231 24 ((S.1 231 24) + 1)) 231 43 0).1 231 43 = 0 by have e6 := (show (uF (uF S 231 24 ((S.1 231 24) + 1)) 231 43 0).1 231 43 = 0 from uF_on); omega]; exact eN_a fe hj0 h7 nk hq9) hW hL (lv_sub hl [0, 1, 2, 3, 4, 5] rfl)
      · have k17 : k (pz + 1) = 17 := tu_9a (by omega)
        obtain ⟨qa, gx1, gy1⟩ := ogXs_i (show ogXs k (pz + 1 + 1) = some q from (by rcases hgx with z | z; (exact z.2); (exact absurd k17 z.1)))
        have gq1 : qa + 1 ≤ q := (by rcases gy1 with z | z; (obtain ⟨_, b, z1, z2, z3⟩ := z; have z4 := ogX_inc _ _ z1; omega); omega)
        have gq0 := ogX_inc _ _ gx1
        refine lv_aload_n hx hb dX12_named_105 rfl (lv_at hl 4 rfl) ?_
        refine lv_dup hx hb dX12_named_106 rfl ?_
        refine g_X12_315 Cx hW (k := 231) (by decide) rfl (v := (S.1 231 24) + 1) ((uF_ne (fun h => absurd h.2 (by decide))).trans (uF_on)) dX12_named_107 ?_
        refine lv_iconst (v := iv 1) hx hb dX12_named_110 (by decide) ?_
        refine r_iadd hx hb dX12_named_111 ?_
        refine p_X12_315 Cx hW hL (k := 231) (by decide) rfl dX12_named_112 (fun H locs hW hL => ?_)
        have F_195 : Fr S (uF (uF (uF S 231 24 ((S.1 231 24) + 1)) 231 43 0) 231 24 (((S.1 231 24) + 1) + 1)) (pl [231, 257, 258]) := F_185.F rfl
        have F_196 : Fr ((uF S 231 24 ((S.1 231 24) + 1))) (uF (uF (uF S 231 24 ((S.1 231 24) + 1)) 231 43 0) 231 24 (((S.1 231 24) + 1) + 1)) (pl [231, 258]) := F_186.F rfl
        have g_197 : FF S (uF (uF (uF S 231 24 ((S.1 231 24) + 1)) 231 43 0) 231 24 (((S.1 231 24) + 1) + 1)) (fl [20, 21, 24, 43]) := FF.F g_187 rfl
        have g_198 : FF ((uF S 231 24 ((S.1 231 24) + 1))) (uF (uF (uF S 231 24 ((S.1 231 24) + 1)) 231 43 0) 231 24 (((S.1 231 24) + 1) + 1)) (fl [20, 21, 24, 43]) := FF.F g_188 rfl
        have i_199 : dX G (uF (uF (uF S 231 24 ((S.1 231 24) + 1)) 231 43 0) 231 24 (((S.1 231 24) + 1) + 1)) := i_189.F (i := 24) (show (-2147483648) ≤ ((S.1 231 24) + 1) + 1 ∧ ((S.1 231 24) + 1) + 1 ≤ 2147483647 from ⟨by omega, by omega⟩)
        refine lv_aload_n hx hb dX12_named_115 rfl (lv_at hl 4 rfl) ?_
        have lk_200 : (uF (uF (uF S 231 24 ((S.1 231 24) + 1)) 231 43 0) 231 24 (((S.1 231 24) + 1) + 1)).1 231 43 = 0 := (uF_ne (fun h => absurd h.2 (by decide))).trans (uF_on)
        have q_201 : (-2147483648) ≤ S.1 231 20 ∧ S.1 231 20 ≤ 2147483647 := hI.fi 20
        have lk_202 : (uF (uF (uF S 231 24 ((S.1 231 24) + 1)) 231 43 0) 231 24 (((S.1 231 24) + 1) + 1)).1 231 20 = S.1 231 20 := (uF_ne (fun h => absurd h.2 (by decide))).trans ((uF_ne (fun h => absurd h.2 (by decide))).trans (uF_ne (fun h => absurd h.2 (by decide))))
        have lk_203 : (uF (uF (uF S 231 24 ((S.1 231 24) + 1)) 231 43 0) 231 24 (((S.1 231 24) + 1) + 1)).1 231 24 = ((S.1 231 24) + 1) + 1 := uF_on
        have kr_204 : KRr (uF (uF (uF S 231 24 ((S.1 231 24) + 1)) 231 43 0) 231 24 (((S.1 231 24) + 1) + 1)) k v T := hkr.of (funext fun j => (uF_a).trans ((uF_a).trans (uF_a))) (funext fun j => (uF_a).trans ((uF_a).trans (uF_a))) (funext fun j => (uF_a).trans ((uF_a).trans (uF_a))) (funext fun j => (uF_a).trans ((uF_a).trans (uF_a))) (funext fun j => (uF_a).trans ((uF_a).trans (uF_a)))
        have nr_205 : NRr N k v (uF (uF (uF S 231 24 ((S.1 231 24) + 1)) 231 43 0) 231 24 (((S.1 231 24) + 1) + 1)) := hNr.of ((uF_ne (fun h => absurd h.2 (by decide))).trans ((uF_ne (fun h => absurd h.2 (by decide))).trans (uF_ne (fun h => absurd h.2 (by decide))))) (funext fun j => (uF_a).trans ((uF_a).trans (uF_a))) (funext fun j => (uF_a).trans ((uF_a).trans (uF_a))) (funext fun j => (uF_a).trans ((uF_a).trans (uF_a))) (funext fun j => (uF_a).trans ((uF_a).trans (uF_a))) (funext fun j => (uF_a).trans ((uF_a).trans (uF_a))) (funext fun j => (uF_a).trans ((uF_a).trans (uF_a)))
        refine sBv (sV (As := []) (rest := []) (k := 231) Cx (e_X12_index l G (uF (uF (uF S 231 24 ((S.1 231 24) + 1)) 231 43 0) 231 24 (((S.1 231 24) + 1) + 1)) (pz := ((pz) + 1) + 1) (q := qa) i_199 kr_204 nr_205 hK_ hTV (by omega) (by omega) gx1 (by omega) (by omega)) (c_X12_444 Cx rfl rfl (rmk_ok (by omega) (by decide))) hW (by decide) rfl rfl rfl hl.1 rfl (Nat.le_of_ble_eq_true rfl) dX12_named_116 ⟨Nat.le_of_ble_eq_true rfl, Nat.le_of_ble_eq_true rfl⟩) hL (fun u_206 H locs k_207 hW hL => ?_)
        obtain ⟨iu_206, fu_206, gu_206, xu_206⟩ := k_207
        have F_208 := F_195.trans (fu_206.to (pl_sub (by decide)))
        have F_209 := F_196.trans fu_206
        have g_210 : FF S u_206 (fl [20, 21, 24, 43]) := FF.trans g_197 (FF.to gu_206 (fl_sub (by decide)))
        have g_211 : FF ((uF S 231 24 ((S.1 231 24) + 1))) u_206 (fl [20, 21, 24, 43]) := FF.trans g_198 (FF.to gu_206 (fl_sub (by decide)))
        refine lv_aload_n hx hb dX12_named_119 rfl (lv_at hl 4 rfl) ?_
        have q_212 : (-2147483648) ≤ u_206.1 231 20 ∧ u_206.1 231 20 ≤ 2147483647 := iu_206.fi 20
        refine g_X12_270 Cx hW (k := 231) (by decide) rfl (v := u_206.1 231 20) rfl dX12_named_120 ?_
        refine r_if_ne (tgt := 149) hx hb ⟨(by omega), (by omega)⟩ dX12_named_123 (by decide) (fun c_213 => ?_) (fun c_213 => ?_)
        · refine lv_aload_n hx hb dX12_named_149 rfl (lv_at hl 4 rfl) ?_
          refine lv_dup hx hb dX12_named_150 rfl ?_
          have q_214 : (-2147483648) ≤ u_206.1 231 24 ∧ u_206.1 231 24 ≤ 2147483647 := iu_206.fi 24
          refine g_X12_315 Cx hW (k := 231) (by decide) rfl (v := u_206.1 231 24) rfl dX12_named_151 ?_
          refine lv_iconst (v := iv 1) hx hb dX12_named_154 (by decide) ?_
          refine r_iadd hx hb dX12_named_155 ?_
          refine p_X12_315 Cx hW hL (k := 231) (by decide) rfl dX12_named_156 (fun H locs hW hL => ?_)
          have F_215 : Fr S (uF u_206 231 24 ((u_206.1 231 24) + 1)) (pl [231, 257, 258]) := F_208.F rfl
          have F_216 : Fr ((uF S 231 24 ((S.1 231 24) + 1))) (uF u_206 231 24 ((u_206.1 231 24) + 1)) (pl [231, 258]) := F_209.F rfl
          have g_217 : FF S (uF u_206 231 24 ((u_206.1 231 24) + 1)) (fl [20, 21, 24, 43]) := FF.F g_210 rfl
          have g_218 : FF ((uF S 231 24 ((S.1 231 24) + 1))) (uF u_206 231 24 ((u_206.1 231 24) + 1)) (fl [20, 21, 24, 43]) := FF.F g_211 rfl
          have i_219 : dX G (uF u_206 231 24 ((u_206.1 231 24) + 1)) := iu_206.F (i := 24) (show (-2147483648) ≤ (u_206.1 231 24) + 1 ∧ (u_206.1 231 24) + 1 ≤ 2147483647 from ⟨by omega, by omega⟩)
          refine lv_aload_n hx hb dX12_named_159 rfl (lv_at hl 4 rfl) ?_
          refine g_X12_270 Cx hW (k := 231) (by decide) rfl (v := u_206.1 231 20) (uF_ne (fun h => absurd h.2 (by decide))) dX12_named_160 ?_
          refine r_if_eq (tgt := 167) hx hb ⟨(by omega), (by omega)⟩ dX12_named_163 (by decide) (fun c => absurd c (by omega)) (fun _ => ?_)
          have lk_220 : (uF u_206 231 24 ((u_206.1 231 24) + 1)).1 231 24 = (u_206.1 231 24) + 1 := uF_on
          have q_221 : (-2147483648) ≤ S.1 231 42 ∧ S.1 231 42 ≤ 2147483647 := hI.fi 42
          have lk_222 : (uF u_206 231 24 ((u_206.1 231 24) + 1)).1 231 42 = S.1 231 42 := (uF_ne (fun h => absurd h.2 (by decide))).trans ((gu_206 42 rfl).trans ((uF_ne (fun h => absurd h.2 (by decide))).trans ((uF_ne (fun h => absurd h.2 (by decide))).trans (uF_ne (fun h => absurd h.2 (by decide))))))
          have lk_223 : (uF u_206 231 24 ((u_206.1 231 24) + 1)).1 231 20 = u_206.1 231 20 := uF_ne (fun h => absurd h.2 (by decide))
          exact sVret Cx hr hlk hW hL ⟨i_219, F_215, g_217, ⟨⟨(fun j a => (uF_l).trans (((fu_206 257 rfl).2.2.1 j).trans ((uF_l).trans ((uF_l).trans (uF_l))))), (fun h => absurd h (by have e9 := (show (uF u_206 231 24 ((u_206.1 231 24) + 1)).1 231 20 = u_206.1 231 20 from uF_ne (fun h => absurd h.2 (by decide))); omega)), (fun _ => (eN_2 fe hj0 h7 k17 (xu_206.2.1 (by omega))))⟩, (by have e7c := (show (uF u_206 231 24 ((u_206.1 231 24) + 1)).1 231 24 = (u_206.1 231 24) + 1 from uF_on); omega)⟩⟩ dX12_named_166
        · have b1 := xu_206.2.2 (by omega)
          have b1c := b1.2.1; have b1d := b1.2.2.1
          refine lv_aload_n hx hb dX12_named_126 rfl (lv_at hl 4 rfl) ?_
          refine lv_bipush (v := iv 44) hx hb dX12_named_127 (by decide) ?_
          have q_224 : (-2147483648) ≤ u_206.1 231 24 ∧ u_206.1 231 24 ≤ 2147483647 := iu_206.fi 24
          refine sBi (sV (As := [.int (iv 44)]) (rest := []) (k := 231) Cx (s_X12_isSign l G u_206 (sv := 44) (K := K) (V := V) (pz := qa) iu_206 (by omega) ((funext fun j => ((fu_206 244 rfl).2.1 j).trans ((uF_a).trans ((uF_a).trans (uF_a))) : u_206.2.1 244 = S.2.1 244).trans hK) ((funext fun j => ((fu_206 247 rfl).2.1 j).trans ((uF_a).trans ((uF_a).trans (uF_a))) : u_206.2.1 247 = S.2.1 247).trans hV) (by omega) (by omega)) (c_X12_318 Cx rfl rfl (rmk_ok (by omega) (by decide))) hW (by decide) rfl rfl rfl hl.1 rfl (Nat.le_of_ble_eq_true rfl) dX12_named_129 ⟨Nat.le_of_ble_eq_true rfl, Nat.le_of_ble_eq_true rfl⟩) hL (fun r_227 u_225 H locs k_226 hW hL => ?_)
          obtain ⟨eu_225, xu_225⟩ := k_226
          rw [eu_225] at hW
          have tu_225a : Hd (r_227 = 1 → k (qa) = 16) := (fun h => by rw [← hkk]; exact (osg_44 K V T _).1 (by omega) (by omega) (xu_225.2.1 h))
          have tu_225b : Hd (r_227 ≠ 1 → k (qa) ≠ 16) := (fun h z => xu_225.2.2 h ((osg_44 K V T _).2 (by rw [hkk]; exact z)))
          refine r_if_eq (tgt := 149) hx hb ⟨(by omega), (by omega)⟩ dX12_named_132 (by decide) (fun c_228 => ?_) (fun c_228 => ?_)
          · have k16 : k qa ≠ 16 := tu_225b (by omega)
            have hq9 : q = qa + 1 := (by rcases gy1 with z | z; (exact absurd z.1 k16); (exact z.2.2))
            refine lv_aload_n hx hb dX12_named_149 rfl (lv_at hl 4 rfl) ?_
            refine lv_dup hx hb dX12_named_150 rfl ?_
            refine g_X12_315 Cx hW (k := 231) (by decide) rfl (v := u_206.1 231 24) rfl dX12_named_151 ?_
            refine lv_iconst (v := iv 1) hx hb dX12_named_154 (by decide) ?_
            refine r_iadd hx hb dX12_named_155 ?_
            refine p_X12_315 Cx hW hL (k := 231) (by decide) rfl dX12_named_156 (fun H locs hW hL => ?_)
            have F_229 : Fr S (uF u_206 231 24 ((u_206.1 231 24) + 1)) (pl [231, 257, 258]) := F_208.F rfl
            have F_230 : Fr ((uF S 231 24 ((S.1 231 24) + 1))) (uF u_206 231 24 ((u_206.1 231 24) + 1)) (pl [231, 258]) := F_209.F rfl
            have g_231 : FF S (uF u_206 231 24 ((u_206.1 231 24) + 1)) (fl [20, 21, 24, 43]) := FF.F g_210 rfl
            have g_232 : FF ((uF S 231 24 ((S.1 231 24) + 1))) (uF u_206 231 24 ((u_206.1 231 24) + 1)) (fl [20, 21, 24, 43]) := FF.F g_211 rfl
            have i_233 : dX G (uF u_206 231 24 ((u_206.1 231 24) + 1)) := iu_206.F (i := 24) (show (-2147483648) ≤ (u_206.1 231 24) + 1 ∧ (u_206.1 231 24) + 1 ≤ 2147483647 from ⟨by omega, by omega⟩)
            refine lv_aload_n hx hb dX12_named_159 rfl (lv_at hl 4 rfl) ?_
            refine g_X12_270 Cx hW (k := 231) (by decide) rfl (v := u_206.1 231 20) (uF_ne (fun h => absurd h.2 (by decide))) dX12_named_160 ?_
            refine r_if_eq (tgt := 167) hx hb ⟨(by omega), (by omega)⟩ dX12_named_163 (by decide) (fun _ => ?_) (fun c => absurd (by omega) c)
            have lk_234 : (uF u_206 231 24 ((u_206.1 231 24) + 1)).1 231 20 = u_206.1 231 20 := uF_ne (fun h => absurd h.2 (by decide))
            have lk_235 : (uF u_206 231 24 ((u_206.1 231 24) + 1)).1 231 24 = (u_206.1 231 24) + 1 := uF_on
            have q_236 : (-2147483648) ≤ u_206.1 231 43 ∧ u_206.1 231 43 ≤ 2147483647 := iu_206.fi 43
            have lk_237 : (uF u_206 231 24 ((u_206.1 231 24) + 1)).1 231 43 = u_206.1 231 43 := uF_ne (fun h => absurd h.2 (by decide))
            exact join_167 (uF u_206 231 24 ((u_206.1 231 24) + 1))  _ _ _ i_233 F_229 F_230 g_231 g_232 h7 (by have e6 := (show (uF u_206 231 24 ((u_206.1 231 24) + 1)).1 231 43 = u_206.1 231 43 from uF_ne (fun h => absurd h.2 (by decide))); have e7 := (show (uF u_206 231 24 ((u_206.1 231 24) + 1)).1 231 24 = (u_206.1 231 24) + 1 from uF_on); have e8 := (show (uF u_206 231 24 ((u_206.1 231 24) + 1)).1 231 20 = u_206.1 231 20 from uF_ne (fun h => absurd h.2 (by decide))); omega) (by have z1 := b1.1; rw [show (uF (uF (uF S 231 24 ((S.1 231 24) + 1)) 231 43 0) 231 24 (((S.1 231 24) + 1) + 1)).1 231 43 = 0 by have e6 := (show (uF (uF (uF S 231 24 ((S.1 231 24) + 1)) 231 43 0) 231 24 (((S.1 231 24) + 1) + 1)).1 231 43 = 0 from (uF_ne (fun h => absurd h.2 (by decide))).trans (uF_on)); omega] at z1; rw [show (uF u_206 231 24 ((u_206.1 231 24) + 1)).1 231 43 = 1 by have e6 := (show (uF u_206 231 24 ((u_206.1 231 24) + 1)).1 231 43 = u_206.1 231 43 from uF_ne (fun h => absurd h.2 (by decide))); omega, show (uF u_206 231 24 ((u_206.1 231 24) + 1)).2.1 258 0 = u_206.2.1 258 0 from uF_a]; exact eN_b fe hj0 h7 k17 z1 k16 hq9) hW hL (lv_sub hl [0, 1, 2, 3, 4, 5] rfl)
          · have k16 : k qa = 16 := tu_225a (by omega)
            obtain ⟨qb, gx2, gy2, gz2⟩ : ∃ b, ogX k (qa + 1) = some b ∧ k b = 18 ∧ q = b + 1 := (by rcases gy1 with z | z; (exact z.2); (exact absurd k16 z.1))
            have gq2 := ogX_inc _ _ gx2
            refine lv_aload_n hx hb dX12_named_135 rfl (lv_at hl 4 rfl) ?_
            refine lv_dup hx hb dX12_named_136 rfl ?_
            refine g_X12_315 Cx hW (k := 231) (by decide) rfl (v := u_206.1 231 24) rfl dX12_named_137 ?_
            refine lv_iconst (v := iv 1) hx hb dX12_named_140 (by decide) ?_
            refine r_iadd hx hb dX12_named_141 ?_
            refine p_X12_315 Cx hW hL (k := 231) (by decide) rfl dX12_named_142 (fun H locs hW hL => ?_)
            have F_238 : Fr S (uF u_206 231 24 ((u_206.1 231 24) + 1)) (pl [231, 257, 258]) := F_208.F rfl
            have F_239 : Fr ((uF S 231 24 ((S.1 231 24) + 1))) (uF u_206 231 24 ((u_206.1 231 24) + 1)) (pl [231, 258]) := F_209.F rfl
            have g_240 : FF S (uF u_206 231 24 ((u_206.1 231 24) + 1)) (fl [20, 21, 24, 43]) := FF.F g_210 rfl
            have g_241 : FF ((uF S 231 24 ((S.1 231 24) + 1))) (uF u_206 231 24 ((u_206.1 231 24) + 1)) (fl [20, 21, 24, 43]) := FF.F g_211 rfl
            have i_242 : dX G (uF u_206 231 24 ((u_206.1 231 24) + 1)) := iu_206.F (i := 24) (show (-2147483648) ≤ (u_206.1 231 24) + 1 ∧ (u_206.1 231 24) + 1 ≤ 2147483647 from ⟨by omega, by omega⟩)
            refine lv_aload_n hx hb dX12_named_145 rfl (lv_at hl 4 rfl) ?_
            have q_243 : (-2147483648) ≤ u_206.1 231 43 ∧ u_206.1 231 43 ≤ 2147483647 := iu_206.fi 43
            have lk_244 : (uF u_206 231 24 ((u_206.1 231 24) + 1)).1 231 43 = u_206.1 231 43 := uF_ne (fun h => absurd h.2 (by decide))
            have lk_245 : (uF u_206 231 24 ((u_206.1 231 24) + 1)).1 231 20 = u_206.1 231 20 := uF_ne (fun h => absurd h.2 (by decide))
            have lk_246 : (uF u_206 231 24 ((u_206.1 231 24) + 1)).1 231 24 = (u_206.1 231 24) + 1 := uF_on
            have kr_247 : KRr (uF u_206 231 24 ((u_206.1 231 24) + 1)) k v T := hkr.of (funext fun j => (uF_a).trans (((fu_206 243 rfl).2.1 j).trans ((uF_a).trans ((uF_a).trans (uF_a))))) (funext fun j => (uF_a).trans (((fu_206 244 rfl).2.1 j).trans ((uF_a).trans ((uF_a).trans (uF_a))))) (funext fun j => (uF_a).trans (((fu_206 245 rfl).2.1 j).trans ((uF_a).trans ((uF_a).trans (uF_a))))) (funext fun j => (uF_a).trans (((fu_206 246 rfl).2.1 j).trans ((uF_a).trans ((uF_a).trans (uF_a))))) (funext fun j => (uF_a).trans (((fu_206 247 rfl).2.1 j).trans ((uF_a).trans ((uF_a).trans (uF_a)))))
            have nr_248 : NRr N k v (uF u_206 231 24 ((u_206.1 231 24) + 1)) := hNr.of ((uF_ne (fun h => absurd h.2 (by decide))).trans ((gu_206 25 rfl).trans ((uF_ne (fun h => absurd h.2 (by decide))).trans ((uF_ne (fun h => absurd h.2 (by decide))).trans (uF_ne (fun h => absurd h.2 (by decide))))))) (funext fun j => (uF_a).trans (((fu_206 248 rfl).2.1 j).trans ((uF_a).trans ((uF_a).trans (uF_a))))) (funext fun j => (uF_a).trans (((fu_206 249 rfl).2.1 j).trans ((uF_a).trans ((uF_a).trans (uF_a))))) (funext fun j => (uF_a).trans (((fu_206 250 rfl).2.1 j).trans ((uF_a).trans ((uF_a).trans (uF_a))))) (funext fun j => (uF_a).trans (((fu_206 251 rfl).2.1 j).trans ((uF_a).trans ((uF_a).trans (uF_a))))) (funext fun j => (uF_a).trans (((fu_206 252 rfl).2.1 j).trans ((uF_a).trans ((uF_a).trans (uF_a))))) (funext fun j => (uF_a).trans (((fu_206 253 rfl).2.1 j).trans ((uF_a).trans ((uF_a).trans (uF_a)))))
            refine sBv (sV (As := []) (rest := []) (k := 231) Cx (e_X12_index l G (uF u_206 231 24 ((u_206.1 231 24) + 1)) (pz := qa + 1) (q := qb) i_242 kr_247 nr_248 hK_ hTV (by omega) (by omega) gx2 (by omega) (by omega)) (c_X12_444 Cx rfl rfl (rmk_ok (by omega) (by decide))) hW (by decide) rfl rfl rfl hl.1 rfl (Nat.le_of_ble_eq_true rfl) dX12_named_146 ⟨Nat.le_of_ble_eq_true rfl, Nat.le_of_ble_eq_true rfl⟩) hL (fun u_249 H locs k_250 hW hL => ?_)
            obtain ⟨iu_249, fu_249, gu_249, xu_249⟩ := k_250
            have F_251 := F_238.trans (fu_249.to (pl_sub (by decide)))
            have F_252 := F_239.trans fu_249
            have g_253 : FF S u_249 (fl [20, 21, 24, 43]) := FF.trans g_240 (FF.to gu_249 (fl_sub (by decide)))
            have g_254 : FF ((uF S 231 24 ((S.1 231 24) + 1))) u_249 (fl [20, 21, 24, 43]) := FF.trans g_241 (FF.to gu_249 (fl_sub (by decide)))
            refine lv_aload_n hx hb dX12_named_149 rfl (lv_at hl 4 rfl) ?_
            refine lv_dup hx hb dX12_named_150 rfl ?_
            have q_255 : (-2147483648) ≤ u_249.1 231 24 ∧ u_249.1 231 24 ≤ 2147483647 := iu_249.fi 24
            refine g_X12_315 Cx hW (k := 231) (by decide) rfl (v := u_249.1 231 24) rfl dX12_named_151 ?_
            refine lv_iconst (v := iv 1) hx hb dX12_named_154 (by decide) ?_
            refine r_iadd hx hb dX12_named_155 ?_
            refine p_X12_315 Cx hW hL (k := 231) (by decide) rfl dX12_named_156 (fun H locs hW hL => ?_)
            have F_256 : Fr S (uF u_249 231 24 ((u_249.1 231 24) + 1)) (pl [231, 257, 258]) := F_251.F rfl
            have F_257 : Fr ((uF S 231 24 ((S.1 231 24) + 1))) (uF u_249 231 24 ((u_249.1 231 24) + 1)) (pl [231, 258]) := F_252.F rfl
            have g_258 : FF S (uF u_249 231 24 ((u_249.1 231 24) + 1)) (fl [20, 21, 24, 43]) := FF.F g_253 rfl
            have g_259 : FF ((uF S 231 24 ((S.1 231 24) + 1))) (uF u_249 231 24 ((u_249.1 231 24) + 1)) (fl [20, 21, 24, 43]) := FF.F g_254 rfl
            have i_260 : dX G (uF u_249 231 24 ((u_249.1 231 24) + 1)) := iu_249.F (i := 24) (show (-2147483648) ≤ (u_249.1 231 24) + 1 ∧ (u_249.1 231 24) + 1 ≤ 2147483647 from ⟨by omega, by omega⟩)
            refine lv_aload_n hx hb dX12_named_159 rfl (lv_at hl 4 rfl) ?_
            have q_261 : (-2147483648) ≤ u_249.1 231 20 ∧ u_249.1 231 20 ≤ 2147483647 := iu_249.fi 20
            refine g_X12_270 Cx hW (k := 231) (by decide) rfl (v := u_249.1 231 20) (uF_ne (fun h => absurd h.2 (by decide))) dX12_named_160 ?_
            refine r_if_eq (tgt := 167) hx hb ⟨(by omega), (by omega)⟩ dX12_named_163 (by decide) (fun c_262 => ?_) (fun c_262 => ?_)
            · have lk_263 : (uF u_249 231 24 ((u_249.1 231 24) + 1)).1 231 20 = u_249.1 231 20 := uF_ne (fun h => absurd h.2 (by decide))
              have lk_264 : (uF u_249 231 24 ((u_249.1 231 24) + 1)).1 231 24 = (u_249.1 231 24) + 1 := uF_on
              have q_265 : (-2147483648) ≤ u_249.1 231 43 ∧ u_249.1 231 43 ≤ 2147483647 := iu_249.fi 43
              have lk_266 : (uF u_249 231 24 ((u_249.1 231 24) + 1)).1 231 43 = u_249.1 231 43 := uF_ne (fun h => absurd h.2 (by decide))
              exact join_167 (uF u_249 231 24 ((u_249.1 231 24) + 1))  _ _ _ i_260 F_256 F_257 g_258 g_259 h7 (by have e6 := (show (uF u_249 231 24 ((u_249.1 231 24) + 1)).1 231 43 = u_249.1 231 43 from uF_ne (fun h => absurd h.2 (by decide))); have e7 := (show (uF u_249 231 24 ((u_249.1 231 24) + 1)).1 231 24 = (u_249.1 231 24) + 1 from uF_on); have e8 := (show (uF u_249 231 24 ((u_249.1 231 24) + 1)).1 231 20 = u_249.1 231 20 from uF_ne (fun h => absurd h.2 (by decide))); have b2 := xu_249.2.2 (by omega); have b2c := b2.2.1; have b2d := b2.2.2.1; omega) (by have b2 := xu_249.2.2 (by omega); have b2d := b2.2.2.1; have z1 := b1.1; rw [show (uF (uF (uF S 231 24 ((S.1 231 24) + 1)) 231 43 0) 231 24 (((S.1 231 24) + 1) + 1)).1 231 43 = 0 by have e6 := (show (uF (uF (uF S 231 24 ((S.1 231 24) + 1)) 231 43 0) 231 24 (((S.1 231 24) + 1) + 1)).1 231 43 = 0 from (uF_ne (fun h => absurd h.2 (by decide))).trans (uF_on)); omega] at z1; have z2 := b2.1; rw [show (uF u_206 231 24 ((u_206.1 231 24) + 1)).1 231 43 = 1 by have e6 := (show (uF u_206 231 24 ((u_206.1 231 24) + 1)).1 231 43 = u_206.1 231 43 from uF_ne (fun h => absurd h.2 (by decide))); omega] at z2; have z3 := b2.2.2.2 0 (by rw [show (uF u_206 231 24 ((u_206.1 231 24) + 1)).1 231 43 = 1 by have e6 := (show (uF u_206 231 24 ((u_206.1 231 24) + 1)).1 231 43 = u_206.1 231 43 from uF_ne (fun h => absurd h.2 (by decide))); omega]; decide); rw [show (uF u_249 231 24 ((u_249.1 231 24) + 1)).1 231 43 = 2 by have e6 := (show (uF u_249 231 24 ((u_249.1 231 24) + 1)).1 231 43 = u_249.1 231 43 from uF_ne (fun h => absurd h.2 (by decide))); have e5 : (uF u_206 231 24 ((u_206.1 231 24) + 1)).1 231 43 = 1 := (by have e6 := (show (uF u_206 231 24 ((u_206.1 231 24) + 1)).1 231 43 = u_206.1 231 43 from uF_ne (fun h => absurd h.2 (by decide))); omega); omega, show (uF u_249 231 24 ((u_249.1 231 24) + 1)).2.1 258 0 = u_249.2.1 258 0 from uF_a, show (uF u_249 231 24 ((u_249.1 231 24) + 1)).2.1 258 1 = u_249.2.1 258 1 from uF_a, z3, show (uF u_206 231 24 ((u_206.1 231 24) + 1)).2.1 258 0 = u_206.2.1 258 0 from uF_a]; exact eN_c fe hj0 h7 k17 z1 k16 z2 gz2) hW hL (lv_sub hl [0, 1, 2, 3, 4, 5] rfl)
            · have lk_267 : (uF u_249 231 24 ((u_249.1 231 24) + 1)).1 231 24 = (u_249.1 231 24) + 1 := uF_on
              have q_268 : (-2147483648) ≤ S.1 231 42 ∧ S.1 231 42 ≤ 2147483647 := hI.fi 42
              have lk_269 : (uF u_249 231 24 ((u_249.1 231 24) + 1)).1 231 42 = S.1 231 42 := (uF_ne (fun h => absurd h.2 (by decide))).trans ((gu_249 42 rfl).trans ((uF_ne (fun h => absurd h.2 (by decide))).trans ((gu_206 42 rfl).trans ((uF_ne (fun h => absurd h.2 (by decide))).trans ((uF_ne (fun h => absurd h.2 (by decide))).trans (uF_ne (fun h => absurd h.2 (by decide))))))))
              have lk_270 : (uF u_249 231 24 ((u_249.1 231 24) + 1)).1 231 20 = u_249.1 231 20 := uF_ne (fun h => absurd h.2 (by decide))
              exact sVret Cx hr hlk hW hL ⟨i_260, F_256, g_258, ⟨⟨(fun j a => (uF_l).trans (((fu_249 257 rfl).2.2.1 j).trans ((uF_l).trans (((fu_206 257 rfl).2.2.1 j).trans ((uF_l).trans ((uF_l).trans (uF_l))))))), (fun h => absurd h (by have e9 := (show (uF u_249 231 24 ((u_249.1 231 24) + 1)).1 231 20 = u_249.1 231 20 from uF_ne (fun h => absurd h.2 (by decide))); omega)), (fun _ => (by have z1 := b1.1; exact eN_4 fe hj0 h7 k17 z1 k16 (xu_249.2.1 (by omega))))⟩, (by have e7c := (show (uF u_249 231 24 ((u_249.1 231 24) + 1)).1 231 24 = (u_249.1 231 24) + 1 from uF_on); omega)⟩⟩ dX12_named_166
    · refine lv_iload hx hb dX12_named_52 (lv_at hl 0 rfl) ?_
      refine lv_iconst (v := iv 3) hx hb dX12_named_54 (by decide) ?_
      refine r_icmp_eq (tgt := 76) hx hb ⟨(by omega), (by omega)⟩ ⟨(by omega), (by omega)⟩ dX12_named_55 (by decide) (fun c_271 => ?_) (fun c_271 => ?_)
      · refine lv_iload hx hb dX12_named_76 (lv_at hl 0 rfl) ?_
        refine lv_iconst (v := iv 5) hx hb dX12_named_78 (by decide) ?_
        refine r_icmp_ne (tgt := 95) hx hb ⟨(by omega), (by omega)⟩ ⟨(by omega), (by omega)⟩ dX12_named_79 (by decide) (fun _ => ?_) (fun c => absurd c (by omega))
        have h7 : Hd (N.2.2.1 j 0 = 7 ∨ N.2.2.1 j 0 = 8) := (by first | exact .inl (csj.2.1.mp (by omega)) | exact .inr (csj.2.2.1.mp (by omega)))
        refine lv_aload_n hx hb dX12_named_95 rfl (lv_at hl 4 rfl) ?_
        refine lv_iconst (v := iv 0) hx hb dX12_named_96 (by decide) ?_
        refine p_X12_441 Cx hW hL (k := 231) (by decide) rfl dX12_named_97 (fun H locs hW hL => ?_)
        have F_272 : Fr S (uF (uF S 231 24 ((S.1 231 24) + 1)) 231 43 0) (pl [231, 257, 258]) := F_5.F rfl
        have F_273 : Fr ((uF S 231 24 ((S.1 231 24) + 1))) (uF (uF S 231 24 ((S.1 231 24) + 1)) 231 43 0) (pl [231, 258]) := (Fr.rf : Fr (uF S 231 24 ((S.1 231 24) + 1)) (uF S 231 24 ((S.1 231 24) + 1)) (pl [231, 258])).F rfl
        have g_274 : FF S (uF (uF S 231 24 ((S.1 231 24) + 1)) 231 43 0) (fl [20, 21, 24, 43]) := FF.F g_6 rfl
        have g_275 : FF ((uF S 231 24 ((S.1 231 24) + 1))) (uF (uF S 231 24 ((S.1 231 24) + 1)) 231 43 0) (fl [20, 21, 24, 43]) := FF.F (FF.rf : FF ((uF S 231 24 ((S.1 231 24) + 1))) ((uF S 231 24 ((S.1 231 24) + 1))) (fl [20, 21, 24, 43])) rfl
        have i_276 : dX G (uF (uF S 231 24 ((S.1 231 24) + 1)) 231 43 0) := i_7.F (i := 43) (show (-2147483648) ≤ 0 ∧ 0 ≤ 2147483647 from ⟨by omega, by omega⟩)
        refine lv_iload hx hb dX12_named_100 (lv_at hl 1 rfl) ?_
        refine r_if_eq (tgt := 159) hx hb ⟨(by omega), (by omega)⟩ dX12_named_102 (by decide) (fun c_277 => ?_) (fun c_277 => ?_)
        · have nk : k (pz + 1) ≠ 17 := tu_9b (by omega)
          have hq9 : q = pz + 1 := (by rcases hgx with z | z; (exact absurd z.1 nk); (exact z.2))
          refine lv_aload_n hx hb dX12_named_159 rfl (lv_at hl 4 rfl) ?_
          have q_278 : (-2147483648) ≤ S.1 231 20 ∧ S.1 231 20 ≤ 2147483647 := hI.fi 20
          refine g_X12_270 Cx hW (k := 231) (by decide) rfl (v := S.1 231 20) ((uF_ne (fun h => absurd h.2 (by decide))).trans (uF_ne (fun h => absurd h.2 (by decide)))) dX12_named_160 ?_
          refine r_if_eq (tgt := 167) hx hb ⟨(by omega), (by omega)⟩ dX12_named_163 (by decide) (fun _ => ?_) (fun c => absurd (by omega) c)
          have lk_279 : (uF (uF S 231 24 ((S.1 231 24) + 1)) 231 43 0).1 231 20 = S.1 231 20 := (uF_ne (fun h => absurd h.2 (by decide))).trans (uF_ne (fun h => absurd h.2 (by decide)))
          have lk_280 : (uF (uF S 231 24 ((S.1 231 24) + 1)) 231 43 0).1 231 24 = (S.1 231 24) + 1 := (uF_ne (fun h => absurd h.2 (by decide))).trans (uF_on)
          have lk_281 : (uF (uF S 231 24 ((S.1 231 24) + 1)) 231 43 0).1 231 43 = 0 := uF_on
          exact join_167 (uF (uF S 231 24 ((S.1 231 24) + 1)) 231 43 0)  _ _ _ i_276 F_272 F_273 g_274 g_275 h7 (by have e6 := (show (uF (uF S 231 24 ((S.1 231 24) + 1)) 231 43 0).1 231 43 = 0 from uF_on); have e7 := (show (uF (uF S 231 24 ((S.1 231 24) + 1)) 231 43 0).1 231 24 = (S.1 231 24) + 1 from (uF_ne (fun h => absurd h.2 (by decide))).trans (uF_on)); have e8 := (show (uF (uF S 231 24 ((S.1 231 24) + 1)) 231 43 0).1 231 20 = S.1 231 20 from (uF_ne (fun h => absurd h.2 (by decide))).trans (uF_ne (fun h => absurd h.2 (by decide)))); omega) (by rw [show (uF (uF S 231 24 ((S.1 231 24) + 1)) 231 43 0).1 231 43 = 0 by have e6 := (show (uF (uF S 231 24 ((S.1 231 24) + 1)) 231 43 0).1 231 43 = 0 from uF_on); omega]; exact eN_a fe hj0 h7 nk hq9) hW hL (lv_sub hl [0, 1, 2, 3, 4, 5] rfl)
        · have k17 : k (pz + 1) = 17 := tu_9a (by omega)
          obtain ⟨qa, gx1, gy1⟩ := ogXs_i (show ogXs k (pz + 1 + 1) = some q from (by rcases hgx with z | z; (exact z.2); (exact absurd k17 z.1)))
          have gq1 : qa + 1 ≤ q := (by rcases gy1 with z | z; (obtain ⟨_, b, z1, z2, z3⟩ := z; have z4 := ogX_inc _ _ z1; omega); omega)
          have gq0 := ogX_inc _ _ gx1
          refine lv_aload_n hx hb dX12_named_105 rfl (lv_at hl 4 rfl) ?_
          refine lv_dup hx hb dX12_named_106 rfl ?_
          refine g_X12_315 Cx hW (k := 231) (by decide) rfl (v := (S.1 231 24) + 1) ((uF_ne (fun h => absurd h.2 (by decide))).trans (uF_on)) dX12_named_107 ?_
          refine lv_iconst (v := iv 1) hx hb dX12_named_110 (by decide) ?_
          refine r_iadd hx hb dX12_named_111 ?_
          refine p_X12_315 Cx hW hL (k := 231) (by decide) rfl dX12_named_112 (fun H locs hW hL => ?_)
          have F_282 : Fr S (uF (uF (uF S 231 24 ((S.1 231 24) + 1)) 231 43 0) 231 24 (((S.1 231 24) + 1) + 1)) (pl [231, 257, 258]) := F_272.F rfl
          have F_283 : Fr ((uF S 231 24 ((S.1 231 24) + 1))) (uF (uF (uF S 231 24 ((S.1 231 24) + 1)) 231 43 0) 231 24 (((S.1 231 24) + 1) + 1)) (pl [231, 258]) := F_273.F rfl
          have g_284 : FF S (uF (uF (uF S 231 24 ((S.1 231 24) + 1)) 231 43 0) 231 24 (((S.1 231 24) + 1) + 1)) (fl [20, 21, 24, 43]) := FF.F g_274 rfl
          have g_285 : FF ((uF S 231 24 ((S.1 231 24) + 1))) (uF (uF (uF S 231 24 ((S.1 231 24) + 1)) 231 43 0) 231 24 (((S.1 231 24) + 1) + 1)) (fl [20, 21, 24, 43]) := FF.F g_275 rfl
          have i_286 : dX G (uF (uF (uF S 231 24 ((S.1 231 24) + 1)) 231 43 0) 231 24 (((S.1 231 24) + 1) + 1)) := i_276.F (i := 24) (show (-2147483648) ≤ ((S.1 231 24) + 1) + 1 ∧ ((S.1 231 24) + 1) + 1 ≤ 2147483647 from ⟨by omega, by omega⟩)
          refine lv_aload_n hx hb dX12_named_115 rfl (lv_at hl 4 rfl) ?_
          have lk_287 : (uF (uF (uF S 231 24 ((S.1 231 24) + 1)) 231 43 0) 231 24 (((S.1 231 24) + 1) + 1)).1 231 43 = 0 := (uF_ne (fun h => absurd h.2 (by decide))).trans (uF_on)
          have q_288 : (-2147483648) ≤ S.1 231 20 ∧ S.1 231 20 ≤ 2147483647 := hI.fi 20
          have lk_289 : (uF (uF (uF S 231 24 ((S.1 231 24) + 1)) 231 43 0) 231 24 (((S.1 231 24) + 1) + 1)).1 231 20 = S.1 231 20 := (uF_ne (fun h => absurd h.2 (by decide))).trans ((uF_ne (fun h => absurd h.2 (by decide))).trans (uF_ne (fun h => absurd h.2 (by decide))))
          have lk_290 : (uF (uF (uF S 231 24 ((S.1 231 24) + 1)) 231 43 0) 231 24 (((S.1 231 24) + 1) + 1)).1 231 24 = ((S.1 231 24) + 1) + 1 := uF_on
          have kr_291 : KRr (uF (uF (uF S 231 24 ((S.1 231 24) + 1)) 231 43 0) 231 24 (((S.1 231 24) + 1) + 1)) k v T := hkr.of (funext fun j => (uF_a).trans ((uF_a).trans (uF_a))) (funext fun j => (uF_a).trans ((uF_a).trans (uF_a))) (funext fun j => (uF_a).trans ((uF_a).trans (uF_a))) (funext fun j => (uF_a).trans ((uF_a).trans (uF_a))) (funext fun j => (uF_a).trans ((uF_a).trans (uF_a)))
          have nr_292 : NRr N k v (uF (uF (uF S 231 24 ((S.1 231 24) + 1)) 231 43 0) 231 24 (((S.1 231 24) + 1) + 1)) := hNr.of ((uF_ne (fun h => absurd h.2 (by decide))).trans ((uF_ne (fun h => absurd h.2 (by decide))).trans (uF_ne (fun h => absurd h.2 (by decide))))) (funext fun j => (uF_a).trans ((uF_a).trans (uF_a))) (funext fun j => (uF_a).trans ((uF_a).trans (uF_a))) (funext fun j => (uF_a).trans ((uF_a).trans (uF_a))) (funext fun j => (uF_a).trans ((uF_a).trans (uF_a))) (funext fun j => (uF_a).trans ((uF_a).trans (uF_a))) (funext fun j => (uF_a).trans ((uF_a).trans (uF_a)))
          refine sBv (sV (As := []) (rest := []) (k := 231) Cx (e_X12_index l G (uF (uF (uF S 231 24 ((S.1 231 24) + 1)) 231 43 0) 231 24 (((S.1 231 24) + 1) + 1)) (pz := ((pz) + 1) + 1) (q := qa) i_286 kr_291 nr_292 hK_ hTV (by omega) (by omega) gx1 (by omega) (by omega)) (c_X12_444 Cx rfl rfl (rmk_ok (by omega) (by decide))) hW (by decide) rfl rfl rfl hl.1 rfl (Nat.le_of_ble_eq_true rfl) dX12_named_116 ⟨Nat.le_of_ble_eq_true rfl, Nat.le_of_ble_eq_true rfl⟩) hL (fun u_293 H locs k_294 hW hL => ?_)
          obtain ⟨iu_293, fu_293, gu_293, xu_293⟩ := k_294
          have F_295 := F_282.trans (fu_293.to (pl_sub (by decide)))
          have F_296 := F_283.trans fu_293
          have g_297 : FF S u_293 (fl [20, 21, 24, 43]) := FF.trans g_284 (FF.to gu_293 (fl_sub (by decide)))
          have g_298 : FF ((uF S 231 24 ((S.1 231 24) + 1))) u_293 (fl [20, 21, 24, 43]) := FF.trans g_285 (FF.to gu_293 (fl_sub (by decide)))
          refine lv_aload_n hx hb dX12_named_119 rfl (lv_at hl 4 rfl) ?_
          have q_299 : (-2147483648) ≤ u_293.1 231 20 ∧ u_293.1 231 20 ≤ 2147483647 := iu_293.fi 20
          refine g_X12_270 Cx hW (k := 231) (by decide) rfl (v := u_293.1 231 20) rfl dX12_named_120 ?_
          refine r_if_ne (tgt := 149) hx hb ⟨(by omega), (by omega)⟩ dX12_named_123 (by decide) (fun c_300 => ?_) (fun c_300 => ?_)
          · refine lv_aload_n hx hb dX12_named_149 rfl (lv_at hl 4 rfl) ?_
            refine lv_dup hx hb dX12_named_150 rfl ?_
            have q_301 : (-2147483648) ≤ u_293.1 231 24 ∧ u_293.1 231 24 ≤ 2147483647 := iu_293.fi 24
            refine g_X12_315 Cx hW (k := 231) (by decide) rfl (v := u_293.1 231 24) rfl dX12_named_151 ?_
            refine lv_iconst (v := iv 1) hx hb dX12_named_154 (by decide) ?_
            refine r_iadd hx hb dX12_named_155 ?_
            refine p_X12_315 Cx hW hL (k := 231) (by decide) rfl dX12_named_156 (fun H locs hW hL => ?_)
            have F_302 : Fr S (uF u_293 231 24 ((u_293.1 231 24) + 1)) (pl [231, 257, 258]) := F_295.F rfl
            have F_303 : Fr ((uF S 231 24 ((S.1 231 24) + 1))) (uF u_293 231 24 ((u_293.1 231 24) + 1)) (pl [231, 258]) := F_296.F rfl
            have g_304 : FF S (uF u_293 231 24 ((u_293.1 231 24) + 1)) (fl [20, 21, 24, 43]) := FF.F g_297 rfl
            have g_305 : FF ((uF S 231 24 ((S.1 231 24) + 1))) (uF u_293 231 24 ((u_293.1 231 24) + 1)) (fl [20, 21, 24, 43]) := FF.F g_298 rfl
            have i_306 : dX G (uF u_293 231 24 ((u_293.1 231 24) + 1)) := iu_293.F (i := 24) (show (-2147483648) ≤ (u_293.1 231 24) + 1 ∧ (u_293.1 231 24) + 1 ≤ 2147483647 from ⟨by omega, by omega⟩)
            refine lv_aload_n hx hb dX12_named_159 rfl (lv_at hl 4 rfl) ?_
            refine g_X12_270 Cx hW (k := 231) (by decide) rfl (v := u_293.1 231 20) (uF_ne (fun h => absurd h.2 (by decide))) dX12_named_160 ?_
            refine r_if_eq (tgt := 167) hx hb ⟨(by omega), (by omega)⟩ dX12_named_163 (by decide) (fun c => absurd c (by omega)) (fun _ => ?_)
            have lk_307 : (uF u_293 231 24 ((u_293.1 231 24) + 1)).1 231 24 = (u_293.1 231 24) + 1 := uF_on
            have q_308 : (-2147483648) ≤ S.1 231 42 ∧ S.1 231 42 ≤ 2147483647 := hI.fi 42
            have lk_309 : (uF u_293 231 24 ((u_293.1 231 24) + 1)).1 231 42 = S.1 231 42 := (uF_ne (fun h => absurd h.2 (by decide))).trans ((gu_293 42 rfl).trans ((uF_ne (fun h => absurd h.2 (by decide))).trans ((uF_ne (fun h => absurd h.2 (by decide))).trans (uF_ne (fun h => absurd h.2 (by decide))))))
            have lk_310 : (uF u_293 231 24 ((u_293.1 231 24) + 1)).1 231 20 = u_293.1 231 20 := uF_ne (fun h => absurd h.2 (by decide))
            exact sVret Cx hr hlk hW hL ⟨i_306, F_302, g_304, ⟨⟨(fun j a => (uF_l).trans (((fu_293 257 rfl).2.2.1 j).trans ((uF_l).trans ((uF_l).trans (uF_l))))), (fun h => absurd h (by have e9 := (show (uF u_293 231 24 ((u_293.1 231 24) + 1)).1 231 20 = u_293.1 231 20 from uF_ne (fun h => absurd h.2 (by decide))); omega)), (fun _ => (eN_2 fe hj0 h7 k17 (xu_293.2.1 (by omega))))⟩, (by have e7c := (show (uF u_293 231 24 ((u_293.1 231 24) + 1)).1 231 24 = (u_293.1 231 24) + 1 from uF_on); omega)⟩⟩ dX12_named_166
          · have b1 := xu_293.2.2 (by omega)
            have b1c := b1.2.1; have b1d := b1.2.2.1
            refine lv_aload_n hx hb dX12_named_126 rfl (lv_at hl 4 rfl) ?_
            refine lv_bipush (v := iv 44) hx hb dX12_named_127 (by decide) ?_
            have q_311 : (-2147483648) ≤ u_293.1 231 24 ∧ u_293.1 231 24 ≤ 2147483647 := iu_293.fi 24
            refine sBi (sV (As := [.int (iv 44)]) (rest := []) (k := 231) Cx (s_X12_isSign l G u_293 (sv := 44) (K := K) (V := V) (pz := qa) iu_293 (by omega) ((funext fun j => ((fu_293 244 rfl).2.1 j).trans ((uF_a).trans ((uF_a).trans (uF_a))) : u_293.2.1 244 = S.2.1 244).trans hK) ((funext fun j => ((fu_293 247 rfl).2.1 j).trans ((uF_a).trans ((uF_a).trans (uF_a))) : u_293.2.1 247 = S.2.1 247).trans hV) (by omega) (by omega)) (c_X12_318 Cx rfl rfl (rmk_ok (by omega) (by decide))) hW (by decide) rfl rfl rfl hl.1 rfl (Nat.le_of_ble_eq_true rfl) dX12_named_129 ⟨Nat.le_of_ble_eq_true rfl, Nat.le_of_ble_eq_true rfl⟩) hL (fun r_314 u_312 H locs k_313 hW hL => ?_)
            obtain ⟨eu_312, xu_312⟩ := k_313
            rw [eu_312] at hW
            have tu_312a : Hd (r_314 = 1 → k (qa) = 16) := (fun h => by rw [← hkk]; exact (osg_44 K V T _).1 (by omega) (by omega) (xu_312.2.1 h))
            have tu_312b : Hd (r_314 ≠ 1 → k (qa) ≠ 16) := (fun h z => xu_312.2.2 h ((osg_44 K V T _).2 (by rw [hkk]; exact z)))
            refine r_if_eq (tgt := 149) hx hb ⟨(by omega), (by omega)⟩ dX12_named_132 (by decide) (fun c_315 => ?_) (fun c_315 => ?_)
            · have k16 : k qa ≠ 16 := tu_312b (by omega)
              have hq9 : q = qa + 1 := (by rcases gy1 with z | z; (exact absurd z.1 k16); (exact z.2.2))
              refine lv_aload_n hx hb dX12_named_149 rfl (lv_at hl 4 rfl) ?_
              refine lv_dup hx hb dX12_named_150 rfl ?_
              refine g_X12_315 Cx hW (k := 231) (by decide) rfl (v := u_293.1 231 24) rfl dX12_named_151 ?_
              refine lv_iconst (v := iv 1) hx hb dX12_named_154 (by decide) ?_
              refine r_iadd hx hb dX12_named_155 ?_
              refine p_X12_315 Cx hW hL (k := 231) (by decide) rfl dX12_named_156 (fun H locs hW hL => ?_)
              have F_316 : Fr S (uF u_293 231 24 ((u_293.1 231 24) + 1)) (pl [231, 257, 258]) := F_295.F rfl
              have F_317 : Fr ((uF S 231 24 ((S.1 231 24) + 1))) (uF u_293 231 24 ((u_293.1 231 24) + 1)) (pl [231, 258]) := F_296.F rfl
              have g_318 : FF S (uF u_293 231 24 ((u_293.1 231 24) + 1)) (fl [20, 21, 24, 43]) := FF.F g_297 rfl
              have g_319 : FF ((uF S 231 24 ((S.1 231 24) + 1))) (uF u_293 231 24 ((u_293.1 231 24) + 1)) (fl [20, 21, 24, 43]) := FF.F g_298 rfl
              have i_320 : dX G (uF u_293 231 24 ((u_293.1 231 24) + 1)) := iu_293.F (i := 24) (show (-2147483648) ≤ (u_293.1 231 24) + 1 ∧ (u_293.1 231 24) + 1 ≤ 2147483647 from ⟨by omega, by omega⟩)
              refine lv_aload_n hx hb dX12_named_159 rfl (lv_at hl 4 rfl) ?_
              refine g_X12_270 Cx hW (k := 231) (by decide) rfl (v := u_293.1 231 20) (uF_ne (fun h => absurd h.2 (by decide))) dX12_named_160 ?_
              refine r_if_eq (tgt := 167) hx hb ⟨(by omega), (by omega)⟩ dX12_named_163 (by decide) (fun _ => ?_) (fun c => absurd (by omega) c)
              have lk_321 : (uF u_293 231 24 ((u_293.1 231 24) + 1)).1 231 20 = u_293.1 231 20 := uF_ne (fun h => absurd h.2 (by decide))
              have lk_322 : (uF u_293 231 24 ((u_293.1 231 24) + 1)).1 231 24 = (u_293.1 231 24) + 1 := uF_on
              have q_323 : (-2147483648) ≤ u_293.1 231 43 ∧ u_293.1 231 43 ≤ 2147483647 := iu_293.fi 43
              have lk_324 : (uF u_293 231 24 ((u_293.1 231 24) + 1)).1 231 43 = u_293.1 231 43 := uF_ne (fun h => absurd h.2 (by decide))
              exact join_167 (uF u_293 231 24 ((u_293.1 231 24) + 1))  _ _ _ i_320 F_316 F_317 g_318 g_319 h7 (by have e6 := (show (uF u_293 231 24 ((u_293.1 231 24) + 1)).1 231 43 = u_293.1 231 43 from uF_ne (fun h => absurd h.2 (by decide))); have e7 := (show (uF u_293 231 24 ((u_293.1 231 24) + 1)).1 231 24 = (u_293.1 231 24) + 1 from uF_on); have e8 := (show (uF u_293 231 24 ((u_293.1 231 24) + 1)).1 231 20 = u_293.1 231 20 from uF_ne (fun h => absurd h.2 (by decide))); omega) (by have z1 := b1.1; rw [show (uF (uF (uF S 231 24 ((S.1 231 24) + 1)) 231 43 0) 231 24 (((S.1 231 24) + 1) + 1)).1 231 43 = 0 by have e6 := (show (uF (uF (uF S 231 24 ((S.1 231 24) + 1)) 231 43 0) 231 24 (((S.1 231 24) + 1) + 1)).1 231 43 = 0 from (uF_ne (fun h => absurd h.2 (by decide))).trans (uF_on)); omega] at z1; rw [show (uF u_293 231 24 ((u_293.1 231 24) + 1)).1 231 43 = 1 by have e6 := (show (uF u_293 231 24 ((u_293.1 231 24) + 1)).1 231 43 = u_293.1 231 43 from uF_ne (fun h => absurd h.2 (by decide))); omega, show (uF u_293 231 24 ((u_293.1 231 24) + 1)).2.1 258 0 = u_293.2.1 258 0 from uF_a]; exact eN_b fe hj0 h7 k17 z1 k16 hq9) hW hL (lv_sub hl [0, 1, 2, 3, 4, 5] rfl)
            · have k16 : k qa = 16 := tu_312a (by omega)
              obtain ⟨qb, gx2, gy2, gz2⟩ : ∃ b, ogX k (qa + 1) = some b ∧ k b = 18 ∧ q = b + 1 := (by rcases gy1 with z | z; (exact z.2); (exact absurd k16 z.1))
              have gq2 := ogX_inc _ _ gx2
              refine lv_aload_n hx hb dX12_named_135 rfl (lv_at hl 4 rfl) ?_
              refine lv_dup hx hb dX12_named_136 rfl ?_
              refine g_X12_315 Cx hW (k := 231) (by decide) rfl (v := u_293.1 231 24) rfl dX12_named_137 ?_
              refine lv_iconst (v := iv 1) hx hb dX12_named_140 (by decide) ?_
              refine r_iadd hx hb dX12_named_141 ?_
              refine p_X12_315 Cx hW hL (k := 231) (by decide) rfl dX12_named_142 (fun H locs hW hL => ?_)
              have F_325 : Fr S (uF u_293 231 24 ((u_293.1 231 24) + 1)) (pl [231, 257, 258]) := F_295.F rfl
              have F_326 : Fr ((uF S 231 24 ((S.1 231 24) + 1))) (uF u_293 231 24 ((u_293.1 231 24) + 1)) (pl [231, 258]) := F_296.F rfl
              have g_327 : FF S (uF u_293 231 24 ((u_293.1 231 24) + 1)) (fl [20, 21, 24, 43]) := FF.F g_297 rfl
              have g_328 : FF ((uF S 231 24 ((S.1 231 24) + 1))) (uF u_293 231 24 ((u_293.1 231 24) + 1)) (fl [20, 21, 24, 43]) := FF.F g_298 rfl
              have i_329 : dX G (uF u_293 231 24 ((u_293.1 231 24) + 1)) := iu_293.F (i := 24) (show (-2147483648) ≤ (u_293.1 231 24) + 1 ∧ (u_293.1 231 24) + 1 ≤ 2147483647 from ⟨by omega, by omega⟩)
              refine lv_aload_n hx hb dX12_named_145 rfl (lv_at hl 4 rfl) ?_
              have q_330 : (-2147483648) ≤ u_293.1 231 43 ∧ u_293.1 231 43 ≤ 2147483647 := iu_293.fi 43
              have lk_331 : (uF u_293 231 24 ((u_293.1 231 24) + 1)).1 231 43 = u_293.1 231 43 := uF_ne (fun h => absurd h.2 (by decide))
              have lk_332 : (uF u_293 231 24 ((u_293.1 231 24) + 1)).1 231 20 = u_293.1 231 20 := uF_ne (fun h => absurd h.2 (by decide))
              have lk_333 : (uF u_293 231 24 ((u_293.1 231 24) + 1)).1 231 24 = (u_293.1 231 24) + 1 := uF_on
              have kr_334 : KRr (uF u_293 231 24 ((u_293.1 231 24) + 1)) k v T := hkr.of (funext fun j => (uF_a).trans (((fu_293 243 rfl).2.1 j).trans ((uF_a).trans ((uF_a).trans (uF_a))))) (funext fun j => (uF_a).trans (((fu_293 244 rfl).2.1 j).trans ((uF_a).trans ((uF_a).trans (uF_a))))) (funext fun j => (uF_a).trans (((fu_293 245 rfl).2.1 j).trans ((uF_a).trans ((uF_a).trans (uF_a))))) (funext fun j => (uF_a).trans (((fu_293 246 rfl).2.1 j).trans ((uF_a).trans ((uF_a).trans (uF_a))))) (funext fun j => (uF_a).trans (((fu_293 247 rfl).2.1 j).trans ((uF_a).trans ((uF_a).trans (uF_a)))))
              have nr_335 : NRr N k v (uF u_293 231 24 ((u_293.1 231 24) + 1)) := hNr.of ((uF_ne (fun h => absurd h.2 (by decide))).trans ((gu_293 25 rfl).trans ((uF_ne (fun h => absurd h.2 (by decide))).trans ((uF_ne (fun h => absurd h.2 (by decide))).trans (uF_ne (fun h => absurd h.2 (by decide))))))) (funext fun j => (uF_a).trans (((fu_293 248 rfl).2.1 j).trans ((uF_a).trans ((uF_a).trans (uF_a))))) (funext fun j => (uF_a).trans (((fu_293 249 rfl).2.1 j).trans ((uF_a).trans ((uF_a).trans (uF_a))))) (funext fun j => (uF_a).trans (((fu_293 250 rfl).2.1 j).trans ((uF_a).trans ((uF_a).trans (uF_a))))) (funext fun j => (uF_a).trans (((fu_293 251 rfl).2.1 j).trans ((uF_a).trans ((uF_a).trans (uF_a))))) (funext fun j => (uF_a).trans (((fu_293 252 rfl).2.1 j).trans ((uF_a).trans ((uF_a).trans (uF_a))))) (funext fun j => (uF_a).trans (((fu_293 253 rfl).2.1 j).trans ((uF_a).trans ((uF_a).trans (uF_a)))))
              refine sBv (sV (As := []) (rest := []) (k := 231) Cx (e_X12_index l G (uF u_293 231 24 ((u_293.1 231 24) + 1)) (pz := qa + 1) (q := qb) i_329 kr_334 nr_335 hK_ hTV (by omega) (by omega) gx2 (by omega) (by omega)) (c_X12_444 Cx rfl rfl (rmk_ok (by omega) (by decide))) hW (by decide) rfl rfl rfl hl.1 rfl (Nat.le_of_ble_eq_true rfl) dX12_named_146 ⟨Nat.le_of_ble_eq_true rfl, Nat.le_of_ble_eq_true rfl⟩) hL (fun u_336 H locs k_337 hW hL => ?_)
              obtain ⟨iu_336, fu_336, gu_336, xu_336⟩ := k_337
              have F_338 := F_325.trans (fu_336.to (pl_sub (by decide)))
              have F_339 := F_326.trans fu_336
              have g_340 : FF S u_336 (fl [20, 21, 24, 43]) := FF.trans g_327 (FF.to gu_336 (fl_sub (by decide)))
              have g_341 : FF ((uF S 231 24 ((S.1 231 24) + 1))) u_336 (fl [20, 21, 24, 43]) := FF.trans g_328 (FF.to gu_336 (fl_sub (by decide)))
              refine lv_aload_n hx hb dX12_named_149 rfl (lv_at hl 4 rfl) ?_
              refine lv_dup hx hb dX12_named_150 rfl ?_
              have q_342 : (-2147483648) ≤ u_336.1 231 24 ∧ u_336.1 231 24 ≤ 2147483647 := iu_336.fi 24
              refine g_X12_315 Cx hW (k := 231) (by decide) rfl (v := u_336.1 231 24) rfl dX12_named_151 ?_
              refine lv_iconst (v := iv 1) hx hb dX12_named_154 (by decide) ?_
              refine r_iadd hx hb dX12_named_155 ?_
              refine p_X12_315 Cx hW hL (k := 231) (by decide) rfl dX12_named_156 (fun H locs hW hL => ?_)
              have F_343 : Fr S (uF u_336 231 24 ((u_336.1 231 24) + 1)) (pl [231, 257, 258]) := F_338.F rfl
              have F_344 : Fr ((uF S 231 24 ((S.1 231 24) + 1))) (uF u_336 231 24 ((u_336.1 231 24) + 1)) (pl [231, 258]) := F_339.F rfl
              have g_345 : FF S (uF u_336 231 24 ((u_336.1 231 24) + 1)) (fl [20, 21, 24, 43]) := FF.F g_340 rfl
              have g_346 : FF ((uF S 231 24 ((S.1 231 24) + 1))) (uF u_336 231 24 ((u_336.1 231 24) + 1)) (fl [20, 21, 24, 43]) := FF.F g_341 rfl
              have i_347 : dX G (uF u_336 231 24 ((u_336.1 231 24) + 1)) := iu_336.F (i := 24) (show (-2147483648) ≤ (u_336.1 231 24) + 1 ∧ (u_336.1 231 24) + 1 ≤ 2147483647 from ⟨by omega, by omega⟩)
              refine lv_aload_n hx hb dX12_named_159 rfl (lv_at hl 4 rfl) ?_
              have q_348 : (-2147483648) ≤ u_336.1 231 20 ∧ u_336.1 231 20 ≤ 2147483647 := iu_336.fi 20
              refine g_X12_270 Cx hW (k := 231) (by decide) rfl (v := u_336.1 231 20) (uF_ne (fun h => absurd h.2 (by decide))) dX12_named_160 ?_
              refine r_if_eq (tgt := 167) hx hb ⟨(by omega), (by omega)⟩ dX12_named_163 (by decide) (fun c_349 => ?_) (fun c_349 => ?_)
              · have lk_350 : (uF u_336 231 24 ((u_336.1 231 24) + 1)).1 231 20 = u_336.1 231 20 := uF_ne (fun h => absurd h.2 (by decide))
                have lk_351 : (uF u_336 231 24 ((u_336.1 231 24) + 1)).1 231 24 = (u_336.1 231 24) + 1 := uF_on
                have q_352 : (-2147483648) ≤ u_336.1 231 43 ∧ u_336.1 231 43 ≤ 2147483647 := iu_336.fi 43
                have lk_353 : (uF u_336 231 24 ((u_336.1 231 24) + 1)).1 231 43 = u_336.1 231 43 := uF_ne (fun h => absurd h.2 (by decide))
                exact join_167 (uF u_336 231 24 ((u_336.1 231 24) + 1))  _ _ _ i_347 F_343 F_344 g_345 g_346 h7 (by have e6 := (show (uF u_336 231 24 ((u_336.1 231 24) + 1)).1 231 43 = u_336.1 231 43 from uF_ne (fun h => absurd h.2 (by decide))); have e7 := (show (uF u_336 231 24 ((u_336.1 231 24) + 1)).1 231 24 = (u_336.1 231 24) + 1 from uF_on); have e8 := (show (uF u_336 231 24 ((u_336.1 231 24) + 1)).1 231 20 = u_336.1 231 20 from uF_ne (fun h => absurd h.2 (by decide))); have b2 := xu_336.2.2 (by omega); have b2c := b2.2.1; have b2d := b2.2.2.1; omega) (by have b2 := xu_336.2.2 (by omega); have b2d := b2.2.2.1; have z1 := b1.1; rw [show (uF (uF (uF S 231 24 ((S.1 231 24) + 1)) 231 43 0) 231 24 (((S.1 231 24) + 1) + 1)).1 231 43 = 0 by have e6 := (show (uF (uF (uF S 231 24 ((S.1 231 24) + 1)) 231 43 0) 231 24 (((S.1 231 24) + 1) + 1)).1 231 43 = 0 from (uF_ne (fun h => absurd h.2 (by decide))).trans (uF_on)); omega] at z1; have z2 := b2.1; rw [show (uF u_293 231 24 ((u_293.1 231 24) + 1)).1 231 43 = 1 by have e6 := (show (uF u_293 231 24 ((u_293.1 231 24) + 1)).1 231 43 = u_293.1 231 43 from uF_ne (fun h => absurd h.2 (by decide))); omega] at z2; have z3 := b2.2.2.2 0 (by rw [show (uF u_293 231 24 ((u_293.1 231 24) + 1)).1 231 43 = 1 by have e6 := (show (uF u_293 231 24 ((u_293.1 231 24) + 1)).1 231 43 = u_293.1 231 43 from uF_ne (fun h => absurd h.2 (by decide))); omega]; decide); rw [show (uF u_336 231 24 ((u_336.1 231 24) + 1)).1 231 43 = 2 by have e6 := (show (uF u_336 231 24 ((u_336.1 231 24) + 1)).1 231 43 = u_336.1 231 43 from uF_ne (fun h => absurd h.2 (by decide))); have e5 : (uF u_293 231 24 ((u_293.1 231 24) + 1)).1 231 43 = 1 := (by have e6 := (show (uF u_293 231 24 ((u_293.1 231 24) + 1)).1 231 43 = u_293.1 231 43 from uF_ne (fun h => absurd h.2 (by decide))); omega); omega, show (uF u_336 231 24 ((u_336.1 231 24) + 1)).2.1 258 0 = u_336.2.1 258 0 from uF_a, show (uF u_336 231 24 ((u_336.1 231 24) + 1)).2.1 258 1 = u_336.2.1 258 1 from uF_a, z3, show (uF u_293 231 24 ((u_293.1 231 24) + 1)).2.1 258 0 = u_293.2.1 258 0 from uF_a]; exact eN_c fe hj0 h7 k17 z1 k16 z2 gz2) hW hL (lv_sub hl [0, 1, 2, 3, 4, 5] rfl)
              · have lk_354 : (uF u_336 231 24 ((u_336.1 231 24) + 1)).1 231 24 = (u_336.1 231 24) + 1 := uF_on
                have q_355 : (-2147483648) ≤ S.1 231 42 ∧ S.1 231 42 ≤ 2147483647 := hI.fi 42
                have lk_356 : (uF u_336 231 24 ((u_336.1 231 24) + 1)).1 231 42 = S.1 231 42 := (uF_ne (fun h => absurd h.2 (by decide))).trans ((gu_336 42 rfl).trans ((uF_ne (fun h => absurd h.2 (by decide))).trans ((gu_293 42 rfl).trans ((uF_ne (fun h => absurd h.2 (by decide))).trans ((uF_ne (fun h => absurd h.2 (by decide))).trans (uF_ne (fun h => absurd h.2 (by decide))))))))
                have lk_357 : (uF u_336 231 24 ((u_336.1 231 24) + 1)).1 231 20 = u_336.1 231 20 := uF_ne (fun h => absurd h.2 (by decide))
                exact sVret Cx hr hlk hW hL ⟨i_347, F_343, g_345, ⟨⟨(fun j a => (uF_l).trans (((fu_336 257 rfl).2.2.1 j).trans ((uF_l).trans (((fu_293 257 rfl).2.2.1 j).trans ((uF_l).trans ((uF_l).trans (uF_l))))))), (fun h => absurd h (by have e9 := (show (uF u_336 231 24 ((u_336.1 231 24) + 1)).1 231 20 = u_336.1 231 20 from uF_ne (fun h => absurd h.2 (by decide))); omega)), (fun _ => (by have z1 := b1.1; exact eN_4 fe hj0 h7 k17 z1 k16 (xu_336.2.1 (by omega))))⟩, (by have e7c := (show (uF u_336 231 24 ((u_336.1 231 24) + 1)).1 231 24 = (u_336.1 231 24) + 1 from uF_on); omega)⟩⟩ dX12_named_166
      · refine lv_iload hx hb dX12_named_58 (lv_at hl 0 rfl) ?_
        refine lv_iconst (v := iv 5) hx hb dX12_named_60 (by decide) ?_
        refine r_icmp_ne (tgt := 69) hx hb ⟨(by omega), (by omega)⟩ ⟨(by omega), (by omega)⟩ dX12_named_61 (by decide) (fun c_358 => ?_) (fun c_358 => ?_)
        · refine lv_aload_n hx hb dX12_named_69 rfl (lv_at hl 4 rfl) ?_
          refine lv_iconst (v := iv 2) hx hb dX12_named_70 (by decide) ?_
          refine lv_iload_n hx hb dX12_named_71 rfl (lv_at hl 3 rfl) ?_
          refine sBv (sV (As := [.int (iv 2), .int (iv (S.1 231 24))]) (rest := []) (k := 231) Cx (s_X12_wrong l G (uF S 231 24 ((S.1 231 24) + 1)) (cd := 2) (tk := S.1 231 24) i_7 (by omega) (by omega)) (c_X12_321 Cx rfl rfl (rmk_ok (by omega) (by decide))) hW (by decide) rfl rfl rfl hl.1 rfl (Nat.le_of_ble_eq_true rfl) dX12_named_72 ⟨Nat.le_of_ble_eq_true rfl, Nat.le_of_ble_eq_true rfl⟩) hL (fun u_359 H locs k_360 hW hL => ?_)
          obtain ⟨iu_359, fu_359, gu_359, xu_359⟩ := k_360
          have F_361 := F_5.trans (fu_359.to (pl_sub (by decide)))
          have F_362 := (Fr.rf : Fr (uF S 231 24 ((S.1 231 24) + 1)) (uF S 231 24 ((S.1 231 24) + 1)) (pl [231, 258])).trans (fu_359.to (pl_sub (by decide)))
          have g_363 : FF S u_359 (fl [20, 21, 24, 43]) := FF.trans g_6 (FF.to gu_359 (fl_sub (by decide)))
          have g_364 : FF ((uF S 231 24 ((S.1 231 24) + 1))) u_359 (fl [20, 21, 24, 43]) := FF.trans (FF.rf : FF ((uF S 231 24 ((S.1 231 24) + 1))) ((uF S 231 24 ((S.1 231 24) + 1))) (fl [20, 21, 24, 43])) (FF.to gu_359 (fl_sub (by decide)))
          have lk_365 : u_359.1 231 24 = (S.1 231 24) + 1 := (gu_359 24 rfl).trans (uF_on)
          have q_366 : (-2147483648) ≤ S.1 231 42 ∧ S.1 231 42 ≤ 2147483647 := hI.fi 42
          have lk_367 : u_359.1 231 42 = S.1 231 42 := (gu_359 42 rfl).trans (uF_ne (fun h => absurd h.2 (by decide)))
          have q_368 : (-2147483648) ≤ u_359.1 231 20 ∧ u_359.1 231 20 ≤ 2147483647 := iu_359.fi 20
          exact sVret Cx hr hlk hW hL ⟨iu_359, F_361, g_363, ⟨⟨(fun j a => ((fu_359 257 rfl).2.2.1 j).trans (uF_l)), (fun h => absurd h (by have e9 := (show u_359.1 231 20 = u_359.1 231 20 from rfl); have a9 := xu_359; omega)), (fun _ => (eN_z fe (fun z => by have z9 : 0 ≤ j := (by rcases z with z | z; (exact z.1); (exact z.1)); have c1 := cs_i (hNr.2.2 j z9 (by omega)).1; have c2 := c1.2.1; have c3 := c1.2.2.1; have c4 := c1.2.2.2.1; rcases z with z | z; (have z2 := z.2.1; have z3 := z.2.2; first | omega | (exact z3 (by omega))); (rcases z.2 with z2 | z2 <;> omega))))⟩, (by have e7c := (show u_359.1 231 24 = (S.1 231 24) + 1 from (gu_359 24 rfl).trans (uF_on)); omega)⟩⟩ dX12_named_75
        · refine lv_iload hx hb dX12_named_64 (lv_at hl 1 rfl) ?_
          refine r_if_eq (tgt := 76) hx hb ⟨(by omega), (by omega)⟩ dX12_named_66 (by decide) (fun c_369 => ?_) (fun c_369 => ?_)
          · refine lv_iload hx hb dX12_named_76 (lv_at hl 0 rfl) ?_
            refine lv_iconst (v := iv 5) hx hb dX12_named_78 (by decide) ?_
            refine r_icmp_ne (tgt := 95) hx hb ⟨(by omega), (by omega)⟩ ⟨(by omega), (by omega)⟩ dX12_named_79 (by decide) (fun c => absurd (by omega) c) (fun _ => ?_)
            have n5 : N.2.2.1 j 0 = 2 := csj.2.2.2.1.mp (by omega)
            have nk : k (pz + 1) ≠ 17 := tu_9b (by omega)
            have hq9 : q = pz + 1 := (by rcases hgx with z | z; (exact absurd z.1 nk); (exact z.2))
            have n1 := n2.2.2.1 n5
            have nb := (hK_.2 j (by omega) (by omega)).1 n5
            refine lv_aload_n hx hb dX12_named_82 rfl (lv_at hl 4 rfl) ?_
            refine lv_iload_n hx hb dX12_named_83 rfl (lv_at hl 5 rfl) ?_
            refine lv_aload_n hx hb dX12_named_84 rfl (lv_at hl 4 rfl) ?_
            refine g_X12_71 Cx hW (k := 231) (by decide) rfl (v := .ref (G.2.2.1 + 252)) (rd_30 i_7) dX12_named_85 ?_
            refine lv_iload_n hx hb dX12_named_88 rfl (lv_at hl 2 rfl) ?_
            refine rIald Cx hW (k := 252) (by decide) rfl (by decide) (by omega) (by omega) dX12_named_89 ?_
            have q_370 : (-2147483648) ≤ S.2.1 252 j ∧ S.2.1 252 j ≤ 2147483647 := hI.ai 252 j
            refine r_i (b := S.2.1 252 j) uF_a ?_
            refine r_i2l hx hb ⟨(by omega), (by omega)⟩ dX12_named_90 ?_
            refine sBv (sV (As := [.int (iv ix), .long (jv (S.2.1 252 j))]) (rest := []) (k := 231) Cx (e_X12_constant l G (uF S 231 24 ((S.1 231 24) + 1)) (ix := ix) (cv := S.2.1 252 j) i_7 (by omega) (by omega)) (c_X12_431 Cx rfl rfl (rmk_ok (by omega) (by decide))) hW (by decide) rfl rfl rfl hl.1 rfl (Nat.le_of_ble_eq_true rfl) dX12_named_91 ⟨Nat.le_of_ble_eq_true rfl, Nat.le_of_ble_eq_true rfl⟩) hL (fun u_371 H locs k_372 hW hL => ?_)
            obtain ⟨iu_371, fu_371, gu_371, xu_371⟩ := k_372
            have F_373 := F_5.trans (fu_371.to (pl_sub (by decide)))
            have g_374 : FF S u_371 (fl [20, 21, 24, 43]) := FF.trans g_6 (FF.to gu_371 (fl_sub (by decide)))
            have g_375 : FF ((uF S 231 24 ((S.1 231 24) + 1))) u_371 (fl [20, 21, 24, 43]) := FF.trans (FF.rf : FF ((uF S 231 24 ((S.1 231 24) + 1))) ((uF S 231 24 ((S.1 231 24) + 1))) (fl [20, 21, 24, 43])) (FF.to gu_371 (fl_sub (by decide)))
            have lk_376 : u_371.1 231 24 = (S.1 231 24) + 1 := (gu_371 24 rfl).trans (uF_on)
            have q_377 : (-2147483648) ≤ S.1 231 42 ∧ S.1 231 42 ≤ 2147483647 := hI.fi 42
            have lk_378 : u_371.1 231 42 = S.1 231 42 := (gu_371 42 rfl).trans (uF_ne (fun h => absurd h.2 (by decide)))
            have q_379 : (-2147483648) ≤ S.1 231 20 ∧ S.1 231 20 ≤ 2147483647 := hI.fi 20
            have lk_380 : u_371.1 231 20 = S.1 231 20 := (gu_371 20 rfl).trans (uF_ne (fun h => absurd h.2 (by decide)))
            have nr_381 : NRr N k v u_371 := hNr.of ((gu_371 25 rfl).trans (uF_ne (fun h => absurd h.2 (by decide)))) (funext fun j => ((fu_371 248 rfl).2.1 j).trans (uF_a)) (funext fun j => ((fu_371 249 rfl).2.1 j).trans (uF_a)) (funext fun j => ((fu_371 250 rfl).2.1 j).trans (uF_a)) (funext fun j => ((fu_371 251 rfl).2.1 j).trans (uF_a)) (funext fun j => ((fu_371 252 rfl).2.1 j).trans (uF_a)) (funext fun j => ((fu_371 253 rfl).2.1 j).trans (uF_a))
            exact sVret Cx hr hlk hW hL ⟨iu_371, F_373, g_374, ⟨⟨(fun jj a => (xu_371.2 jj a).trans (uF_l)), (fun _ => ⟨(cst (S.2.1 252 j)), (by rw [show u_371.1 231 42 = S.1 231 42 from (gu_371 42 rfl).trans (uF_ne (fun h => absurd h.2 (by decide))), eN_0 fe hj0 n5 nk, n1, show q = pz + 1 from (by rcases hgx with z | z; (exact absurd z.1 nk); (exact z.2))]), xu_371.1, (vb9_cst (by omega)), ⟨by omega, by omega⟩, (by have e7 := (show u_371.1 231 24 = (S.1 231 24) + 1 from (gu_371 24 rfl).trans (uF_on)); omega), nr_381⟩), (fun h => absurd (show u_371.1 231 20 = 0 by have e9 := (show u_371.1 231 20 = S.1 231 20 from (gu_371 20 rfl).trans (uF_ne (fun h => absurd h.2 (by decide)))); omega) h)⟩, (by have e7c := (show u_371.1 231 24 = (S.1 231 24) + 1 from (gu_371 24 rfl).trans (uF_on)); omega)⟩⟩ dX12_named_94
          · refine lv_aload_n hx hb dX12_named_69 rfl (lv_at hl 4 rfl) ?_
            refine lv_iconst (v := iv 2) hx hb dX12_named_70 (by decide) ?_
            refine lv_iload_n hx hb dX12_named_71 rfl (lv_at hl 3 rfl) ?_
            refine sBv (sV (As := [.int (iv 2), .int (iv (S.1 231 24))]) (rest := []) (k := 231) Cx (s_X12_wrong l G (uF S 231 24 ((S.1 231 24) + 1)) (cd := 2) (tk := S.1 231 24) i_7 (by omega) (by omega)) (c_X12_321 Cx rfl rfl (rmk_ok (by omega) (by decide))) hW (by decide) rfl rfl rfl hl.1 rfl (Nat.le_of_ble_eq_true rfl) dX12_named_72 ⟨Nat.le_of_ble_eq_true rfl, Nat.le_of_ble_eq_true rfl⟩) hL (fun u_382 H locs k_383 hW hL => ?_)
            obtain ⟨iu_382, fu_382, gu_382, xu_382⟩ := k_383
            have F_384 := F_5.trans (fu_382.to (pl_sub (by decide)))
            have F_385 := (Fr.rf : Fr (uF S 231 24 ((S.1 231 24) + 1)) (uF S 231 24 ((S.1 231 24) + 1)) (pl [231, 258])).trans (fu_382.to (pl_sub (by decide)))
            have g_386 : FF S u_382 (fl [20, 21, 24, 43]) := FF.trans g_6 (FF.to gu_382 (fl_sub (by decide)))
            have g_387 : FF ((uF S 231 24 ((S.1 231 24) + 1))) u_382 (fl [20, 21, 24, 43]) := FF.trans (FF.rf : FF ((uF S 231 24 ((S.1 231 24) + 1))) ((uF S 231 24 ((S.1 231 24) + 1))) (fl [20, 21, 24, 43])) (FF.to gu_382 (fl_sub (by decide)))
            have lk_388 : u_382.1 231 24 = (S.1 231 24) + 1 := (gu_382 24 rfl).trans (uF_on)
            have q_389 : (-2147483648) ≤ S.1 231 42 ∧ S.1 231 42 ≤ 2147483647 := hI.fi 42
            have lk_390 : u_382.1 231 42 = S.1 231 42 := (gu_382 42 rfl).trans (uF_ne (fun h => absurd h.2 (by decide)))
            have q_391 : (-2147483648) ≤ u_382.1 231 20 ∧ u_382.1 231 20 ≤ 2147483647 := iu_382.fi 20
            exact sVret Cx hr hlk hW hL ⟨iu_382, F_384, g_386, ⟨⟨(fun j a => ((fu_382 257 rfl).2.2.1 j).trans (uF_l)), (fun h => absurd h (by have e9 := (show u_382.1 231 20 = u_382.1 231 20 from rfl); have a9 := xu_382; omega)), (fun _ => (eN_z fe (fun z => by have z9 : 0 ≤ j := (by rcases z with z | z; (exact z.1); (exact z.1)); have c1 := cs_i (hNr.2.2 j z9 (by omega)).1; have c2 := c1.2.1; have c3 := c1.2.2.1; have c4 := c1.2.2.2.1; rcases z with z | z; (have z2 := z.2.1; have z3 := z.2.2; first | omega | (exact z3 (tu_9a (by omega)))); (rcases z.2 with z2 | z2 <;> omega))))⟩, (by have e7c := (show u_382.1 231 24 = (S.1 231 24) + 1 from (gu_382 24 rfl).trans (uF_on)); omega)⟩⟩ dX12_named_75
  · refine lv_iconst (v := iv 0) hx hb dX12_named_34 (by decide) ?_
    refine lv_goto (tgt := 44) hx hb dX12_named_35 (by decide) ?_
    refine lv_istore (lv' := [(5, .int (iv 0)), (4, .int (iv r_11)), (3, .int (iv j)), (2, .int (iv (S.1 231 24))), (0, .ref (G.2.2.1 + 231)), (1, .int (iv ix))]) hx hb dX12_named_44 hl (by decide) rfl (fun ls hl => ?_)
    refine lv_iload hx hb dX12_named_46 (lv_at hl 0 rfl) ?_
    refine lv_iconst (v := iv 2) hx hb dX12_named_48 (by decide) ?_
    refine r_icmp_eq (tgt := 76) hx hb ⟨(by omega), (by omega)⟩ ⟨(by omega), (by omega)⟩ dX12_named_49 (by decide) (fun c => absurd c (by omega)) (fun _ => ?_)
    refine lv_iload hx hb dX12_named_52 (lv_at hl 0 rfl) ?_
    refine lv_iconst (v := iv 3) hx hb dX12_named_54 (by decide) ?_
    refine r_icmp_eq (tgt := 76) hx hb ⟨(by omega), (by omega)⟩ ⟨(by omega), (by omega)⟩ dX12_named_55 (by decide) (fun c => absurd c (by omega)) (fun _ => ?_)
    refine lv_iload hx hb dX12_named_58 (lv_at hl 0 rfl) ?_
    refine lv_iconst (v := iv 5) hx hb dX12_named_60 (by decide) ?_
    refine r_icmp_ne (tgt := 69) hx hb ⟨(by omega), (by omega)⟩ ⟨(by omega), (by omega)⟩ dX12_named_61 (by decide) (fun _ => ?_) (fun c => absurd c (by omega))
    refine lv_aload_n hx hb dX12_named_69 rfl (lv_at hl 4 rfl) ?_
    refine lv_iconst (v := iv 2) hx hb dX12_named_70 (by decide) ?_
    refine lv_iload_n hx hb dX12_named_71 rfl (lv_at hl 3 rfl) ?_
    refine sBv (sV (As := [.int (iv 2), .int (iv (S.1 231 24))]) (rest := []) (k := 231) Cx (s_X12_wrong l G (uF S 231 24 ((S.1 231 24) + 1)) (cd := 2) (tk := S.1 231 24) i_7 (by omega) (by omega)) (c_X12_321 Cx rfl rfl (rmk_ok (by omega) (by decide))) hW (by decide) rfl rfl rfl hl.1 rfl (Nat.le_of_ble_eq_true rfl) dX12_named_72 ⟨Nat.le_of_ble_eq_true rfl, Nat.le_of_ble_eq_true rfl⟩) hL (fun u_392 H locs k_393 hW hL => ?_)
    obtain ⟨iu_392, fu_392, gu_392, xu_392⟩ := k_393
    have F_394 := F_5.trans (fu_392.to (pl_sub (by decide)))
    have g_395 : FF S u_392 (fl [20, 21, 24, 43]) := FF.trans g_6 (FF.to gu_392 (fl_sub (by decide)))
    have lk_396 : u_392.1 231 24 = (S.1 231 24) + 1 := (gu_392 24 rfl).trans (uF_on)
    have q_397 : (-2147483648) ≤ S.1 231 42 ∧ S.1 231 42 ≤ 2147483647 := hI.fi 42
    have lk_398 : u_392.1 231 42 = S.1 231 42 := (gu_392 42 rfl).trans (uF_ne (fun h => absurd h.2 (by decide)))
    have q_399 : (-2147483648) ≤ u_392.1 231 20 ∧ u_392.1 231 20 ≤ 2147483647 := iu_392.fi 20
    exact sVret Cx hr hlk hW hL ⟨iu_392, F_394, g_395, ⟨⟨(fun j a => ((fu_392 257 rfl).2.2.1 j).trans (uF_l)), (fun h => absurd h (by have e9 := (show u_392.1 231 20 = u_392.1 231 20 from rfl); have a9 := xu_392; omega)), (fun _ => (eN_z fe (fun z => by have z9 : 0 ≤ j := (by rcases z with z | z; (exact z.1); (exact z.1)); have c1 := cs_i (hNr.2.2 j z9 (by omega)).1; have c2 := c1.2.1; have c3 := c1.2.2.1; have c4 := c1.2.2.2.1; rcases z with z | z; (have z2 := z.2.1; have z3 := z.2.2; first | omega | (exact z3 (by omega))); (rcases z.2 with z2 | z2 <;> omega))))⟩, (by have e7c := (show u_392.1 231 24 = (S.1 231 24) + 1 from (gu_392 24 rfl).trans (uF_on)); omega)⟩⟩ dX12_named_75
