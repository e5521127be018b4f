/-! The reference's second reading, by the meaning of evs: its tokens, its names -/
def sameL (S : sS) (t u : Int) : Prop := S.2.1 246 t = S.2.1 246 u ∧ ∀ i, 0 ≤ i → i < S.2.1 246 u → S.2.1 243 (S.2.1 245 t + i) = S.2.1 243 (S.2.1 245 u + i)
def KRr (S : sS) (k v : Int → Int) (T : Int) : Prop := kr (S.2.1 244) (S.2.1 247) T = k ∧ (1 ≤ T ∧ T ≤ 2001) ∧ (∀ t, 0 ≤ t → t < T → 0 ≤ S.2.1 245 t ∧ 0 ≤ S.2.1 246 t ∧ S.2.1 245 t + S.2.1 246 t ≤ 30000) ∧ (∀ t, k t = 3 → v t = S.2.1 247 t) ∧ (∀ t u, k t = 2 → k u = 2 → (sameL S t u ↔ v t = v u))
theorem KRr.of {S u : sS} {k v : Int → Int} {T : Int} (h : KRr S k v T) (e3 : u.2.1 243 = S.2.1 243) (e4 : u.2.1 244 = S.2.1 244) (e5 : u.2.1 245 = S.2.1 245) (e6 : u.2.1 246 = S.2.1 246) (e7 : u.2.1 247 = S.2.1 247) : KRr u k v T := by
  have es : ∀ t w, sameL u t w = sameL S t w := fun t w => by unfold sameL; rw [e3, e5, e6]
  unfold KRr; rw [e4, e5, e6, e7]
  refine ⟨h.1, h.2.1, h.2.2.1, h.2.2.2.1, fun t w a b => ?_⟩
  rw [es]; exact h.2.2.2.2 t w a b
theorem KRr.fr {S u : sS} {P : pS} {k v : Int → Int} {T : Int} (h : KRr S k v T) (f : Fr S u P) (h3 : P 243 = false) (h4 : P 244 = false) (h5 : P 245 = false) (h6 : P 246 = false) (h7 : P 247 = false) : KRr u k v T := h.of (funext fun j => (f 243 h3).2.1 j) (funext fun j => (f 244 h4).2.1 j) (funext fun j => (f 245 h5).2.1 j) (funext fun j => (f 246 h6).2.1 j) (funext fun j => (f 247 h7).2.1 j)
theorem KRr.z {S : sS} {k v : Int → Int} {T : Int} (h : KRr S k v T) : ∀ t, T ≤ t → k t = 0 := fun t q => by rw [← h.1]; exact kr_out t q
theorem KRr.n {S : sS} {k v : Int → Int} {T : Int} (h : KRr S k v T) : ∀ t, t < 0 → k t = 0 := fun t q => by rw [← h.1]; exact if_neg (by omega)
theorem KRr.lt {S : sS} {k v : Int → Int} {T t c : Int} (h : KRr S k v T) (e : k t = c) (hc : c ≠ 0) : 0 ≤ t ∧ t < T := by
  constructor
  · by_cases q : 0 ≤ t
    · exact q
    · exact absurd (e.symm.trans (h.n t (by omega))) hc
  · by_cases q : t < T
    · exact q
    · exact absurd (e.symm.trans (h.z t (by omega))) hc
/-- sorts of the reference -/
def cs (x : Int) : Int := if x = 6 then 1 else if x = 7 then 2 else if x = 8 then 3 else if x = 2 then 5 else 4
theorem cs_i {x y : Int} (h : y = cs x) : (y = 1 ↔ x = 6) ∧ (y = 2 ↔ x = 7) ∧ (y = 3 ↔ x = 8) ∧ (y = 5 ↔ x = 2) ∧ 1 ≤ y ∧ y ≤ 5 := by
  unfold cs at h
  repeat' split at h
  all_goals omega
def NRr (N : sN) (k v : Int → Int) (S : sS) : Prop := (N.1 = S.1 231 25 ∧ 0 ≤ N.1 ∧ N.1 ≤ 128) ∧ (∀ s, 0 ≤ s → s < N.1 → k (S.2.1 248 s) = 2 ∧ N.2.1 s = v (S.2.1 248 s)) ∧ (∀ s, 0 ≤ s → s < N.1 → S.2.1 249 s = cs (N.2.2.1 s 0) ∧ (N.2.2.1 s 0 = 6 → N.2.2.1 s 1 = S.2.1 250 s ∧ N.2.2.1 s 2 = S.2.1 251 s) ∧ (N.2.2.1 s 0 = 2 → N.2.2.1 s 1 = S.2.1 252 s) ∧ (N.2.2.1 s 0 = 7 ∨ N.2.2.1 s 0 = 8 → N.2.2.1 s 3 = S.2.1 250 s ∧ N.2.2.1 s 4 = S.2.1 251 s) ∧ (N.2.2.1 s 0 = 8 → N.2.2.1 s 5 = S.2.1 252 s) ∧ (N.2.2.1 s 0 = 7 → ∀ o, 0 ≤ o → o < siz N (N.2.2.1 s 3) * siz N (N.2.2.1 s 4) → 0 ≤ S.2.1 252 s + o ∧ S.2.1 252 s + o < 2100 ∧ N.2.2.2 s o = S.2.1 253 (S.2.1 252 s + o)))
theorem NRr.of {N : sN} {k v : Int → Int} {S u : sS} (h : NRr N k v S) (e : u.1 231 25 = S.1 231 25) (e8 : u.2.1 248 = S.2.1 248) (e9 : u.2.1 249 = S.2.1 249) (f0 : u.2.1 250 = S.2.1 250) (f1 : u.2.1 251 = S.2.1 251) (f2 : u.2.1 252 = S.2.1 252) (f3 : u.2.1 253 = S.2.1 253) : NRr N k v u := by
  unfold NRr; rw [e, e8, e9, f0, f1, f2, f3]; exact h
theorem NRr.y {N : sN} {k v : Int → Int} {S : sS} {T x s : Int} (h : NRr N k v S) (hK : NK N) (hk : KRr S k v T) (hx : k x = 2) (s0 : 0 ≤ s) (s1 : s < N.1) (e : sameL S (S.2.1 248 s) x) : eFind N (v x) = s := by
  have a := h.2.1 s s0 s1
  exact eFind_y hK.1 h.1.2.1 s0 s1 (a.2.trans ((hk.2.2.2.2 _ _ a.1 hx).mp e))
theorem NRr.n {N : sN} {k v : Int → Int} {S : sS} {T x : Int} (h : NRr N k v S) (hk : KRr S k v T) (hx : k x = 2) (e : ∀ s, 0 ≤ s → s < N.1 → ¬ sameL S (S.2.1 248 s) x) : eFind N (v x) = -1 := eFind_n h.1.2.1 (fun s s0 s1 z => e s s0 s1 (by
  have a := h.2.1 s s0 s1
  exact (hk.2.2.2.2 _ _ a.1 hx).mpr (a.2.symm.trans z)))
def fvr (S : sS) (ix : Int) : Int → Int := fun j => S.2.2.1 257 (ix + j)
set_option maxRecDepth 100000 in
set_option maxHeartbeats 4000000 in
theorem e_X12_find (l : Launch) (G : sG) (S : sS) {N : sN} {k v : Int → Int} {T tk : Int} (hI : dX G S) (hkr : Hd (KRr S k v T)) (hNr : Hd (NRr N k v S)) (hK_ : Hd (NK N)) (hk2 : Hd (k tk = 2)) : Met l yX12_find (.code yX12_find cX12_find 5 (some .int) :: tb) (rmk 1 0 0) (sPc G 294 S [.ref (G.2.2.1 + 231), .int (iv tk)]) (sQi G 294 (fun r u => u = S ∧ ((-1 ≤ r ∧ r < S.1 231 25) ∧ Hd (r = eFind N (v tk))))) 0 0 (sF G) := by
  refine sEnter (by decide) (Nat.le_of_ble_eq_true rfl) ?_
  intro p e s m args below meth c Cx hr hlk hnm hW ls hl
  have Cx : sC G p m c cX12_find 5 s args RX12 := Cx
  obtain ⟨hx, hb, hml, hown, hts⟩ := id Cx.1
  have hL : sL G [] := sL_nil
  have hl : lv_has ls 5 [(0, .ref (G.2.2.1 + 231)), (1, .int (iv tk))] := hl
  have hW0 := hW
  obtain ⟨K, hK⟩ : ∃ z, S.2.1 244 = z := ⟨_, rfl⟩
  obtain ⟨V, hV⟩ : ∃ z, S.2.1 247 = z := ⟨_, rfl⟩
  obtain ⟨Fm, hFm⟩ : ∃ z, S.2.1 245 = z := ⟨_, rfl⟩
  obtain ⟨Wd, hWd⟩ : ∃ z, S.2.1 246 = z := ⟨_, rfl⟩
  have hkk : kr K V T = k := (by rw [← hK, ← hV]; exact hkr.1)
  have hTb := hkr.2.1
  have hN1 := hNr.1
  have htk2 := hkr.lt hk2 (by decide)
  have f1 := hkr.2.2.1 tk htk2.1 htk2.2
  refine lv_aload_n hx hb dX12_find_0 rfl (lv_at hl 0 rfl) ?_
  have q_1 : (-2147483648) ≤ S.1 231 25 ∧ S.1 231 25 ≤ 2147483647 := hI.fi 25
  refine g_X12_358 Cx hW (k := 231) (by decide) rfl (v := S.1 231 25) rfl dX12_find_1 ?_
  refine lv_iconst (v := iv 1) hx hb dX12_find_4 (by decide) ?_
  refine r_isub hx hb dX12_find_5 ?_
  refine lv_istore_n (lv' := [(2, .int (iv ((S.1 231 25) - 1))), (0, .ref (G.2.2.1 + 231)), (1, .int (iv tk))]) hx hb dX12_find_6 rfl hl (by decide) rfl (fun ls hl => ?_)
  have loop_7 : ∀ (fuel : Nat) (j : Int) (H : Heap) (locs : List Loc) (ls : Array Slot), (j + 1).toNat < fuel → (-1 ≤ j ∧ j < S.1 231 25) → (Hd (∀ s, j < s → s < N.1 → ¬ sameL S (S.2.1 248 s) tk)) → sW G 294 S H → sL G locs → lv_has ls 5 [(2, .int (iv j)), (0, .ref (G.2.2.1 + 231)), (1, .int (iv tk))] → W p l e (rmk 1 0 0) s m args below meth c H locs 0 0 (MQ below (sQi G 294 (fun r u => u = S ∧ ((-1 ≤ r ∧ r < S.1 231 25) ∧ Hd (r = eFind N (v tk))))) args s 0 0 (sF G)) (F0 m 7 ls []) := by
    intro fuel
    induction fuel with
    | zero => intro j H locs ls hmeas hj hno hW hL hl; exact absurd hmeas (Nat.not_lt_zero _)
    | succ fuel ih_7 =>
      intro j H locs ls hmeas hj hno hW hL hl
      refine lv_iload_n hx hb dX12_find_7 rfl (lv_at hl 0 rfl) ?_
      refine r_if_lt (tgt := 115) hx hb ⟨(by omega), (by omega)⟩ dX12_find_8 (by decide) (fun c_2 => ?_) (fun c_2 => ?_)
      · refine lv_iconst (v := iv (-1)) hx hb dX12_find_115 (by decide) ?_
        exact sIret Cx hr hlk hW hL ⟨rfl, ⟨(by omega), (NRr.n hNr hkr hk2 (fun s a b => hno s (by omega) b)).symm⟩⟩ dX12_find_116
      · have hj1 := hNr.2.1 j (by omega) (by omega)
        have hj2 := hkr.lt hj1.1 (by decide)
        have f2 := hkr.2.2.1 (S.2.1 248 j) hj2.1 hj2.2
        refine lv_aload_n hx hb dX12_find_11 rfl (lv_at hl 1 rfl) ?_
        refine g_X12_53 Cx hW (k := 231) (by decide) rfl (v := .ref (G.2.2.1 + 246)) (rd_17 hI) dX12_find_12 ?_
        refine lv_aload_n hx hb dX12_find_15 rfl (lv_at hl 1 rfl) ?_
        refine g_X12_59 Cx hW (k := 231) (by decide) rfl (v := .ref (G.2.2.1 + 248)) (rd_26 hI) dX12_find_16 ?_
        refine lv_iload_n hx hb dX12_find_19 rfl (lv_at hl 0 rfl) ?_
        refine rIald Cx hW (k := 248) (by decide) rfl (by decide) (by omega) (by omega) dX12_find_20 ?_
        have q_3 : (-2147483648) ≤ S.2.1 248 j ∧ S.2.1 248 j ≤ 2147483647 := hI.ai 248 j
        refine r_i (b := S.2.1 248 j) rfl ?_
        refine rIald Cx hW (k := 246) (by decide) rfl (by decide) (by omega) (by omega) dX12_find_21 ?_
        have q_4 : (-2147483648) ≤ S.2.1 246 (S.2.1 248 j) ∧ S.2.1 246 (S.2.1 248 j) ≤ 2147483647 := hI.ai 246 (S.2.1 248 j)
        refine r_i (b := S.2.1 246 (S.2.1 248 j)) rfl ?_
        refine lv_aload_n hx hb dX12_find_22 rfl (lv_at hl 1 rfl) ?_
        refine g_X12_53 Cx hW (k := 231) (by decide) rfl (v := .ref (G.2.2.1 + 246)) (rd_17 hI) dX12_find_23 ?_
        refine lv_iload_n hx hb dX12_find_26 rfl (lv_at hl 2 rfl) ?_
        refine rIald Cx hW (k := 246) (by decide) rfl (by decide) (by omega) (by omega) dX12_find_27 ?_
        have q_5 : (-2147483648) ≤ S.2.1 246 tk ∧ S.2.1 246 tk ≤ 2147483647 := hI.ai 246 tk
        refine r_i (b := S.2.1 246 tk) rfl ?_
        refine r_icmp_ne (tgt := 35) hx hb ⟨(by omega), (by omega)⟩ ⟨(by omega), (by omega)⟩ dX12_find_28 (by decide) (fun c_6 => ?_) (fun c_6 => ?_)
        · refine lv_iconst (v := iv 0) hx hb dX12_find_35 (by decide) ?_
          refine lv_istore_n (lv' := [(3, .int (iv 0)), (2, .int (iv j)), (0, .ref (G.2.2.1 + 231)), (1, .int (iv tk))]) hx hb dX12_find_36 rfl hl (by decide) rfl (fun ls hl => ?_)
          refine lv_iconst (v := iv 0) hx hb dX12_find_37 (by decide) ?_
          refine lv_istore (lv' := [(4, .int (iv 0)), (3, .int (iv 0)), (2, .int (iv j)), (0, .ref (G.2.2.1 + 231)), (1, .int (iv tk))]) hx hb dX12_find_38 hl (by decide) rfl (fun ls hl => ?_)
          have loop_40 : ∀ (fuel : Nat) (kk : Int) (ok : Int) (H : Heap) (locs : List Loc) (ls : Array Slot), (S.2.1 246 tk - kk).toNat < fuel → (0 ≤ kk ∧ kk ≤ S.2.1 246 tk) → ((0 ≤ ok ∧ ok ≤ 1) ∧ Hd (ok = 1 → kk = S.2.1 246 tk → sameL S (S.2.1 248 j) tk) ∧ Hd (ok = 0 → ¬ sameL S (S.2.1 248 j) tk) ∧ Hd (ok = 1 → S.2.1 246 (S.2.1 248 j) = S.2.1 246 tk ∧ ∀ i, 0 ≤ i → i < kk → S.2.1 243 (S.2.1 245 (S.2.1 248 j) + i) = S.2.1 243 (S.2.1 245 tk + i))) → sW G 294 S H → sL G locs → lv_has ls 5 [(4, .int (iv kk)), (3, .int (iv ok)), (2, .int (iv j)), (0, .ref (G.2.2.1 + 231)), (1, .int (iv tk))] → W p l e (rmk 1 0 0) s m args below meth c H locs 0 0 (MQ below (sQi G 294 (fun r u => u = S ∧ ((-1 ≤ r ∧ r < S.1 231 25) ∧ Hd (r = eFind N (v tk))))) args s 0 0 (sF G)) (F0 m 40 ls []) := by
            intro fuel
            induction fuel with
            | zero => intro kk ok H locs ls hmeas hk hok hW hL hl; exact absurd hmeas (Nat.not_lt_zero _)
            | succ fuel ih_40 =>
              intro kk ok H locs ls hmeas hk hok hW hL hl
              refine lv_iload hx hb dX12_find_40 (lv_at hl 0 rfl) ?_
              refine lv_aload_n hx hb dX12_find_42 rfl (lv_at hl 3 rfl) ?_
              refine g_X12_53 Cx hW (k := 231) (by decide) rfl (v := .ref (G.2.2.1 + 246)) (rd_17 hI) dX12_find_43 ?_
              refine lv_iload_n hx hb dX12_find_46 rfl (lv_at hl 4 rfl) ?_
              refine rIald Cx hW (k := 246) (by decide) rfl (by decide) (by omega) (by omega) dX12_find_47 ?_
              refine r_i (b := S.2.1 246 tk) rfl ?_
              refine r_icmp_ge (tgt := 103) hx hb ⟨(by omega), (by omega)⟩ ⟨(by omega), (by omega)⟩ dX12_find_48 (by decide) (fun c_7 => ?_) (fun c_7 => ?_)
              · refine lv_iload_n hx hb dX12_find_103 rfl (lv_at hl 1 rfl) ?_
                refine r_if_eq (tgt := 109) hx hb ⟨(by omega), (by omega)⟩ dX12_find_104 (by decide) (fun c_8 => ?_) (fun c_8 => ?_)
                · refine lv_iinc (v := iv (j + (-1))) (lv' := [(2, .int (iv (j + (-1)))), (4, .int (iv kk)), (3, .int (iv ok)), (0, .ref (G.2.2.1 + 231)), (1, .int (iv tk))]) hx hb dX12_find_109 hl (k := 2) rfl ((Int32.ofInt_add _ _).symm) (by decide) rfl (fun ls hl => ?_)
                  refine lv_goto (tgt := 7) hx hb dX12_find_112 (by decide) ?_
                  exact ih_7 (j + (-1)) _ _ _ (by omega) (by omega) (fun s a b => by by_cases z : s = j; (rw [z]; intro hs; exact hok.2.2.1 (by omega) hs); exact hno s (by omega) b) hW hL (lv_sub hl [0, 3, 4] rfl)
                · refine lv_iload_n hx hb dX12_find_107 rfl (lv_at hl 2 rfl) ?_
                  exact sIret Cx hr hlk hW hL ⟨rfl, ⟨(by omega), (NRr.y hNr hK_ hkr hk2 (by omega) (by omega) (hok.2.1 (by omega) (by omega))).symm⟩⟩ dX12_find_108
              · refine lv_iload_n hx hb dX12_find_51 rfl (lv_at hl 1 rfl) ?_
                refine r_if_eq (tgt := 103) hx hb ⟨(by omega), (by omega)⟩ dX12_find_52 (by decide) (fun c_9 => ?_) (fun c_9 => ?_)
                · refine lv_iload_n hx hb dX12_find_103 rfl (lv_at hl 1 rfl) ?_
                  refine r_if_eq (tgt := 109) hx hb ⟨(by omega), (by omega)⟩ dX12_find_104 (by decide) (fun c_10 => ?_) (fun c_10 => ?_)
                  · refine lv_iinc (v := iv (j + (-1))) (lv' := [(2, .int (iv (j + (-1)))), (4, .int (iv kk)), (3, .int (iv ok)), (0, .ref (G.2.2.1 + 231)), (1, .int (iv tk))]) hx hb dX12_find_109 hl (k := 2) rfl ((Int32.ofInt_add _ _).symm) (by decide) rfl (fun ls hl => ?_)
                    refine lv_goto (tgt := 7) hx hb dX12_find_112 (by decide) ?_
                    exact ih_7 (j + (-1)) _ _ _ (by omega) (by omega) (fun s a b => by by_cases z : s = j; (rw [z]; intro hs; exact hok.2.2.1 (by omega) hs); exact hno s (by omega) b) hW hL (lv_sub hl [0, 3, 4] rfl)
                  · refine lv_iload_n hx hb dX12_find_107 rfl (lv_at hl 2 rfl) ?_
                    exact sIret Cx hr hlk hW hL ⟨rfl, ⟨(by omega), (NRr.y hNr hK_ hkr hk2 (by omega) (by omega) (hok.2.1 (by omega) (by omega))).symm⟩⟩ dX12_find_108
                · have h4w := (hok.2.2.2 (by omega)).1
                  refine lv_aload_n hx hb dX12_find_55 rfl (lv_at hl 3 rfl) ?_
                  refine g_X12_44 Cx hW (k := 231) (by decide) rfl (v := .ref (G.2.2.1 + 243)) (rd_13 hI) dX12_find_56 ?_
                  refine lv_aload_n hx hb dX12_find_59 rfl (lv_at hl 3 rfl) ?_
                  refine g_X12_50 Cx hW (k := 231) (by decide) rfl (v := .ref (G.2.2.1 + 245)) (rd_16 hI) dX12_find_60 ?_
                  refine lv_aload_n hx hb dX12_find_63 rfl (lv_at hl 3 rfl) ?_
                  refine g_X12_59 Cx hW (k := 231) (by decide) rfl (v := .ref (G.2.2.1 + 248)) (rd_26 hI) dX12_find_64 ?_
                  refine lv_iload_n hx hb dX12_find_67 rfl (lv_at hl 2 rfl) ?_
                  refine rIald Cx hW (k := 248) (by decide) rfl (by decide) (by omega) (by omega) dX12_find_68 ?_
                  refine r_i (b := S.2.1 248 j) rfl ?_
                  refine rIald Cx hW (k := 245) (by decide) rfl (by decide) (by omega) (by omega) dX12_find_69 ?_
                  have q_11 : (-2147483648) ≤ S.2.1 245 (S.2.1 248 j) ∧ S.2.1 245 (S.2.1 248 j) ≤ 2147483647 := hI.ai 245 (S.2.1 248 j)
                  refine r_i (b := S.2.1 245 (S.2.1 248 j)) rfl ?_
                  refine lv_iload hx hb dX12_find_70 (lv_at hl 0 rfl) ?_
                  refine r_iadd hx hb dX12_find_72 ?_
                  refine rBald Cx hW (k := 243) (by decide) rfl (by decide) (by omega) (by omega) dX12_find_73 ?_
                  have q_12 : (-128) ≤ S.2.1 243 ((S.2.1 245 (S.2.1 248 j)) + kk) ∧ S.2.1 243 ((S.2.1 245 (S.2.1 248 j)) + kk) ≤ 127 := hI.ai 243 ((S.2.1 245 (S.2.1 248 j)) + kk)
                  refine r_i (b := S.2.1 243 ((S.2.1 245 (S.2.1 248 j)) + kk)) rfl ?_
                  refine lv_aload_n hx hb dX12_find_74 rfl (lv_at hl 3 rfl) ?_
                  refine g_X12_44 Cx hW (k := 231) (by decide) rfl (v := .ref (G.2.2.1 + 243)) (rd_13 hI) dX12_find_75 ?_
                  refine lv_aload_n hx hb dX12_find_78 rfl (lv_at hl 3 rfl) ?_
                  refine g_X12_50 Cx hW (k := 231) (by decide) rfl (v := .ref (G.2.2.1 + 245)) (rd_16 hI) dX12_find_79 ?_
                  refine lv_iload_n hx hb dX12_find_82 rfl (lv_at hl 4 rfl) ?_
                  refine rIald Cx hW (k := 245) (by decide) rfl (by decide) (by omega) (by omega) dX12_find_83 ?_
                  have q_13 : (-2147483648) ≤ S.2.1 245 tk ∧ S.2.1 245 tk ≤ 2147483647 := hI.ai 245 tk
                  refine r_i (b := S.2.1 245 tk) rfl ?_
                  refine lv_iload hx hb dX12_find_84 (lv_at hl 0 rfl) ?_
                  refine r_iadd hx hb dX12_find_86 ?_
                  refine rBald Cx hW (k := 243) (by decide) rfl (by decide) (by omega) (by omega) dX12_find_87 ?_
                  have q_14 : (-128) ≤ S.2.1 243 ((S.2.1 245 tk) + kk) ∧ S.2.1 243 ((S.2.1 245 tk) + kk) ≤ 127 := hI.ai 243 ((S.2.1 245 tk) + kk)
                  refine r_i (b := S.2.1 243 ((S.2.1 245 tk) + kk)) rfl ?_
                  refine r_icmp_ne (tgt := 95) hx hb ⟨(by omega), (by omega)⟩ ⟨(by omega), (by omega)⟩ dX12_find_88 (by decide) (fun c_15 => ?_) (fun c_15 => ?_)
                  · refine lv_iconst (v := iv 0) hx hb dX12_find_95 (by decide) ?_
                    refine lv_istore_n (lv' := [(3, .int (iv 0)), (4, .int (iv kk)), (2, .int (iv j)), (0, .ref (G.2.2.1 + 231)), (1, .int (iv tk))]) hx hb dX12_find_96 rfl hl (by decide) rfl (fun ls hl => ?_)
                    refine lv_iinc (v := iv (kk + 1)) (lv' := [(4, .int (iv (kk + 1))), (3, .int (iv 0)), (2, .int (iv j)), (0, .ref (G.2.2.1 + 231)), (1, .int (iv tk))]) hx hb dX12_find_97 hl (k := 1) rfl ((Int32.ofInt_add _ _).symm) (by decide) rfl (fun ls hl => ?_)
                    refine lv_goto (tgt := 40) hx hb dX12_find_100 (by decide) ?_
                    exact ih_40 (kk + 1) 0 _ _ _ (by omega) (by omega) ⟨(by omega), (fun h => absurd h (by decide)), (fun _ z => absurd (z.2 kk (by omega) (by omega)) (by omega)), (fun h => absurd h (by decide))⟩ hW hL (lv_sub hl [0, 1, 2, 3, 4] rfl)
                  · refine lv_iconst (v := iv 1) hx hb dX12_find_91 (by decide) ?_
                    refine lv_goto (tgt := 96) hx hb dX12_find_92 (by decide) ?_
                    refine lv_istore_n (lv' := [(3, .int (iv 1)), (4, .int (iv kk)), (2, .int (iv j)), (0, .ref (G.2.2.1 + 231)), (1, .int (iv tk))]) hx hb dX12_find_96 rfl hl (by decide) rfl (fun ls hl => ?_)
                    refine lv_iinc (v := iv (kk + 1)) (lv' := [(4, .int (iv (kk + 1))), (3, .int (iv 1)), (2, .int (iv j)), (0, .ref (G.2.2.1 + 231)), (1, .int (iv tk))]) hx hb dX12_find_97 hl (k := 1) rfl ((Int32.ofInt_add _ _).symm) (by decide) rfl (fun ls hl => ?_)
                    refine lv_goto (tgt := 40) hx hb dX12_find_100 (by decide) ?_
                    exact ih_40 (kk + 1) 1 _ _ _ (by omega) (by omega) ⟨(by omega), (fun _ z => by have h5 : S.2.1 246 (S.2.1 248 j) = S.2.1 246 tk ∧ ∀ i, 0 ≤ i → i < kk + 1 → S.2.1 243 (S.2.1 245 (S.2.1 248 j) + i) = S.2.1 243 (S.2.1 245 tk + i) := (by have h4 := hok.2.2.2 (by omega); refine ⟨h4.1, fun i a b => ?_⟩; by_cases z : i = kk; (rw [z]; omega); exact h4.2 i a (by omega)); exact ⟨h5.1, fun i a b => h5.2 i a (by omega)⟩), (fun h => absurd h (by decide)), (fun _ => (by have h4 := hok.2.2.2 (by omega); refine ⟨h4.1, fun i a b => ?_⟩; by_cases z : i = kk; (rw [z]; omega); exact h4.2 i a (by omega)))⟩ hW hL (lv_sub hl [0, 1, 2, 3, 4] rfl)
          exact loop_40 (_ + 1) 0 0 _ _ _ (Nat.lt_succ_self _) (by omega) ⟨(by omega), (fun h => absurd h (by decide)), (fun _ z => absurd z.1 (by omega)), (fun h => absurd h (by decide))⟩ hW hL (lv_sub hl [0, 1, 2, 3, 4] rfl)
        · refine lv_iconst (v := iv 1) hx hb dX12_find_31 (by decide) ?_
          refine lv_goto (tgt := 36) hx hb dX12_find_32 (by decide) ?_
          refine lv_istore_n (lv' := [(3, .int (iv 1)), (2, .int (iv j)), (0, .ref (G.2.2.1 + 231)), (1, .int (iv tk))]) hx hb dX12_find_36 rfl hl (by decide) rfl (fun ls hl => ?_)
          refine lv_iconst (v := iv 0) hx hb dX12_find_37 (by decide) ?_
          refine lv_istore (lv' := [(4, .int (iv 0)), (3, .int (iv 1)), (2, .int (iv j)), (0, .ref (G.2.2.1 + 231)), (1, .int (iv tk))]) hx hb dX12_find_38 hl (by decide) rfl (fun ls hl => ?_)
          have loop_40 : ∀ (fuel : Nat) (kk : Int) (ok : Int) (H : Heap) (locs : List Loc) (ls : Array Slot), (S.2.1 246 tk - kk).toNat < fuel → (0 ≤ kk ∧ kk ≤ S.2.1 246 tk) → ((0 ≤ ok ∧ ok ≤ 1) ∧ Hd (ok = 1 → kk = S.2.1 246 tk → sameL S (S.2.1 248 j) tk) ∧ Hd (ok = 0 → ¬ sameL S (S.2.1 248 j) tk) ∧ Hd (ok = 1 → S.2.1 246 (S.2.1 248 j) = S.2.1 246 tk ∧ ∀ i, 0 ≤ i → i < kk → S.2.1 243 (S.2.1 245 (S.2.1 248 j) + i) = S.2.1 243 (S.2.1 245 tk + i))) → sW G 294 S H → sL G locs → lv_has ls 5 [(4, .int (iv kk)), (3, .int (iv ok)), (2, .int (iv j)), (0, .ref (G.2.2.1 + 231)), (1, .int (iv tk))] → W p l e (rmk 1 0 0) s m args below meth c H locs 0 0 (MQ below (sQi G 294 (fun r u => u = S ∧ ((-1 ≤ r ∧ r < S.1 231 25) ∧ Hd (r = eFind N (v tk))))) args s 0 0 (sF G)) (F0 m 40 ls []) := by
            intro fuel
            induction fuel with
            | zero => intro kk ok H locs ls hmeas hk hok hW hL hl; exact absurd hmeas (Nat.not_lt_zero _)
            | succ fuel ih_40 =>
              intro kk ok H locs ls hmeas hk hok hW hL hl
              refine lv_iload hx hb dX12_find_40 (lv_at hl 0 rfl) ?_
              refine lv_aload_n hx hb dX12_find_42 rfl (lv_at hl 3 rfl) ?_
              refine g_X12_53 Cx hW (k := 231) (by decide) rfl (v := .ref (G.2.2.1 + 246)) (rd_17 hI) dX12_find_43 ?_
              refine lv_iload_n hx hb dX12_find_46 rfl (lv_at hl 4 rfl) ?_
              refine rIald Cx hW (k := 246) (by decide) rfl (by decide) (by omega) (by omega) dX12_find_47 ?_
              refine r_i (b := S.2.1 246 tk) rfl ?_
              refine r_icmp_ge (tgt := 103) hx hb ⟨(by omega), (by omega)⟩ ⟨(by omega), (by omega)⟩ dX12_find_48 (by decide) (fun c_16 => ?_) (fun c_16 => ?_)
              · refine lv_iload_n hx hb dX12_find_103 rfl (lv_at hl 1 rfl) ?_
                refine r_if_eq (tgt := 109) hx hb ⟨(by omega), (by omega)⟩ dX12_find_104 (by decide) (fun c_17 => ?_) (fun c_17 => ?_)
                · refine lv_iinc (v := iv (j + (-1))) (lv' := [(2, .int (iv (j + (-1)))), (4, .int (iv kk)), (3, .int (iv ok)), (0, .ref (G.2.2.1 + 231)), (1, .int (iv tk))]) hx hb dX12_find_109 hl (k := 2) rfl ((Int32.ofInt_add _ _).symm) (by decide) rfl (fun ls hl => ?_)
                  refine lv_goto (tgt := 7) hx hb dX12_find_112 (by decide) ?_
                  exact ih_7 (j + (-1)) _ _ _ (by omega) (by omega) (fun s a b => by by_cases z : s = j; (rw [z]; intro hs; exact hok.2.2.1 (by omega) hs); exact hno s (by omega) b) hW hL (lv_sub hl [0, 3, 4] rfl)
                · refine lv_iload_n hx hb dX12_find_107 rfl (lv_at hl 2 rfl) ?_
                  exact sIret Cx hr hlk hW hL ⟨rfl, ⟨(by omega), (NRr.y hNr hK_ hkr hk2 (by omega) (by omega) (hok.2.1 (by omega) (by omega))).symm⟩⟩ dX12_find_108
              · refine lv_iload_n hx hb dX12_find_51 rfl (lv_at hl 1 rfl) ?_
                refine r_if_eq (tgt := 103) hx hb ⟨(by omega), (by omega)⟩ dX12_find_52 (by decide) (fun c_18 => ?_) (fun c_18 => ?_)
                · refine lv_iload_n hx hb dX12_find_103 rfl (lv_at hl 1 rfl) ?_
                  refine r_if_eq (tgt := 109) hx hb ⟨(by omega), (by omega)⟩ dX12_find_104 (by decide) (fun c_19 => ?_) (fun c_19 => ?_)
                  · refine lv_iinc (v := iv (j + (-1))) (lv' := [(2, .int (iv (j + (-1)))), (4, .int (iv kk)), (3, .int (iv ok)), (0, .ref (G.2.2.1 + 231)), (1, .int (iv tk))]) hx hb dX12_find_109 hl (k := 2) rfl ((Int32.ofInt_add _ _).symm) (by decide) rfl (fun ls hl => ?_)
                    refine lv_goto (tgt := 7) hx hb dX12_find_112 (by decide) ?_
                    exact ih_7 (j + (-1)) _ _ _ (by omega) (by omega) (fun s a b => by by_cases z : s = j; (rw [z]; intro hs; exact hok.2.2.1 (by omega) hs); exact hno s (by omega) b) hW hL (lv_sub hl [0, 3, 4] rfl)
                  · refine lv_iload_n hx hb dX12_find_107 rfl (lv_at hl 2 rfl) ?_
                    exact sIret Cx hr hlk hW hL ⟨rfl, ⟨(by omega), (NRr.y hNr hK_ hkr hk2 (by omega) (by omega) (hok.2.1 (by omega) (by omega))).symm⟩⟩ dX12_find_108
                · have h4w := (hok.2.2.2 (by omega)).1
                  refine lv_aload_n hx hb dX12_find_55 rfl (lv_at hl 3 rfl) ?_
                  refine g_X12_44 Cx hW (k := 231) (by decide) rfl (v := .ref (G.2.2.1 + 243)) (rd_13 hI) dX12_find_56 ?_
                  refine lv_aload_n hx hb dX12_find_59 rfl (lv_at hl 3 rfl) ?_
                  refine g_X12_50 Cx hW (k := 231) (by decide) rfl (v := .ref (G.2.2.1 + 245)) (rd_16 hI) dX12_find_60 ?_
                  refine lv_aload_n hx hb dX12_find_63 rfl (lv_at hl 3 rfl) ?_
                  refine g_X12_59 Cx hW (k := 231) (by decide) rfl (v := .ref (G.2.2.1 + 248)) (rd_26 hI) dX12_find_64 ?_
                  refine lv_iload_n hx hb dX12_find_67 rfl (lv_at hl 2 rfl) ?_
                  refine rIald Cx hW (k := 248) (by decide) rfl (by decide) (by omega) (by omega) dX12_find_68 ?_
                  refine r_i (b := S.2.1 248 j) rfl ?_
                  refine rIald Cx hW (k := 245) (by decide) rfl (by decide) (by omega) (by omega) dX12_find_69 ?_
                  have q_20 : (-2147483648) ≤ S.2.1 245 (S.2.1 248 j) ∧ S.2.1 245 (S.2.1 248 j) ≤ 2147483647 := hI.ai 245 (S.2.1 248 j)
                  refine r_i (b := S.2.1 245 (S.2.1 248 j)) rfl ?_
                  refine lv_iload hx hb dX12_find_70 (lv_at hl 0 rfl) ?_
                  refine r_iadd hx hb dX12_find_72 ?_
                  refine rBald Cx hW (k := 243) (by decide) rfl (by decide) (by omega) (by omega) dX12_find_73 ?_
                  have q_21 : (-128) ≤ S.2.1 243 ((S.2.1 245 (S.2.1 248 j)) + kk) ∧ S.2.1 243 ((S.2.1 245 (S.2.1 248 j)) + kk) ≤ 127 := hI.ai 243 ((S.2.1 245 (S.2.1 248 j)) + kk)
                  refine r_i (b := S.2.1 243 ((S.2.1 245 (S.2.1 248 j)) + kk)) rfl ?_
                  refine lv_aload_n hx hb dX12_find_74 rfl (lv_at hl 3 rfl) ?_
                  refine g_X12_44 Cx hW (k := 231) (by decide) rfl (v := .ref (G.2.2.1 + 243)) (rd_13 hI) dX12_find_75 ?_
                  refine lv_aload_n hx hb dX12_find_78 rfl (lv_at hl 3 rfl) ?_
                  refine g_X12_50 Cx hW (k := 231) (by decide) rfl (v := .ref (G.2.2.1 + 245)) (rd_16 hI) dX12_find_79 ?_
                  refine lv_iload_n hx hb dX12_find_82 rfl (lv_at hl 4 rfl) ?_
                  refine rIald Cx hW (k := 245) (by decide) rfl (by decide) (by omega) (by omega) dX12_find_83 ?_
                  have q_22 : (-2147483648) ≤ S.2.1 245 tk ∧ S.2.1 245 tk ≤ 2147483647 := hI.ai 245 tk
                  refine r_i (b := S.2.1 245 tk) rfl ?_
                  refine lv_iload hx hb dX12_find_84 (lv_at hl 0 rfl) ?_
                  refine r_iadd hx hb dX12_find_86 ?_
                  refine rBald Cx hW (k := 243) (by decide) rfl (by decide) (by omega) (by omega) dX12_find_87 ?_
                  have q_23 : (-128) ≤ S.2.1 243 ((S.2.1 245 tk) + kk) ∧ S.2.1 243 ((S.2.1 245 tk) + kk) ≤ 127 := hI.ai 243 ((S.2.1 245 tk) + kk)
                  refine r_i (b := S.2.1 243 ((S.2.1 245 tk) + kk)) rfl ?_
                  refine r_icmp_ne (tgt := 95) hx hb ⟨(by omega), (by omega)⟩ ⟨(by omega), (by omega)⟩ dX12_find_88 (by decide) (fun c_24 => ?_) (fun c_24 => ?_)
                  · refine lv_iconst (v := iv 0) hx hb dX12_find_95 (by decide) ?_
                    refine lv_istore_n (lv' := [(3, .int (iv 0)), (4, .int (iv kk)), (2, .int (iv j)), (0, .ref (G.2.2.1 + 231)), (1, .int (iv tk))]) hx hb dX12_find_96 rfl hl (by decide) rfl (fun ls hl => ?_)
                    refine lv_iinc (v := iv (kk + 1)) (lv' := [(4, .int (iv (kk + 1))), (3, .int (iv 0)), (2, .int (iv j)), (0, .ref (G.2.2.1 + 231)), (1, .int (iv tk))]) hx hb dX12_find_97 hl (k := 1) rfl ((Int32.ofInt_add _ _).symm) (by decide) rfl (fun ls hl => ?_)
                    refine lv_goto (tgt := 40) hx hb dX12_find_100 (by decide) ?_
                    exact ih_40 (kk + 1) 0 _ _ _ (by omega) (by omega) ⟨(by omega), (fun h => absurd h (by decide)), (fun _ z => absurd (z.2 kk (by omega) (by omega)) (by omega)), (fun h => absurd h (by decide))⟩ hW hL (lv_sub hl [0, 1, 2, 3, 4] rfl)
                  · refine lv_iconst (v := iv 1) hx hb dX12_find_91 (by decide) ?_
                    refine lv_goto (tgt := 96) hx hb dX12_find_92 (by decide) ?_
                    refine lv_istore_n (lv' := [(3, .int (iv 1)), (4, .int (iv kk)), (2, .int (iv j)), (0, .ref (G.2.2.1 + 231)), (1, .int (iv tk))]) hx hb dX12_find_96 rfl hl (by decide) rfl (fun ls hl => ?_)
                    refine lv_iinc (v := iv (kk + 1)) (lv' := [(4, .int (iv (kk + 1))), (3, .int (iv 1)), (2, .int (iv j)), (0, .ref (G.2.2.1 + 231)), (1, .int (iv tk))]) hx hb dX12_find_97 hl (k := 1) rfl ((Int32.ofInt_add _ _).symm) (by decide) rfl (fun ls hl => ?_)
                    refine lv_goto (tgt := 40) hx hb dX12_find_100 (by decide) ?_
                    exact ih_40 (kk + 1) 1 _ _ _ (by omega) (by omega) ⟨(by omega), (fun _ z => by have h5 : S.2.1 246 (S.2.1 248 j) = S.2.1 246 tk ∧ ∀ i, 0 ≤ i → i < kk + 1 → S.2.1 243 (S.2.1 245 (S.2.1 248 j) + i) = S.2.1 243 (S.2.1 245 tk + i) := (by have h4 := hok.2.2.2 (by omega); refine ⟨h4.1, fun i a b => ?_⟩; by_cases z : i = kk; (rw [z]; omega); exact h4.2 i a (by omega)); exact ⟨h5.1, fun i a b => h5.2 i a (by omega)⟩), (fun h => absurd h (by decide)), (fun _ => (by have h4 := hok.2.2.2 (by omega); refine ⟨h4.1, fun i a b => ?_⟩; by_cases z : i = kk; (rw [z]; omega); exact h4.2 i a (by omega)))⟩ hW hL (lv_sub hl [0, 1, 2, 3, 4] rfl)
          exact loop_40 (_ + 1) 0 1 _ _ _ (Nat.lt_succ_self _) (by omega) ⟨(by omega), (fun _ z => ⟨(by omega), (fun i a b => absurd b (by omega))⟩), (fun h => absurd h (by decide)), (fun _ => ⟨(by omega), (fun i a b => absurd b (by omega))⟩)⟩ hW hL (lv_sub hl [0, 1, 2, 3, 4] rfl)
  exact loop_7 (_ + 1) ((S.1 231 25) - 1) _ _ _ (Nat.lt_succ_self _) (by omega) (fun s a b => absurd b (by omega)) hW hL (lv_sub hl [0, 1, 2] rfl)

set_option maxRecDepth 100000 in
set_option maxHeartbeats 4000000 in
theorem e_X12_add_ (l : Launch) (G : sG) (S : sS) {N : sN} {k v : Int → Int} {T tk so : Int} (hI : dX G S) (hkr : Hd (KRr S k v T)) (hNr : Hd (NRr N k v S)) (hK_ : Hd (NK N)) (hf0 : S.1 231 20 = 0) (hk2 : Hd (k tk = 2)) (h25 : N.1 < 128) (hso : 1 ≤ so ∧ so ≤ 5) : Met l yX12_add_ (.code yX12_add_ cX12_add_ 3 (some .int) :: tb) (rmk 2 0 0) (sPc G 294 S [.ref (G.2.2.1 + 231), .int (iv tk), .int (iv so)]) (sQi G 294 (fun r u => dX G u ∧ Fr S u (pl [231, 248, 249, 250, 251, 252]) ∧ FF S u (fl [20, 21, 25]) ∧ (-1 ≤ r ∧ Hd (u.1 231 20 ≠ 0 → 0 ≤ eFind N (v tk)) ∧ Hd (u.1 231 20 = 0 → eFind N (v tk) = -1 ∧ r = S.1 231 25 ∧ u.1 231 25 = S.1 231 25 + 1 ∧ nRW S u (S.1 231 25) tk so (-1) (-1) 0)))) 0 0 (sF G) := by
  refine sEnter (by decide) (Nat.le_of_ble_eq_true rfl) ?_
  intro p e s m args below meth c Cx hr hlk hnm hW ls hl
  have Cx : sC G p m c cX12_add_ 3 s args RX12 := Cx
  obtain ⟨hx, hb, hml, hown, hts⟩ := id Cx.1
  have hL : sL G [] := sL_nil
  have hl : lv_has ls 3 [(0, .ref (G.2.2.1 + 231)), (1, .int (iv tk)), (2, .int (iv so))] := hl
  have hW0 := hW
  obtain ⟨K, hK⟩ : ∃ z, S.2.1 244 = z := ⟨_, rfl⟩
  obtain ⟨V, hV⟩ : ∃ z, S.2.1 247 = z := ⟨_, rfl⟩
  obtain ⟨Fm, hFm⟩ : ∃ z, S.2.1 245 = z := ⟨_, rfl⟩
  obtain ⟨Wd, hWd⟩ : ∃ z, S.2.1 246 = z := ⟨_, rfl⟩
  have hkk : kr K V T = k := (by rw [← hK, ← hV]; exact hkr.1)
  have hTb := hkr.2.1
  have hN1 := hNr.1
  have htk2 := hkr.lt hk2 (by decide)
  refine lv_aload_n hx hb dX12_add__0 rfl (lv_at hl 0 rfl) ?_
  have q_1 : (-2147483648) ≤ S.1 231 20 ∧ S.1 231 20 ≤ 2147483647 := hI.fi 20
  refine g_X12_270 Cx hW (k := 231) (by decide) rfl (v := S.1 231 20) rfl dX12_add__1 ?_
  refine r_if_ne (tgt := 22) hx hb ⟨(by omega), (by omega)⟩ dX12_add__4 (by decide) (fun c => absurd (by omega) c) (fun _ => ?_)
  refine lv_aload_n hx hb dX12_add__7 rfl (lv_at hl 0 rfl) ?_
  refine lv_iload_n hx hb dX12_add__8 rfl (lv_at hl 1 rfl) ?_
  have q_2 : (-2147483648) ≤ S.1 231 25 ∧ S.1 231 25 ≤ 2147483647 := hI.fi 25
  refine sBi (sV (As := [.int (iv tk)]) (rest := []) (k := 231) Cx (e_X12_find l G S (tk := tk) hI hkr hNr hK_ hk2) (c_X12_361 Cx rfl rfl (rmk_ok (by omega) (by decide))) hW (by decide) rfl rfl rfl hl.1 rfl (Nat.le_of_ble_eq_true rfl) dX12_add__9 ⟨Nat.le_of_ble_eq_true rfl, Nat.le_of_ble_eq_true rfl⟩) hL (fun r_5 u_3 H locs k_4 hW hL => ?_)
  obtain ⟨eu_3, xu_3⟩ := k_4
  rw [eu_3] at hW
  refine lv_iconst (v := iv (-1)) hx hb dX12_add__12 (by decide) ?_
  refine r_icmp_eq (tgt := 22) hx hb ⟨(by omega), (by omega)⟩ ⟨(by omega), (by omega)⟩ dX12_add__13 (by decide) (fun c_6 => ?_) (fun c_6 => ?_)
  · refine lv_aload_n hx hb dX12_add__22 rfl (lv_at hl 0 rfl) ?_
    refine g_X12_270 Cx hW (k := 231) (by decide) rfl (v := S.1 231 20) rfl dX12_add__23 ?_
    refine r_if_eq (tgt := 31) hx hb ⟨(by omega), (by omega)⟩ dX12_add__26 (by decide) (fun _ => ?_) (fun c => absurd (by omega) c)
    refine lv_aload_n hx hb dX12_add__31 rfl (lv_at hl 0 rfl) ?_
    refine g_X12_59 Cx hW (k := 231) (by decide) rfl (v := .ref (G.2.2.1 + 248)) (rd_26 hI) dX12_add__32 ?_
    refine lv_aload_n hx hb dX12_add__35 rfl (lv_at hl 0 rfl) ?_
    refine g_X12_358 Cx hW (k := 231) (by decide) rfl (v := S.1 231 25) rfl dX12_add__36 ?_
    refine lv_iload_n hx hb dX12_add__39 rfl (lv_at hl 1 rfl) ?_
    refine rIast Cx hW hL (k := 248) (by decide) rfl (by decide) (by omega) (by omega) dX12_add__40 (fun H locs hW hL => ?_)
    have F_7 : Fr S (uA S 248 (S.1 231 25) tk) (pl [231, 248, 249, 250, 251, 252]) := (Fr.rf : Fr S S (pl [231, 248, 249, 250, 251, 252])).A rfl
    have i_8 : dX G (uA S 248 (S.1 231 25) tk) := hI.A (k := 248) (show (-2147483648) ≤ tk ∧ tk ≤ 2147483647 from ⟨by omega, by omega⟩)
    refine lv_aload_n hx hb dX12_add__41 rfl (lv_at hl 0 rfl) ?_
    refine g_X12_62 Cx hW (k := 231) (by decide) rfl (v := .ref (G.2.2.1 + 249)) (rd_27 i_8) dX12_add__42 ?_
    refine lv_aload_n hx hb dX12_add__45 rfl (lv_at hl 0 rfl) ?_
    refine g_X12_358 Cx hW (k := 231) (by decide) rfl (v := S.1 231 25) uA_f dX12_add__46 ?_
    refine lv_iload_n hx hb dX12_add__49 rfl (lv_at hl 2 rfl) ?_
    refine rIast Cx hW hL (k := 249) (by decide) rfl (by decide) (by omega) (by omega) dX12_add__50 (fun H locs hW hL => ?_)
    have F_9 : Fr S (uA (uA S 248 (S.1 231 25) tk) 249 (S.1 231 25) so) (pl [231, 248, 249, 250, 251, 252]) := F_7.A rfl
    have i_10 : dX G (uA (uA S 248 (S.1 231 25) tk) 249 (S.1 231 25) so) := i_8.A (k := 249) (show (-2147483648) ≤ so ∧ so ≤ 2147483647 from ⟨by omega, by omega⟩)
    refine lv_aload_n hx hb dX12_add__51 rfl (lv_at hl 0 rfl) ?_
    refine g_X12_65 Cx hW (k := 231) (by decide) rfl (v := .ref (G.2.2.1 + 250)) (rd_28 i_10) dX12_add__52 ?_
    refine lv_aload_n hx hb dX12_add__55 rfl (lv_at hl 0 rfl) ?_
    refine g_X12_358 Cx hW (k := 231) (by decide) rfl (v := S.1 231 25) ((uA_f).trans (uA_f)) dX12_add__56 ?_
    refine lv_iconst (v := iv (-1)) hx hb dX12_add__59 (by decide) ?_
    refine rIast Cx hW hL (k := 250) (by decide) rfl (by decide) (by omega) (by omega) dX12_add__60 (fun H locs hW hL => ?_)
    have F_11 : Fr S (uA (uA (uA S 248 (S.1 231 25) tk) 249 (S.1 231 25) so) 250 (S.1 231 25) ((-1))) (pl [231, 248, 249, 250, 251, 252]) := F_9.A rfl
    have i_12 : dX G (uA (uA (uA S 248 (S.1 231 25) tk) 249 (S.1 231 25) so) 250 (S.1 231 25) ((-1))) := i_10.A (k := 250) (show (-2147483648) ≤ (-1) ∧ (-1) ≤ 2147483647 from ⟨by omega, by omega⟩)
    refine lv_aload_n hx hb dX12_add__61 rfl (lv_at hl 0 rfl) ?_
    refine g_X12_68 Cx hW (k := 231) (by decide) rfl (v := .ref (G.2.2.1 + 251)) (rd_29 i_12) dX12_add__62 ?_
    refine lv_aload_n hx hb dX12_add__65 rfl (lv_at hl 0 rfl) ?_
    refine g_X12_358 Cx hW (k := 231) (by decide) rfl (v := S.1 231 25) ((uA_f).trans ((uA_f).trans (uA_f))) dX12_add__66 ?_
    refine lv_iconst (v := iv (-1)) hx hb dX12_add__69 (by decide) ?_
    refine rIast Cx hW hL (k := 251) (by decide) rfl (by decide) (by omega) (by omega) dX12_add__70 (fun H locs hW hL => ?_)
    have F_13 : Fr S (uA (uA (uA (uA S 248 (S.1 231 25) tk) 249 (S.1 231 25) so) 250 (S.1 231 25) ((-1))) 251 (S.1 231 25) ((-1))) (pl [231, 248, 249, 250, 251, 252]) := F_11.A rfl
    have i_14 : dX G (uA (uA (uA (uA S 248 (S.1 231 25) tk) 249 (S.1 231 25) so) 250 (S.1 231 25) ((-1))) 251 (S.1 231 25) ((-1))) := i_12.A (k := 251) (show (-2147483648) ≤ (-1) ∧ (-1) ≤ 2147483647 from ⟨by omega, by omega⟩)
    refine lv_aload_n hx hb dX12_add__71 rfl (lv_at hl 0 rfl) ?_
    refine g_X12_71 Cx hW (k := 231) (by decide) rfl (v := .ref (G.2.2.1 + 252)) (rd_30 i_14) dX12_add__72 ?_
    refine lv_aload_n hx hb dX12_add__75 rfl (lv_at hl 0 rfl) ?_
    refine g_X12_358 Cx hW (k := 231) (by decide) rfl (v := S.1 231 25) ((uA_f).trans ((uA_f).trans ((uA_f).trans (uA_f)))) dX12_add__76 ?_
    refine lv_iconst (v := iv 0) hx hb dX12_add__79 (by decide) ?_
    refine rIast Cx hW hL (k := 252) (by decide) rfl (by decide) (by omega) (by omega) dX12_add__80 (fun H locs hW hL => ?_)
    have F_15 : Fr S (uA (uA (uA (uA (uA S 248 (S.1 231 25) tk) 249 (S.1 231 25) so) 250 (S.1 231 25) ((-1))) 251 (S.1 231 25) ((-1))) 252 (S.1 231 25) 0) (pl [231, 248, 249, 250, 251, 252]) := F_13.A rfl
    have i_16 : dX G (uA (uA (uA (uA (uA S 248 (S.1 231 25) tk) 249 (S.1 231 25) so) 250 (S.1 231 25) ((-1))) 251 (S.1 231 25) ((-1))) 252 (S.1 231 25) 0) := i_14.A (k := 252) (show (-2147483648) ≤ 0 ∧ 0 ≤ 2147483647 from ⟨by omega, by omega⟩)
    refine lv_aload_n hx hb dX12_add__81 rfl (lv_at hl 0 rfl) ?_
    refine lv_dup hx hb dX12_add__82 rfl ?_
    refine g_X12_358 Cx hW (k := 231) (by decide) rfl (v := S.1 231 25) ((uA_f).trans ((uA_f).trans ((uA_f).trans ((uA_f).trans (uA_f))))) dX12_add__83 ?_
    refine lv_iconst (v := iv 1) hx hb dX12_add__86 (by decide) ?_
    refine r_iadd hx hb dX12_add__87 ?_
    refine p_X12_358 Cx hW hL (k := 231) (by decide) rfl dX12_add__88 (fun H locs hW hL => ?_)
    have F_17 : Fr S (uF (uA (uA (uA (uA (uA S 248 (S.1 231 25) tk) 249 (S.1 231 25) so) 250 (S.1 231 25) ((-1))) 251 (S.1 231 25) ((-1))) 252 (S.1 231 25) 0) 231 25 ((S.1 231 25) + 1)) (pl [231, 248, 249, 250, 251, 252]) := F_15.F rfl
    have g_18 : FF S (uF (uA (uA (uA (uA (uA S 248 (S.1 231 25) tk) 249 (S.1 231 25) so) 250 (S.1 231 25) ((-1))) 251 (S.1 231 25) ((-1))) 252 (S.1 231 25) 0) 231 25 ((S.1 231 25) + 1)) (fl [20, 21, 25]) := FF.F FF.rf rfl
    have i_19 : dX G (uF (uA (uA (uA (uA (uA S 248 (S.1 231 25) tk) 249 (S.1 231 25) so) 250 (S.1 231 25) ((-1))) 251 (S.1 231 25) ((-1))) 252 (S.1 231 25) 0) 231 25 ((S.1 231 25) + 1)) := i_16.F (i := 25) (show (-2147483648) ≤ (S.1 231 25) + 1 ∧ (S.1 231 25) + 1 ≤ 2147483647 from ⟨by omega, by omega⟩)
    refine lv_aload_n hx hb dX12_add__91 rfl (lv_at hl 0 rfl) ?_
    refine g_X12_358 Cx hW (k := 231) (by decide) rfl (v := (S.1 231 25) + 1) uF_on dX12_add__92 ?_
    refine lv_iconst (v := iv 1) hx hb dX12_add__95 (by decide) ?_
    refine r_isub hx hb dX12_add__96 ?_
    have lk_20 : (uF (uA (uA (uA (uA (uA S 248 (S.1 231 25) tk) 249 (S.1 231 25) so) 250 (S.1 231 25) ((-1))) 251 (S.1 231 25) ((-1))) 252 (S.1 231 25) 0) 231 25 ((S.1 231 25) + 1)).1 231 20 = S.1 231 20 := (uF_ne (fun h => absurd h.2 (by decide))).trans ((uA_f).trans ((uA_f).trans ((uA_f).trans ((uA_f).trans (uA_f)))))
    have lk_21 : (uF (uA (uA (uA (uA (uA S 248 (S.1 231 25) tk) 249 (S.1 231 25) so) 250 (S.1 231 25) ((-1))) 251 (S.1 231 25) ((-1))) 252 (S.1 231 25) 0) 231 25 ((S.1 231 25) + 1)).1 231 25 = (S.1 231 25) + 1 := uF_on
    exact sIret Cx hr hlk hW hL ⟨i_19, F_17, g_18, ⟨(by omega), (fun h => absurd (show (uF (uA (uA (uA (uA (uA S 248 (S.1 231 25) tk) 249 (S.1 231 25) so) 250 (S.1 231 25) ((-1))) 251 (S.1 231 25) ((-1))) 252 (S.1 231 25) 0) 231 25 ((S.1 231 25) + 1)).1 231 20 = 0 by have e9 := (show (uF (uA (uA (uA (uA (uA S 248 (S.1 231 25) tk) 249 (S.1 231 25) so) 250 (S.1 231 25) ((-1))) 251 (S.1 231 25) ((-1))) 252 (S.1 231 25) 0) 231 25 ((S.1 231 25) + 1)).1 231 20 = S.1 231 20 from (uF_ne (fun h => absurd h.2 (by decide))).trans ((uA_f).trans ((uA_f).trans ((uA_f).trans ((uA_f).trans (uA_f)))))); omega) h), (fun _ => ⟨(by have q : r_5 = eFind N (v tk) := xu_3.2; omega), (by omega), (by have e9 := (show (uF (uA (uA (uA (uA (uA S 248 (S.1 231 25) tk) 249 (S.1 231 25) so) 250 (S.1 231 25) ((-1))) 251 (S.1 231 25) ((-1))) 252 (S.1 231 25) 0) 231 25 ((S.1 231 25) + 1)).1 231 25 = (S.1 231 25) + 1 from uF_on); omega), ⟨(fun x => by rw [show (uF (uA (uA (uA (uA (uA S 248 (S.1 231 25) tk) 249 (S.1 231 25) so) 250 (S.1 231 25) ((-1))) 251 (S.1 231 25) ((-1))) 252 (S.1 231 25) 0) 231 25 ((S.1 231 25) + 1)).2.1 248 x = (uA S 248 (S.1 231 25) tk).2.1 248 x from (uF_a).trans ((uA_ne (fun h => absurd h.1 (by decide))).trans ((uA_ne (fun h => absurd h.1 (by decide))).trans ((uA_ne (fun h => absurd h.1 (by decide))).trans (uA_ne (fun h => absurd h.1 (by decide)))))), uA_get]; by_cases z : x = S.1 231 25; (rw [if_pos ⟨rfl, z⟩, if_pos z]); exact (if_neg (fun h => z h.2)).trans ((rfl).trans (if_neg z).symm)), (fun x => by rw [show (uF (uA (uA (uA (uA (uA S 248 (S.1 231 25) tk) 249 (S.1 231 25) so) 250 (S.1 231 25) ((-1))) 251 (S.1 231 25) ((-1))) 252 (S.1 231 25) 0) 231 25 ((S.1 231 25) + 1)).2.1 249 x = (uA (uA S 248 (S.1 231 25) tk) 249 (S.1 231 25) so).2.1 249 x from (uF_a).trans ((uA_ne (fun h => absurd h.1 (by decide))).trans ((uA_ne (fun h => absurd h.1 (by decide))).trans (uA_ne (fun h => absurd h.1 (by decide))))), uA_get]; by_cases z : x = S.1 231 25; (rw [if_pos ⟨rfl, z⟩, if_pos z]); exact (if_neg (fun h => z h.2)).trans ((uA_ne (fun h => absurd h.1 (by decide))).trans (if_neg z).symm)), (fun x => by rw [show (uF (uA (uA (uA (uA (uA S 248 (S.1 231 25) tk) 249 (S.1 231 25) so) 250 (S.1 231 25) ((-1))) 251 (S.1 231 25) ((-1))) 252 (S.1 231 25) 0) 231 25 ((S.1 231 25) + 1)).2.1 250 x = (uA (uA (uA S 248 (S.1 231 25) tk) 249 (S.1 231 25) so) 250 (S.1 231 25) ((-1))).2.1 250 x from (uF_a).trans ((uA_ne (fun h => absurd h.1 (by decide))).trans (uA_ne (fun h => absurd h.1 (by decide)))), uA_get]; by_cases z : x = S.1 231 25; (rw [if_pos ⟨rfl, z⟩, if_pos z]); exact (if_neg (fun h => z h.2)).trans (((uA_ne (fun h => absurd h.1 (by decide))).trans (uA_ne (fun h => absurd h.1 (by decide)))).trans (if_neg z).symm)), (fun x => by rw [show (uF (uA (uA (uA (uA (uA S 248 (S.1 231 25) tk) 249 (S.1 231 25) so) 250 (S.1 231 25) ((-1))) 251 (S.1 231 25) ((-1))) 252 (S.1 231 25) 0) 231 25 ((S.1 231 25) + 1)).2.1 251 x = (uA (uA (uA (uA S 248 (S.1 231 25) tk) 249 (S.1 231 25) so) 250 (S.1 231 25) ((-1))) 251 (S.1 231 25) ((-1))).2.1 251 x from (uF_a).trans (uA_ne (fun h => absurd h.1 (by decide))), uA_get]; by_cases z : x = S.1 231 25; (rw [if_pos ⟨rfl, z⟩, if_pos z]); exact (if_neg (fun h => z h.2)).trans (((uA_ne (fun h => absurd h.1 (by decide))).trans ((uA_ne (fun h => absurd h.1 (by decide))).trans (uA_ne (fun h => absurd h.1 (by decide))))).trans (if_neg z).symm)), (fun x => by rw [show (uF (uA (uA (uA (uA (uA S 248 (S.1 231 25) tk) 249 (S.1 231 25) so) 250 (S.1 231 25) ((-1))) 251 (S.1 231 25) ((-1))) 252 (S.1 231 25) 0) 231 25 ((S.1 231 25) + 1)).2.1 252 x = (uA (uA (uA (uA (uA S 248 (S.1 231 25) tk) 249 (S.1 231 25) so) 250 (S.1 231 25) ((-1))) 251 (S.1 231 25) ((-1))) 252 (S.1 231 25) 0).2.1 252 x from uF_a, uA_get]; by_cases z : x = S.1 231 25; (rw [if_pos ⟨rfl, z⟩, if_pos z]); exact (if_neg (fun h => z h.2)).trans (((uA_ne (fun h => absurd h.1 (by decide))).trans ((uA_ne (fun h => absurd h.1 (by decide))).trans ((uA_ne (fun h => absurd h.1 (by decide))).trans (uA_ne (fun h => absurd h.1 (by decide)))))).trans (if_neg z).symm))⟩⟩)⟩⟩ dX12_add__97
  · refine lv_aload_n hx hb dX12_add__16 rfl (lv_at hl 0 rfl) ?_
    refine lv_iconst (v := iv 2) hx hb dX12_add__17 (by decide) ?_
    refine lv_iload_n hx hb dX12_add__18 rfl (lv_at hl 1 rfl) ?_
    refine sBv (sV (As := [.int (iv 2), .int (iv tk)]) (rest := []) (k := 231) Cx (s_X12_wrong l G S (cd := 2) (tk := tk) hI (by omega) (by omega)) (c_X12_321 Cx rfl rfl (rmk_ok (by omega) (by decide))) hW (by decide) rfl rfl rfl hl.1 rfl (Nat.le_of_ble_eq_true rfl) dX12_add__19 ⟨Nat.le_of_ble_eq_true rfl, Nat.le_of_ble_eq_true rfl⟩) hL (fun u_22 H locs k_23 hW hL => ?_)
    obtain ⟨iu_22, fu_22, gu_22, xu_22⟩ := k_23
    have F_24 := (Fr.rf : Fr S S (pl [231, 248, 249, 250, 251, 252])).trans (fu_22.to (pl_sub (by decide)))
    have g_25 : FF S u_22 (fl [20, 21, 25]) := FF.trans FF.rf (FF.to gu_22 (fl_sub (by decide)))
    refine lv_aload_n hx hb dX12_add__22 rfl (lv_at hl 0 rfl) ?_
    have q_26 : (-2147483648) ≤ u_22.1 231 20 ∧ u_22.1 231 20 ≤ 2147483647 := iu_22.fi 20
    refine g_X12_270 Cx hW (k := 231) (by decide) rfl (v := u_22.1 231 20) rfl dX12_add__23 ?_
    refine r_if_eq (tgt := 31) hx hb ⟨(by omega), (by omega)⟩ dX12_add__26 (by decide) (fun c => absurd c (by omega)) (fun _ => ?_)
    refine lv_iconst (v := iv (-1)) hx hb dX12_add__29 (by decide) ?_
    have lk_27 : u_22.1 231 25 = S.1 231 25 := gu_22 25 rfl
    exact sIret Cx hr hlk hW hL ⟨iu_22, F_24, g_25, ⟨(by omega), (fun _ => by have q : r_5 = eFind N (v tk) := xu_3.2; have q2 := xu_3.1; omega), (fun h => absurd h (by have e9 := (show u_22.1 231 20 = u_22.1 231 20 from rfl); have a9 := xu_22; omega))⟩⟩ dX12_add__30

set_option maxRecDepth 100000 in
set_option maxHeartbeats 4000000 in
theorem e_X12_setHere (l : Launch) (G : sG) (S : sS) {N : sN} {k v : Int → Int} {T pz : Int} (hI : dX G S) (hkr : Hd (KRr S k v T)) (hNr : Hd (NRr N k v S)) (hK_ : Hd (NK N)) (hf0 : S.1 231 20 = 0) (hc : S.1 231 24 = pz) (hk2 : Hd (k pz = 2)) : Met l yX12_setHere (.code yX12_setHere cX12_setHere 2 (some .int) :: tb) (rmk 2 0 0) (sPc G 294 S [.ref (G.2.2.1 + 231)]) (sQi G 294 (fun r u => dX G u ∧ Fr S u (pl [231]) ∧ FF S u (fl [20, 21, 24]) ∧ ((-1 ≤ r ∧ r ≤ 128) ∧ u.1 231 24 = pz + 1 ∧ Hd (u.1 231 20 ≠ 0 → ¬ isS N (v pz)) ∧ Hd (u.1 231 20 = 0 → r = eFind N (v pz) ∧ isS N (v pz))))) 0 0 (sF G) := by
  refine sEnter (by decide) (Nat.le_of_ble_eq_true rfl) ?_
  intro p e s m args below meth c Cx hr hlk hnm hW ls hl
  have Cx : sC G p m c cX12_setHere 2 s args RX12 := Cx
  obtain ⟨hx, hb, hml, hown, hts⟩ := id Cx.1
  have hL : sL G [] := sL_nil
  have hl : lv_has ls 2 [(0, .ref (G.2.2.1 + 231))] := hl
  have hW0 := hW
  obtain ⟨K, hK⟩ : ∃ z, S.2.1 244 = z := ⟨_, rfl⟩
  obtain ⟨V, hV⟩ : ∃ z, S.2.1 247 = z := ⟨_, rfl⟩
  obtain ⟨Fm, hFm⟩ : ∃ z, S.2.1 245 = z := ⟨_, rfl⟩
  obtain ⟨Wd, hWd⟩ : ∃ z, S.2.1 246 = z := ⟨_, rfl⟩
  have hkk : kr K V T = k := (by rw [← hK, ← hV]; exact hkr.1)
  have hTb := hkr.2.1
  have hN1 := hNr.1
  have htk2 := hkr.lt hk2 (by decide)
  refine lv_aload_n hx hb dX12_setHere_0 rfl (lv_at hl 0 rfl) ?_
  have q_1 : (-2147483648) ≤ S.1 231 20 ∧ S.1 231 20 ≤ 2147483647 := hI.fi 20
  refine g_X12_270 Cx hW (k := 231) (by decide) rfl (v := S.1 231 20) rfl dX12_setHere_1 ?_
  refine r_if_eq (tgt := 9) hx hb ⟨(by omega), (by omega)⟩ dX12_setHere_4 (by decide) (fun _ => ?_) (fun c => absurd (by omega) c)
  refine lv_aload_n hx hb dX12_setHere_9 rfl (lv_at hl 0 rfl) ?_
  refine lv_aload_n hx hb dX12_setHere_10 rfl (lv_at hl 0 rfl) ?_
  have q_2 : (-2147483648) ≤ S.1 231 24 ∧ S.1 231 24 ≤ 2147483647 := hI.fi 24
  refine g_X12_315 Cx hW (k := 231) (by decide) rfl (v := S.1 231 24) rfl dX12_setHere_11 ?_
  have q_3 : (-2147483648) ≤ S.1 231 25 ∧ S.1 231 25 ≤ 2147483647 := hI.fi 25
  refine sBi (sV (As := [.int (iv (S.1 231 24))]) (rest := []) (k := 231) Cx (e_X12_find l G S (tk := S.1 231 24) hI hkr hNr hK_ (by rw [hc]; exact hk2)) (c_X12_361 Cx rfl rfl (rmk_ok (by omega) (by decide))) hW (by decide) rfl rfl rfl hl.1 rfl (Nat.le_of_ble_eq_true rfl) dX12_setHere_14 ⟨Nat.le_of_ble_eq_true rfl, Nat.le_of_ble_eq_true rfl⟩) hL (fun r_6 u_4 H locs k_5 hW hL => ?_)
  obtain ⟨eu_4, xu_4⟩ := k_5
  rw [eu_4] at hW
  refine lv_istore_n (lv' := [(1, .int (iv r_6)), (0, .ref (G.2.2.1 + 231))]) hx hb dX12_setHere_17 rfl hl (by decide) rfl (fun ls hl => ?_)
  refine lv_iload_n hx hb dX12_setHere_18 rfl (lv_at hl 0 rfl) ?_
  refine lv_iconst (v := iv (-1)) hx hb dX12_setHere_19 (by decide) ?_
  refine r_icmp_eq (tgt := 33) hx hb ⟨(by omega), (by omega)⟩ ⟨(by omega), (by omega)⟩ dX12_setHere_20 (by decide) (fun c_7 => ?_) (fun c_7 => ?_)
  · refine lv_aload_n hx hb dX12_setHere_33 rfl (lv_at hl 1 rfl) ?_
    refine lv_iconst (v := iv 2) hx hb dX12_setHere_34 (by decide) ?_
    refine lv_aload_n hx hb dX12_setHere_35 rfl (lv_at hl 1 rfl) ?_
    refine g_X12_315 Cx hW (k := 231) (by decide) rfl (v := S.1 231 24) rfl dX12_setHere_36 ?_
    refine sBv (sV (As := [.int (iv 2), .int (iv (S.1 231 24))]) (rest := []) (k := 231) Cx (s_X12_wrong l G S (cd := 2) (tk := S.1 231 24) hI (by omega) (by omega)) (c_X12_321 Cx rfl rfl (rmk_ok (by omega) (by decide))) hW (by decide) rfl rfl rfl hl.1 rfl (Nat.le_of_ble_eq_true rfl) dX12_setHere_39 ⟨Nat.le_of_ble_eq_true rfl, Nat.le_of_ble_eq_true rfl⟩) hL (fun u_8 H locs k_9 hW hL => ?_)
    obtain ⟨iu_8, fu_8, gu_8, xu_8⟩ := k_9
    have F_10 := (Fr.rf : Fr S S (pl [231])).trans fu_8
    have g_11 : FF S u_8 (fl [20, 21, 24]) := FF.trans FF.rf (FF.to gu_8 (fl_sub (by decide)))
    refine lv_aload_n hx hb dX12_setHere_42 rfl (lv_at hl 1 rfl) ?_
    refine lv_dup hx hb dX12_setHere_43 rfl ?_
    refine g_X12_315 Cx hW (k := 231) (by decide) rfl (v := S.1 231 24) (gu_8 24 rfl) dX12_setHere_44 ?_
    refine lv_iconst (v := iv 1) hx hb dX12_setHere_47 (by decide) ?_
    refine r_iadd hx hb dX12_setHere_48 ?_
    refine p_X12_315 Cx hW hL (k := 231) (by decide) rfl dX12_setHere_49 (fun H locs hW hL => ?_)
    have F_12 : Fr S (uF u_8 231 24 ((S.1 231 24) + 1)) (pl [231]) := F_10.F rfl
    have g_13 : FF S (uF u_8 231 24 ((S.1 231 24) + 1)) (fl [20, 21, 24]) := FF.F g_11 rfl
    have i_14 : dX G (uF u_8 231 24 ((S.1 231 24) + 1)) := iu_8.F (i := 24) (show (-2147483648) ≤ (S.1 231 24) + 1 ∧ (S.1 231 24) + 1 ≤ 2147483647 from ⟨by omega, by omega⟩)
    refine lv_aload_n hx hb dX12_setHere_52 rfl (lv_at hl 1 rfl) ?_
    have q_15 : (-2147483648) ≤ u_8.1 231 20 ∧ u_8.1 231 20 ≤ 2147483647 := iu_8.fi 20
    refine g_X12_270 Cx hW (k := 231) (by decide) rfl (v := u_8.1 231 20) (uF_ne (fun h => absurd h.2 (by decide))) dX12_setHere_53 ?_
    refine r_if_ne (tgt := 63) hx hb ⟨(by omega), (by omega)⟩ dX12_setHere_56 (by decide) (fun _ => ?_) (fun c => absurd c (by omega))
    refine lv_iconst (v := iv (-1)) hx hb dX12_setHere_63 (by decide) ?_
    have lk_16 : (uF u_8 231 24 ((S.1 231 24) + 1)).1 231 24 = (S.1 231 24) + 1 := uF_on
    have lk_17 : (uF u_8 231 24 ((S.1 231 24) + 1)).1 231 20 = u_8.1 231 20 := uF_ne (fun h => absurd h.2 (by decide))
    exact sIret Cx hr hlk hW hL ⟨i_14, F_12, g_13, ⟨(by omega), (by have e7 := (show (uF u_8 231 24 ((S.1 231 24) + 1)).1 231 24 = (S.1 231 24) + 1 from uF_on); omega), (fun _ z => by have q : r_6 = eFind N (v pz) := (by rw [← hc]; exact xu_4.2); have q2 := xu_4.1; have z1 := z.1; have z2 := z.2; rw [← q] at z1 z2; have c1 := (cs_i (hNr.2.2 _ z1 (by omega)).1).1; omega), (fun h => absurd h (by have e9 := (show (uF u_8 231 24 ((S.1 231 24) + 1)).1 231 20 = u_8.1 231 20 from uF_ne (fun h => absurd h.2 (by decide))); have a9 := xu_8; omega))⟩⟩ dX12_setHere_64
  · refine lv_aload_n hx hb dX12_setHere_23 rfl (lv_at hl 1 rfl) ?_
    refine g_X12_62 Cx hW (k := 231) (by decide) rfl (v := .ref (G.2.2.1 + 249)) (rd_27 hI) dX12_setHere_24 ?_
    refine lv_iload_n hx hb dX12_setHere_27 rfl (lv_at hl 0 rfl) ?_
    refine rIald Cx hW (k := 249) (by decide) rfl (by decide) (by omega) (by omega) dX12_setHere_28 ?_
    have q_18 : (-2147483648) ≤ S.2.1 249 r_6 ∧ S.2.1 249 r_6 ≤ 2147483647 := hI.ai 249 r_6
    refine r_i (b := S.2.1 249 r_6) rfl ?_
    refine lv_iconst (v := iv 1) hx hb dX12_setHere_29 (by decide) ?_
    refine r_icmp_eq (tgt := 42) hx hb ⟨(by omega), (by omega)⟩ ⟨(by omega), (by omega)⟩ dX12_setHere_30 (by decide) (fun c_19 => ?_) (fun c_19 => ?_)
    · refine lv_aload_n hx hb dX12_setHere_42 rfl (lv_at hl 1 rfl) ?_
      refine lv_dup hx hb dX12_setHere_43 rfl ?_
      refine g_X12_315 Cx hW (k := 231) (by decide) rfl (v := S.1 231 24) rfl dX12_setHere_44 ?_
      refine lv_iconst (v := iv 1) hx hb dX12_setHere_47 (by decide) ?_
      refine r_iadd hx hb dX12_setHere_48 ?_
      refine p_X12_315 Cx hW hL (k := 231) (by decide) rfl dX12_setHere_49 (fun H locs hW hL => ?_)
      have F_20 : Fr S (uF S 231 24 ((S.1 231 24) + 1)) (pl [231]) := (Fr.rf : Fr S S (pl [231])).F rfl
      have g_21 : FF S (uF S 231 24 ((S.1 231 24) + 1)) (fl [20, 21, 24]) := FF.F FF.rf rfl
      have i_22 : dX G (uF S 231 24 ((S.1 231 24) + 1)) := hI.F (i := 24) (show (-2147483648) ≤ (S.1 231 24) + 1 ∧ (S.1 231 24) + 1 ≤ 2147483647 from ⟨by omega, by omega⟩)
      refine lv_aload_n hx hb dX12_setHere_52 rfl (lv_at hl 1 rfl) ?_
      refine g_X12_270 Cx hW (k := 231) (by decide) rfl (v := S.1 231 20) (uF_ne (fun h => absurd h.2 (by decide))) dX12_setHere_53 ?_
      refine r_if_ne (tgt := 63) hx hb ⟨(by omega), (by omega)⟩ dX12_setHere_56 (by decide) (fun c => absurd (by omega) c) (fun _ => ?_)
      refine lv_iload_n hx hb dX12_setHere_59 rfl (lv_at hl 0 rfl) ?_
      refine lv_goto (tgt := 64) hx hb dX12_setHere_60 (by decide) ?_
      have lk_23 : (uF S 231 24 ((S.1 231 24) + 1)).1 231 24 = (S.1 231 24) + 1 := uF_on
      have lk_24 : (uF S 231 24 ((S.1 231 24) + 1)).1 231 20 = S.1 231 20 := uF_ne (fun h => absurd h.2 (by decide))
      exact sIret Cx hr hlk hW hL ⟨i_22, F_20, g_21, ⟨(by omega), (by have e7 := (show (uF S 231 24 ((S.1 231 24) + 1)).1 231 24 = (S.1 231 24) + 1 from uF_on); omega), (fun h => absurd (show (uF S 231 24 ((S.1 231 24) + 1)).1 231 20 = 0 by have e9 := (show (uF S 231 24 ((S.1 231 24) + 1)).1 231 20 = S.1 231 20 from uF_ne (fun h => absurd h.2 (by decide))); omega) h), (fun _ => ⟨(by have q : r_6 = eFind N (v pz) := (by rw [← hc]; exact xu_4.2); have q2 := xu_4.1; omega), (by have q : r_6 = eFind N (v pz) := (by rw [← hc]; exact xu_4.2); have q2 := xu_4.1; rw [isS, ← q]; exact ⟨by omega, (cs_i (hNr.2.2 _ (by omega) (by omega)).1).1.mp (by omega)⟩)⟩)⟩⟩ dX12_setHere_64
    · refine lv_aload_n hx hb dX12_setHere_33 rfl (lv_at hl 1 rfl) ?_
      refine lv_iconst (v := iv 2) hx hb dX12_setHere_34 (by decide) ?_
      refine lv_aload_n hx hb dX12_setHere_35 rfl (lv_at hl 1 rfl) ?_
      refine g_X12_315 Cx hW (k := 231) (by decide) rfl (v := S.1 231 24) rfl dX12_setHere_36 ?_
      refine sBv (sV (As := [.int (iv 2), .int (iv (S.1 231 24))]) (rest := []) (k := 231) Cx (s_X12_wrong l G S (cd := 2) (tk := S.1 231 24) hI (by omega) (by omega)) (c_X12_321 Cx rfl rfl (rmk_ok (by omega) (by decide))) hW (by decide) rfl rfl rfl hl.1 rfl (Nat.le_of_ble_eq_true rfl) dX12_setHere_39 ⟨Nat.le_of_ble_eq_true rfl, Nat.le_of_ble_eq_true rfl⟩) hL (fun u_25 H locs k_26 hW hL => ?_)
      obtain ⟨iu_25, fu_25, gu_25, xu_25⟩ := k_26
      have F_27 := (Fr.rf : Fr S S (pl [231])).trans fu_25
      have g_28 : FF S u_25 (fl [20, 21, 24]) := FF.trans FF.rf (FF.to gu_25 (fl_sub (by decide)))
      refine lv_aload_n hx hb dX12_setHere_42 rfl (lv_at hl 1 rfl) ?_
      refine lv_dup hx hb dX12_setHere_43 rfl ?_
      refine g_X12_315 Cx hW (k := 231) (by decide) rfl (v := S.1 231 24) (gu_25 24 rfl) dX12_setHere_44 ?_
      refine lv_iconst (v := iv 1) hx hb dX12_setHere_47 (by decide) ?_
      refine r_iadd hx hb dX12_setHere_48 ?_
      refine p_X12_315 Cx hW hL (k := 231) (by decide) rfl dX12_setHere_49 (fun H locs hW hL => ?_)
      have F_29 : Fr S (uF u_25 231 24 ((S.1 231 24) + 1)) (pl [231]) := F_27.F rfl
      have g_30 : FF S (uF u_25 231 24 ((S.1 231 24) + 1)) (fl [20, 21, 24]) := FF.F g_28 rfl
      have i_31 : dX G (uF u_25 231 24 ((S.1 231 24) + 1)) := iu_25.F (i := 24) (show (-2147483648) ≤ (S.1 231 24) + 1 ∧ (S.1 231 24) + 1 ≤ 2147483647 from ⟨by omega, by omega⟩)
      refine lv_aload_n hx hb dX12_setHere_52 rfl (lv_at hl 1 rfl) ?_
      have q_32 : (-2147483648) ≤ u_25.1 231 20 ∧ u_25.1 231 20 ≤ 2147483647 := iu_25.fi 20
      refine g_X12_270 Cx hW (k := 231) (by decide) rfl (v := u_25.1 231 20) (uF_ne (fun h => absurd h.2 (by decide))) dX12_setHere_53 ?_
      refine r_if_ne (tgt := 63) hx hb ⟨(by omega), (by omega)⟩ dX12_setHere_56 (by decide) (fun _ => ?_) (fun c => absurd c (by omega))
      refine lv_iconst (v := iv (-1)) hx hb dX12_setHere_63 (by decide) ?_
      have lk_33 : (uF u_25 231 24 ((S.1 231 24) + 1)).1 231 24 = (S.1 231 24) + 1 := uF_on
      have lk_34 : (uF u_25 231 24 ((S.1 231 24) + 1)).1 231 20 = u_25.1 231 20 := uF_ne (fun h => absurd h.2 (by decide))
      exact sIret Cx hr hlk hW hL ⟨i_31, F_29, g_30, ⟨(by omega), (by have e7 := (show (uF u_25 231 24 ((S.1 231 24) + 1)).1 231 24 = (S.1 231 24) + 1 from uF_on); omega), (fun _ z => by have q : r_6 = eFind N (v pz) := (by rw [← hc]; exact xu_4.2); have q2 := xu_4.1; have z1 := z.1; have z2 := z.2; rw [← q] at z1 z2; have c1 := (cs_i (hNr.2.2 _ z1 (by omega)).1).1; omega), (fun h => absurd h (by have e9 := (show (uF u_25 231 24 ((S.1 231 24) + 1)).1 231 20 = u_25.1 231 20 from uF_ne (fun h => absurd h.2 (by decide))); have a9 := xu_25; omega))⟩⟩ dX12_setHere_64

set_option maxRecDepth 100000 in
set_option maxHeartbeats 4000000 in
theorem e_X12_isGreat (l : Launch) (G : sG) (S : sS) {ix : Int} (hI : dX G S) (hix : 0 ≤ ix ∧ ix + 12 < 1820) : Met l yX12_isGreat (.code yX12_isGreat cX12_isGreat 3 (some .boolean) :: tb) (rmk 1 0 0) (sPc G 294 S [.ref (G.2.2.1 + 231), .int (iv ix)]) (sQi G 294 (fun r u => u = S ∧ ((0 ≤ r ∧ r ≤ 1) ∧ Hd (r = 1 → grt (fvr S ix)) ∧ Hd (r = 0 → ¬ grt (fvr S ix))))) 0 0 (sF G) := by
  refine sEnter (by decide) (Nat.le_of_ble_eq_true rfl) ?_
  intro p e s m args below meth c Cx hr hlk hnm hW ls hl
  have Cx : sC G p m c cX12_isGreat 3 s args RX12 := Cx
  obtain ⟨hx, hb, hml, hown, hts⟩ := id Cx.1
  have hL : sL G [] := sL_nil
  have hl : lv_has ls 3 [(0, .ref (G.2.2.1 + 231)), (1, .int (iv ix))] := hl
  have hW0 := hW
  refine lv_iconst (v := iv 0) hx hb dX12_isGreat_0 (by decide) ?_
  refine lv_istore_n (lv' := [(2, .int (iv 0)), (0, .ref (G.2.2.1 + 231)), (1, .int (iv ix))]) hx hb dX12_isGreat_1 rfl hl (by decide) rfl (fun ls hl => ?_)
  have loop_2 : ∀ (fuel : Nat) (kk : Int) (H : Heap) (locs : List Loc) (ls : Array Slot), (13 - kk).toNat < fuel → (0 ≤ kk ∧ kk ≤ 13) → (Hd (∀ t, 0 ≤ t → t < kk → -99999 ≤ S.2.2.1 257 (ix + t) ∧ S.2.2.1 257 (ix + t) ≤ 99999)) → sW G 294 S H → sL G locs → lv_has ls 3 [(2, .int (iv kk)), (0, .ref (G.2.2.1 + 231)), (1, .int (iv ix))] → W p l e (rmk 1 0 0) s m args below meth c H locs 0 0 (MQ below (sQi G 294 (fun r u => u = S ∧ ((0 ≤ r ∧ r ≤ 1) ∧ Hd (r = 1 → grt (fvr S ix)) ∧ Hd (r = 0 → ¬ grt (fvr S ix))))) args s 0 0 (sF G)) (F0 m 2 ls []) := by
    intro fuel
    induction fuel with
    | zero => intro kk H locs ls hmeas hk hgb hW hL hl; exact absurd hmeas (Nat.not_lt_zero _)
    | succ fuel ih_2 =>
      intro kk H locs ls hmeas hk hgb hW hL hl
      refine lv_iload_n hx hb dX12_isGreat_2 rfl (lv_at hl 0 rfl) ?_
      refine lv_bipush (v := iv 12) hx hb dX12_isGreat_3 (by decide) ?_
      refine r_icmp_gt (tgt := 46) hx hb ⟨(by omega), (by omega)⟩ ⟨(by omega), (by omega)⟩ dX12_isGreat_5 (by decide) (fun c_1 => ?_) (fun c_1 => ?_)
      · refine lv_iconst (v := iv 0) hx hb dX12_isGreat_46 (by decide) ?_
        exact sZret Cx hr hlk hW hL (by omega) ⟨rfl, ⟨(by omega), (fun h => absurd h (by decide)), (fun _ => grt_n (fun x a b => hgb x a (by omega)))⟩⟩ dX12_isGreat_47
      · refine lv_aload_n hx hb dX12_isGreat_8 rfl (lv_at hl 1 rfl) ?_
        refine g_X12_88 Cx hW (k := 231) (by decide) rfl (v := .ref (G.2.2.1 + 257)) (rd_41 hI) dX12_isGreat_9 ?_
        refine lv_iload_n hx hb dX12_isGreat_12 rfl (lv_at hl 2 rfl) ?_
        refine lv_iload_n hx hb dX12_isGreat_13 rfl (lv_at hl 0 rfl) ?_
        refine r_iadd hx hb dX12_isGreat_14 ?_
        refine rLald Cx hW (k := 257) (by decide) rfl (by decide) (by omega) (by omega) dX12_isGreat_15 ?_
        have q_2 : -9223372036854775808 ≤ S.2.2.1 257 (ix + kk) ∧ S.2.2.1 257 (ix + kk) ≤ 9223372036854775807 := hI.li 257 (ix + kk)
        refine r_j (b := S.2.2.1 257 (ix + kk)) rfl ?_
        refine lv_ldc2 hx hb hown (hts _ w_2438) dX12_isGreat_16 ?_
        refine r_lcmp hx hb ⟨(by omega), (by omega)⟩ ⟨(by omega), (by omega)⟩ dX12_isGreat_19 (fun z_3 az_3 bz_3 cz_3 => ?_)
        refine r_if_gt (tgt := 38) hx hb ⟨(by omega), (by omega)⟩ dX12_isGreat_20 (by decide) (fun c_4 => ?_) (fun c_4 => ?_)
        · refine lv_iconst (v := iv 1) hx hb dX12_isGreat_38 (by decide) ?_
          exact sZret Cx hr hlk hW hL (by omega) ⟨rfl, ⟨(by omega), (fun _ => grt_y (j := kk) (by omega) (by omega) (by show 99999 < S.2.2.1 257 (ix + kk) ∨ S.2.2.1 257 (ix + kk) < -99999; have p0 := az_3; have q0 := bz_3; have r0 := cz_3; omega)), (fun h => absurd h (by decide))⟩⟩ dX12_isGreat_39
        · refine lv_aload_n hx hb dX12_isGreat_23 rfl (lv_at hl 1 rfl) ?_
          refine g_X12_88 Cx hW (k := 231) (by decide) rfl (v := .ref (G.2.2.1 + 257)) (rd_41 hI) dX12_isGreat_24 ?_
          refine lv_iload_n hx hb dX12_isGreat_27 rfl (lv_at hl 2 rfl) ?_
          refine lv_iload_n hx hb dX12_isGreat_28 rfl (lv_at hl 0 rfl) ?_
          refine r_iadd hx hb dX12_isGreat_29 ?_
          refine rLald Cx hW (k := 257) (by decide) rfl (by decide) (by omega) (by omega) dX12_isGreat_30 ?_
          refine r_j (b := S.2.2.1 257 (ix + kk)) rfl ?_
          refine lv_ldc2 hx hb hown (hts _ w_2439) dX12_isGreat_31 ?_
          refine r_lcmp hx hb ⟨(by omega), (by omega)⟩ ⟨(by omega), (by omega)⟩ dX12_isGreat_34 (fun z_5 az_5 bz_5 cz_5 => ?_)
          refine r_if_ge (tgt := 40) hx hb ⟨(by omega), (by omega)⟩ dX12_isGreat_35 (by decide) (fun c_6 => ?_) (fun c_6 => ?_)
          · refine lv_iinc (v := iv (kk + 1)) (lv' := [(2, .int (iv (kk + 1))), (0, .ref (G.2.2.1 + 231)), (1, .int (iv ix))]) hx hb dX12_isGreat_40 hl (k := 0) rfl ((Int32.ofInt_add _ _).symm) (by decide) rfl (fun ls hl => ?_)
            refine lv_goto (tgt := 2) hx hb dX12_isGreat_43 (by decide) ?_
            exact ih_2 (kk + 1) _ _ _ (by omega) (by omega) (fun t a b => by by_cases e : t = kk; (rw [e]; have p0 := az_3; have q0 := bz_3; have r0 := cz_3; have p1 := az_5; have q1 := bz_5; have r1 := cz_5; omega); exact hgb t a (by omega)) hW hL (lv_sub hl [0, 1, 2] rfl)
          · refine lv_iconst (v := iv 1) hx hb dX12_isGreat_38 (by decide) ?_
            exact sZret Cx hr hlk hW hL (by omega) ⟨rfl, ⟨(by omega), (fun _ => grt_y (j := kk) (by omega) (by omega) (by show 99999 < S.2.2.1 257 (ix + kk) ∨ S.2.2.1 257 (ix + kk) < -99999; have p0 := az_3; have q0 := bz_3; have r0 := cz_3; have p1 := az_5; have q1 := bz_5; have r1 := cz_5; omega)), (fun h => absurd h (by decide))⟩⟩ dX12_isGreat_39
  exact loop_2 (_ + 1) 0 _ _ _ (Nat.lt_succ_self _) (by omega) (fun t a b => absurd b (by omega)) hW hL (lv_sub hl [0, 1, 2] rfl)

set_option maxRecDepth 100000 in
set_option maxHeartbeats 4000000 in
theorem e_X12_hasVariables (l : Launch) (G : sG) (S : sS) {ix : Int} (hI : dX G S) (hix : 0 ≤ ix ∧ ix + 12 < 1820) : Met l yX12_hasVariables (.code yX12_hasVariables cX12_hasVariables 3 (some .boolean) :: tb) (rmk 1 0 0) (sPc G 294 S [.ref (G.2.2.1 + 231), .int (iv ix)]) (sQi G 294 (fun r u => u = S ∧ ((0 ≤ r ∧ r ≤ 1) ∧ Hd (r = 1 → hsv (fvr S ix)) ∧ Hd (r = 0 → ¬ hsv (fvr S ix))))) 0 0 (sF G) := by
  refine sEnter (by decide) (Nat.le_of_ble_eq_true rfl) ?_
  intro p e s m args below meth c Cx hr hlk hnm hW ls hl
  have Cx : sC G p m c cX12_hasVariables 3 s args RX12 := Cx
  obtain ⟨hx, hb, hml, hown, hts⟩ := id Cx.1
  have hL : sL G [] := sL_nil
  have hl : lv_has ls 3 [(0, .ref (G.2.2.1 + 231)), (1, .int (iv ix))] := hl
  have hW0 := hW
  refine lv_iconst (v := iv 1) hx hb dX12_hasVariables_0 (by decide) ?_
  refine lv_istore_n (lv' := [(2, .int (iv 1)), (0, .ref (G.2.2.1 + 231)), (1, .int (iv ix))]) hx hb dX12_hasVariables_1 rfl hl (by decide) rfl (fun ls hl => ?_)
  have loop_2 : ∀ (fuel : Nat) (kk : Int) (H : Heap) (locs : List Loc) (ls : Array Slot), (13 - kk).toNat < fuel → (1 ≤ kk ∧ kk ≤ 13) → (Hd (∀ t, 1 ≤ t → t < kk → S.2.2.1 257 (ix + t) = 0)) → sW G 294 S H → sL G locs → lv_has ls 3 [(2, .int (iv kk)), (0, .ref (G.2.2.1 + 231)), (1, .int (iv ix))] → W p l e (rmk 1 0 0) s m args below meth c H locs 0 0 (MQ below (sQi G 294 (fun r u => u = S ∧ ((0 ≤ r ∧ r ≤ 1) ∧ Hd (r = 1 → hsv (fvr S ix)) ∧ Hd (r = 0 → ¬ hsv (fvr S ix))))) args s 0 0 (sF G)) (F0 m 2 ls []) := by
    intro fuel
    induction fuel with
    | zero => intro kk H locs ls hmeas hk hgb hW hL hl; exact absurd hmeas (Nat.not_lt_zero _)
    | succ fuel ih_2 =>
      intro kk H locs ls hmeas hk hgb hW hL hl
      refine lv_iload_n hx hb dX12_hasVariables_2 rfl (lv_at hl 0 rfl) ?_
      refine lv_bipush (v := iv 12) hx hb dX12_hasVariables_3 (by decide) ?_
      refine r_icmp_gt (tgt := 29) hx hb ⟨(by omega), (by omega)⟩ ⟨(by omega), (by omega)⟩ dX12_hasVariables_5 (by decide) (fun c_1 => ?_) (fun c_1 => ?_)
      · refine lv_iconst (v := iv 0) hx hb dX12_hasVariables_29 (by decide) ?_
        exact sZret Cx hr hlk hW hL (by omega) ⟨rfl, ⟨(by omega), (fun h => absurd h (by decide)), (fun _ => hsv_n (fun x a b => hgb x a (by omega)))⟩⟩ dX12_hasVariables_30
      · refine lv_aload_n hx hb dX12_hasVariables_8 rfl (lv_at hl 1 rfl) ?_
        refine g_X12_88 Cx hW (k := 231) (by decide) rfl (v := .ref (G.2.2.1 + 257)) (rd_41 hI) dX12_hasVariables_9 ?_
        refine lv_iload_n hx hb dX12_hasVariables_12 rfl (lv_at hl 2 rfl) ?_
        refine lv_iload_n hx hb dX12_hasVariables_13 rfl (lv_at hl 0 rfl) ?_
        refine r_iadd hx hb dX12_hasVariables_14 ?_
        refine rLald Cx hW (k := 257) (by decide) rfl (by decide) (by omega) (by omega) dX12_hasVariables_15 ?_
        have q_2 : -9223372036854775808 ≤ S.2.2.1 257 (ix + kk) ∧ S.2.2.1 257 (ix + kk) ≤ 9223372036854775807 := hI.li 257 (ix + kk)
        refine r_j (b := S.2.2.1 257 (ix + kk)) rfl ?_
        refine lv_lconst (v := jv 0) hx hb dX12_hasVariables_16 (by decide) ?_
        refine r_lcmp hx hb ⟨(by omega), (by omega)⟩ ⟨(by omega), (by omega)⟩ dX12_hasVariables_17 (fun z_3 az_3 bz_3 cz_3 => ?_)
        refine r_if_eq (tgt := 23) hx hb ⟨(by omega), (by omega)⟩ dX12_hasVariables_18 (by decide) (fun c_4 => ?_) (fun c_4 => ?_)
        · refine lv_iinc (v := iv (kk + 1)) (lv' := [(2, .int (iv (kk + 1))), (0, .ref (G.2.2.1 + 231)), (1, .int (iv ix))]) hx hb dX12_hasVariables_23 hl (k := 0) rfl ((Int32.ofInt_add _ _).symm) (by decide) rfl (fun ls hl => ?_)
          refine lv_goto (tgt := 2) hx hb dX12_hasVariables_26 (by decide) ?_
          exact ih_2 (kk + 1) _ _ _ (by omega) (by omega) (fun t a b => by by_cases e : t = kk; (rw [e]; have p0 := az_3; have q0 := bz_3; have r0 := cz_3; omega); exact hgb t a (by omega)) hW hL (lv_sub hl [0, 1, 2] rfl)
        · refine lv_iconst (v := iv 1) hx hb dX12_hasVariables_21 (by decide) ?_
          exact sZret Cx hr hlk hW hL (by omega) ⟨rfl, ⟨(by omega), (fun _ => hsv_y (j := kk) (by omega) (by omega) (fun q => by have q : S.2.2.1 257 (ix + kk) = 0 := q; have p0 := az_3; have q0 := bz_3; have r0 := cz_3; omega)), (fun h => absurd h (by decide))⟩⟩ dX12_hasVariables_22
  exact loop_2 (_ + 1) 1 _ _ _ (Nat.lt_succ_self _) (by omega) (fun t a b => absurd b (by omega)) hW hL (lv_sub hl [0, 1, 2] rfl)

set_option maxRecDepth 100000 in
set_option maxHeartbeats 4000000 in
theorem e_X12_constant (l : Launch) (G : sG) (S : sS) {ix cv : Int} (hI : dX G S) (hix : 0 ≤ ix ∧ ix + 12 < 1820) (hv : -9223372036854775808 ≤ cv ∧ cv ≤ 9223372036854775807) : Met l yX12_constant (.code yX12_constant cX12_constant 5 none :: tb) (rmk 1 0 0) (sPc G 294 S [.ref (G.2.2.1 + 231), .int (iv ix), .long (jv cv)]) (sQv G 294 (fun u => dX G u ∧ Fr S u (pl [257]) ∧ FF S u (fl []) ∧ (Hd (veq (fvr u ix) (cst cv)) ∧ Hd (∀ j, j < ix → u.2.2.1 257 j = S.2.2.1 257 j)))) 0 0 (sF G) := by
  refine sEnter (by decide) (Nat.le_of_ble_eq_true rfl) ?_
  intro p e s m args below meth c Cx hr hlk hnm hW ls hl
  have Cx : sC G p m c cX12_constant 5 s args RX12 := Cx
  obtain ⟨hx, hb, hml, hown, hts⟩ := id Cx.1
  have hL : sL G [] := sL_nil
  have hl : lv_has ls 5 [(0, .ref (G.2.2.1 + 231)), (1, .int (iv ix)), (2, .long (jv cv))] := hl
  have hW0 := hW
  refine lv_iconst (v := iv 1) hx hb dX12_constant_0 (by decide) ?_
  refine lv_istore (lv' := [(4, .int (iv 1)), (0, .ref (G.2.2.1 + 231)), (1, .int (iv ix)), (2, .long (jv cv))]) hx hb dX12_constant_1 hl (by decide) rfl (fun ls hl => ?_)
  have loop_3 : ∀ (fuel : Nat) (S3 : sS) (kk : Int) (H : Heap) (locs : List Loc) (ls : Array Slot), (13 - kk).toNat < fuel → (dX G S3) → (Fr S S3 (pl [257])) → (Fr S S3 (pl [257])) → (FF S S3 (fl [])) → (FF S S3 (fl [])) → (1 ≤ kk ∧ kk ≤ 13) → (Hd (∀ t, 1 ≤ t → t < kk → S3.2.2.1 257 (ix + t) = 0)) → (Hd (∀ j, j < ix → S3.2.2.1 257 j = S.2.2.1 257 j)) → sW G 294 S3 H → sL G locs → lv_has ls 5 [(4, .int (iv kk)), (0, .ref (G.2.2.1 + 231)), (1, .int (iv ix)), (2, .long (jv cv))] → W p l e (rmk 1 0 0) s m args below meth c H locs 0 0 (MQ below (sQv G 294 (fun u => dX G u ∧ Fr S u (pl [257]) ∧ FF S u (fl []) ∧ (Hd (veq (fvr u ix) (cst cv)) ∧ Hd (∀ j, j < ix → u.2.2.1 257 j = S.2.2.1 257 j)))) args s 0 0 (sF G)) (F0 m 3 ls []) := by
    intro fuel
    induction fuel with
    | zero => intro S3 kk H locs ls hmeas hI3 hFm3 hL3_ hGm3 gL3_ hk hz hlo hW hL hl; exact absurd hmeas (Nat.not_lt_zero _)
    | succ fuel ih_3 =>
      intro S3 kk H locs ls hmeas hI3 hFm3 hL3_ hGm3 gL3_ hk hz hlo hW hL hl
      refine lv_iload hx hb dX12_constant_3 (lv_at hl 0 rfl) ?_
      refine lv_bipush (v := iv 12) hx hb dX12_constant_5 (by decide) ?_
      refine r_icmp_gt (tgt := 26) hx hb ⟨(by omega), (by omega)⟩ ⟨(by omega), (by omega)⟩ dX12_constant_7 (by decide) (fun c_1 => ?_) (fun c_1 => ?_)
      · refine lv_aload_n hx hb dX12_constant_26 rfl (lv_at hl 1 rfl) ?_
        refine g_X12_88 Cx hW (k := 231) (by decide) rfl (v := .ref (G.2.2.1 + 257)) (rd_41 hI3) dX12_constant_27 ?_
        refine lv_iload_n hx hb dX12_constant_30 rfl (lv_at hl 2 rfl) ?_
        refine lv_lload_n hx hb dX12_constant_31 rfl (lv_at hl 3 rfl) ?_
        refine rLast Cx hW hL (k := 257) (by decide) rfl (by decide) (by omega) (by omega) dX12_constant_32 (fun H locs hW hL => ?_)
        have F_2 : Fr S (uL S3 257 ix cv) (pl [257]) := hFm3.L rfl
        have F_3 : Fr S (uL S3 257 ix cv) (pl [257]) := hL3_.L rfl
        have i_4 : dX G (uL S3 257 ix cv) := hI3.L ⟨by omega, by omega⟩
        exact sVret Cx hr hlk hW hL ⟨i_4, F_2, hGm3, ⟨(fun t a b => by show (uL _ 257 ix cv).2.2.1 257 (ix + t) = _; by_cases e : t = 0; (rw [e, show ix + 0 = ix by omega, uL_on]; rfl); (rw [uL_ne (fun h => e (by have h2 := h.2; omega)), hz t (by omega) (by omega)]; exact (if_neg e).symm)), (fun j a => (uL_ne (fun h => by have h2 := h.2; omega)).trans (hlo j a))⟩⟩ dX12_constant_33
      · refine lv_aload_n hx hb dX12_constant_10 rfl (lv_at hl 1 rfl) ?_
        refine g_X12_88 Cx hW (k := 231) (by decide) rfl (v := .ref (G.2.2.1 + 257)) (rd_41 hI3) dX12_constant_11 ?_
        refine lv_iload_n hx hb dX12_constant_14 rfl (lv_at hl 2 rfl) ?_
        refine lv_iload hx hb dX12_constant_15 (lv_at hl 0 rfl) ?_
        refine r_iadd hx hb dX12_constant_17 ?_
        refine lv_lconst (v := jv 0) hx hb dX12_constant_18 (by decide) ?_
        refine rLast Cx hW hL (k := 257) (by decide) rfl (by decide) (by omega) (by omega) dX12_constant_19 (fun H locs hW hL => ?_)
        have F_5 : Fr S (uL S3 257 (ix + kk) 0) (pl [257]) := hFm3.L rfl
        have F_6 : Fr S (uL S3 257 (ix + kk) 0) (pl [257]) := hL3_.L rfl
        have i_7 : dX G (uL S3 257 (ix + kk) 0) := hI3.L ⟨by omega, by omega⟩
        refine lv_iinc (v := iv (kk + 1)) (lv' := [(4, .int (iv (kk + 1))), (0, .ref (G.2.2.1 + 231)), (1, .int (iv ix)), (2, .long (jv cv))]) hx hb dX12_constant_20 hl (k := 0) rfl ((Int32.ofInt_add _ _).symm) (by decide) rfl (fun ls hl => ?_)
        refine lv_goto (tgt := 3) hx hb dX12_constant_23 (by decide) ?_
        exact ih_3 (uL S3 257 (ix + kk) 0) (kk + 1) _ _ _ (by omega) i_7 F_5 F_6 hGm3 gL3_ (by omega) (fun t a b => by by_cases e : t = kk; (rw [e]; exact uL_on); (rw [uL_ne (fun h => e (by have h2 := h.2; omega))]; exact hz t a (by omega))) (fun j a => (uL_ne (fun h => by have h2 := h.2; omega)).trans (hlo j a)) hW hL (lv_sub hl [0, 1, 2, 3] rfl)
  exact loop_3 (_ + 1) S 1 _ _ _ (Nat.lt_succ_self _) hI (Fr.rf : Fr S S (pl [257])) Fr.rf FF.rf FF.rf (by omega) (fun t a b => absurd b (by omega)) (fun j a => rfl) hW hL (lv_sub hl [0, 1, 2, 3] rfl)
