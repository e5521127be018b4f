/-! The class's table of names, as the meaning has it -/
def NRc (N : sN) (S : sS) : Prop := (N.1 = S.1 11 9 ∧ 0 ≤ N.1 ∧ N.1 ≤ 128) ∧ (∀ s, 0 ≤ s → s < N.1 → N.2.1 s = S.2.2.1 16 s) ∧ (∀ s, 0 ≤ s → s < N.1 → N.2.2.1 s 0 = fc S s 0 ∧ (N.2.2.1 s 0 = 6 → N.2.2.1 s 1 = fc S s 1 ∧ N.2.2.1 s 2 = fc S s 2) ∧ (N.2.2.1 s 0 = 2 → N.2.2.1 s 1 = fc S s 1) ∧ (N.2.2.1 s 0 = 7 ∨ N.2.2.1 s 0 = 8 → N.2.2.1 s 3 = fc S s 3 ∧ N.2.2.1 s 4 = fc S s 4) ∧ (N.2.2.1 s 0 = 8 → N.2.2.1 s 5 = fc S s 5))
/-- what holds of the names that were told: no name twice, sets, indexes, numbers within bounds -/
def NK (N : sN) : Prop := NDi N ∧ ∀ s, 0 ≤ s → s < N.1 → (N.2.2.1 s 0 = 2 → 0 ≤ N.2.2.1 s 1 ∧ N.2.2.1 s 1 ≤ 99999) ∧ (N.2.2.1 s 0 = 6 → 0 ≤ N.2.2.1 s 1 ∧ N.2.2.1 s 1 ≤ N.2.2.1 s 2 ∧ N.2.2.1 s 2 ≤ 99999 ∧ N.2.2.1 s 2 - N.2.2.1 s 1 ≤ 11)
def TVn (k v : Int → Int) : Prop := ∀ p, k p = 3 → 0 ≤ v p ∧ v p ≤ 99999
theorem efn_cong {nm nm' : Int → Int} {x : Int} : ∀ m : Nat, (∀ s : Int, 0 ≤ s → s < m → nm s = nm' s) → efn nm x m = efn nm' x m := by
  intro m
  induction m with
  | zero => intro _; rfl
  | succ m ih =>
    intro h
    show (if 0 ≤ efn nm x m then efn nm x m else if nm m = x then (m : Int) else -1) = (if 0 ≤ efn nm' x m then efn nm' x m else if nm' m = x then (m : Int) else -1)
    rw [ih (fun s a b => h s a (by omega)), h m (by omega) (by omega)]
theorem NRc.find {N : sN} {S : sS} (h : NRc N S) (x : Int) : eFind N x = efn (S.2.2.1 16) x (S.1 11 9).toNat := by
  unfold eFind; rw [efn_cong (nm' := S.2.2.1 16) N.1.toNat (fun s a b => h.2.1 s a (by have := h.1; omega)), h.1.1]
theorem ogX_i {k : Int → Int} {p q : Int} (h : ogX k p = some q) : (k p = 3 ∧ q = p + 1) ∨ (k p = 2 ∧ ((k (p + 1) = 21 ∨ k (p + 1) = 22) ∧ k (p + 1 + 1) = 3 ∧ q = p + 1 + 1 + 1 ∨ (¬ (k (p + 1) = 21 ∨ k (p + 1) = 22)) ∧ q = p + 1)) := by
  unfold ogX at h
  by_cases c : k p = 3
  · rw [if_pos c] at h; cases h; exact .inl ⟨c, rfl⟩
  · rw [if_neg c] at h
    obtain ⟨a, h1, h⟩ := ogB h
    obtain ⟨e1, e2⟩ := ogT_lt h1
    rw [e1] at h
    right; refine ⟨e2, ?_⟩
    by_cases d : k (p + 1) = 21 ∨ k (p + 1) = 22
    · rw [if_pos d] at h; obtain ⟨e3, e4⟩ := ogT_lt h; exact .inl ⟨d, e4, e3⟩
    · rw [if_neg d] at h; cases h; exact .inr ⟨d, rfl⟩
theorem NRc.of {N : sN} {S u : sS} (h : NRc N S) (e9 : u.1 11 9 = S.1 11 9) (e16 : ∀ j, u.2.2.1 16 j = S.2.2.1 16 j) (e17 : ∀ j, u.2.1 17 j = S.2.1 17 j) : NRc N u := by
  have ef : ∀ s q, fc u s q = fc S s q := fun s q => e17 _
  unfold NRc
  simp only [ef, e9, e16]
  exact h
set_option maxRecDepth 100000 in
set_option maxHeartbeats 4000000 in
theorem e_X9_fail (l : Launch) (G : sG) (S : sS) {k tk : Int} (hI : cX G S 0 0 0) (hk : 1 ≤ k ∧ k ≤ 7) (htk : -2147483648 ≤ tk ∧ tk ≤ 2147483647) : Met l yX9_fail (.code yX9_fail cX9_fail 3 (some .boolean) :: tb) (rmk 1 0 0) (sPc G 294 S [.ref (G.2.2.1 + 11), .int (iv k), .int (iv tk)]) (sQi G 294 (fun r u => cX G u 0 0 0 ∧ Fr S u (p1 11) ∧ (r = 0 ∧ u.1 11 14 = k ∧ u.1 11 13 = S.1 11 13 ∧ u.1 11 9 = S.1 11 9 ∧ u.1 11 10 = S.1 11 10 ∧ u.1 11 11 = S.1 11 11 ∧ u.1 11 12 = S.1 11 12))) 0 0 (sF G) := by
  refine sEnter (by decide) (Nat.le_of_ble_eq_true rfl) ?_
  intro p e s m args below meth c Cx hr hlk hnm hW ls hl
  have Cx : sC G p m c cX9_fail 3 s args RX9 := Cx
  obtain ⟨hx, hb, hml, hown, hts⟩ := id Cx.1
  have hL : sL G [] := sL_nil
  have hl : lv_has ls 3 [(0, .ref (G.2.2.1 + 11)), (1, .int (iv k)), (2, .int (iv tk))] := hl
  have hW0 := hW
  refine lv_aload_n hx hb dX9_fail_0 rfl (lv_at hl 0 rfl) ?_
  refine lv_iload_n hx hb dX9_fail_1 rfl (lv_at hl 1 rfl) ?_
  refine p_X9_54 Cx hW hL (k := 11) (by decide) rfl dX9_fail_2 (fun H locs hW hL => ?_)
  have F_1 : Fr S (uF S 11 14 k) (p1 11) := (Fr.rf : Fr S S (p1 11)).F rfl
  have i_2 : cX G (uF S 11 14 k) 0 0 0 := hI.F rfl rfl (show 0 ≤ k ∧ k ≤ 7 from ⟨by omega, by omega⟩)
  refine lv_aload_n hx hb dX9_fail_5 rfl (lv_at hl 0 rfl) ?_
  refine lv_iload_n hx hb dX9_fail_6 rfl (lv_at hl 2 rfl) ?_
  refine p_X9_114 Cx hW hL (k := 11) (by decide) rfl dX9_fail_7 (fun H locs hW hL => ?_)
  have F_3 : Fr S (uF (uF S 11 14 k) 11 15 tk) (p1 11) := F_1.F rfl
  have i_4 : cX G (uF (uF S 11 14 k) 11 15 tk) 0 0 0 := i_2.F rfl rfl (show (-2147483648) ≤ tk ∧ tk ≤ 2147483647 from ⟨by omega, by omega⟩)
  refine lv_iconst (v := iv 0) hx hb dX9_fail_10 (by decide) ?_
  have lk_5 : (uF (uF S 11 14 k) 11 15 tk).1 11 14 = k := (uF_ne (fun h => absurd h.2 (by decide))).trans (uF_on)
  have q_6 : (-2147483648) ≤ S.1 11 13 ∧ S.1 11 13 ≤ 2147483647 := hI.fi 11 13 9 (by decide) rfl
  have lk_7 : (uF (uF S 11 14 k) 11 15 tk).1 11 13 = S.1 11 13 := (uF_ne (fun h => absurd h.2 (by decide))).trans (uF_ne (fun h => absurd h.2 (by decide)))
  have q_8 : 0 ≤ S.1 11 9 ∧ S.1 11 9 ≤ 128 := hI.fi 11 9 9 (by decide) rfl
  have lk_9 : (uF (uF S 11 14 k) 11 15 tk).1 11 9 = S.1 11 9 := (uF_ne (fun h => absurd h.2 (by decide))).trans (uF_ne (fun h => absurd h.2 (by decide)))
  have q_10 : 0 ≤ S.1 11 10 ∧ S.1 11 10 ≤ 8 := hI.fi 11 10 9 (by decide) rfl
  have lk_11 : (uF (uF S 11 14 k) 11 15 tk).1 11 10 = S.1 11 10 := (uF_ne (fun h => absurd h.2 (by decide))).trans (uF_ne (fun h => absurd h.2 (by decide)))
  have q_12 : 0 ≤ S.1 11 11 ∧ S.1 11 11 ≤ 12 := hI.fi 11 11 9 (by decide) rfl
  have lk_13 : (uF (uF S 11 14 k) 11 15 tk).1 11 11 = S.1 11 11 := (uF_ne (fun h => absurd h.2 (by decide))).trans (uF_ne (fun h => absurd h.2 (by decide)))
  have q_14 : (-2147483648) ≤ S.1 11 12 ∧ S.1 11 12 ≤ 2147483647 := hI.fi 11 12 9 (by decide) rfl
  have lk_15 : (uF (uF S 11 14 k) 11 15 tk).1 11 12 = S.1 11 12 := (uF_ne (fun h => absurd h.2 (by decide))).trans (uF_ne (fun h => absurd h.2 (by decide)))
  exact sZret Cx hr hlk hW hL (by omega) ⟨i_4, F_3, (by omega)⟩ dX9_fail_11

set_option maxRecDepth 100000 in
set_option maxHeartbeats 4000000 in
theorem e_X9_isSort (l : Launch) (G : sG) (S : sS) {s0 k : Int} (hI : cX G S 0 0 0) (hs : -1 ≤ s0 ∧ s0 ≤ 127) (hk : -2147483648 ≤ k ∧ k ≤ 2147483647) : Met l yX9_isSort (.code yX9_isSort cX9_isSort 3 (some .boolean) :: tb) (rmk 2 0 0) (sPc G 294 S [.ref (G.2.2.1 + 11), .int (iv s0), .int (iv k)]) (sQi G 294 (fun r u => u = S ∧ ((0 ≤ r ∧ r ≤ 1) ∧ Hd (r = 1 → 0 ≤ s0 ∧ fc S s0 0 = k) ∧ Hd (r = 0 → ¬ (0 ≤ s0 ∧ fc S s0 0 = k))))) 0 0 (sF G) := by
  refine sEnter (by decide) (Nat.le_of_ble_eq_true rfl) ?_
  intro p e s m args below meth c Cx hr hlk hnm hW ls hl
  have Cx : sC G p m c cX9_isSort 3 s args RX9 := Cx
  obtain ⟨hx, hb, hml, hown, hts⟩ := id Cx.1
  have hL : sL G [] := sL_nil
  have hl : lv_has ls 3 [(0, .ref (G.2.2.1 + 11)), (1, .int (iv s0)), (2, .int (iv k))] := hl
  have hW0 := hW
  refine lv_iload_n hx hb dX9_isSort_0 rfl (lv_at hl 1 rfl) ?_
  refine r_if_lt (tgt := 18) hx hb ⟨(by omega), (by omega)⟩ dX9_isSort_1 (by decide) (fun c_1 => ?_) (fun c_1 => ?_)
  · refine lv_iconst (v := iv 0) hx hb dX9_isSort_18 (by decide) ?_
    exact sZret Cx hr hlk hW hL (by omega) ⟨rfl, ⟨(by omega), (fun h => absurd h (by decide)), (fun _ z => by omega)⟩⟩ dX9_isSort_19
  · refine lv_aload_n hx hb dX9_isSort_4 rfl (lv_at hl 0 rfl) ?_
    refine lv_iload_n hx hb dX9_isSort_5 rfl (lv_at hl 1 rfl) ?_
    refine lv_iconst (v := iv 0) hx hb dX9_isSort_6 (by decide) ?_
    refine sBi (sV (As := [.int (iv s0), .int (iv 0)]) (rest := []) (k := 11) Cx (s_X9_fact l G S (s0 := s0) (q := 0) hI (by omega) (by omega)) (c_X9_120 Cx rfl rfl (rmk_ok (by omega) (by decide))) hW (by decide) rfl rfl rfl hl.1 rfl (Nat.le_of_ble_eq_true rfl) dX9_isSort_7 ⟨Nat.le_of_ble_eq_true rfl, Nat.le_of_ble_eq_true rfl⟩) hL (fun r_4 u_2 H locs k_3 hW hL => ?_)
    obtain ⟨eu_2, xu_2⟩ := k_3
    rw [eu_2] at hW
    have yu_2 := xu_2.2
    unfold fr8 at yu_2
    refine lv_iload_n hx hb dX9_isSort_10 rfl (lv_at hl 2 rfl) ?_
    refine r_icmp_ne (tgt := 18) hx hb ⟨(by omega), (by omega)⟩ ⟨(by omega), (by omega)⟩ dX9_isSort_11 (by decide) (fun c_5 => ?_) (fun c_5 => ?_)
    · refine lv_iconst (v := iv 0) hx hb dX9_isSort_18 (by decide) ?_
      exact sZret Cx hr hlk hW hL (by omega) ⟨rfl, ⟨(by omega), (fun h => absurd h (by decide)), (fun _ z => by have q := xu_2.1; omega)⟩⟩ dX9_isSort_19
    · refine lv_iconst (v := iv 1) hx hb dX9_isSort_14 (by decide) ?_
      refine lv_goto (tgt := 19) hx hb dX9_isSort_15 (by decide) ?_
      exact sZret Cx hr hlk hW hL (by omega) ⟨rfl, ⟨(by omega), (fun _ => ⟨(by omega), (by have q := xu_2.1; omega)⟩), (fun h => absurd h (by decide))⟩⟩ dX9_isSort_19

set_option maxRecDepth 100000 in
set_option maxHeartbeats 4000000 in
theorem e_X9_item (l : Launch) (G : sG) (S : sS) {N : sN} {pz q : Int} (hI : cX G S 0 0 0) (hN : Hd (NRc N S)) (hK : Hd (NK N)) (hTV : Hd (TVn (kd S) (vd S))) (hfk : S.1 11 14 = 0) (hat : S.1 11 13 + 1 = pz) (hpz : 0 ≤ pz ∧ pz ≤ 2001) (hgx : Hd (ogX (kd S) pz = some q)) : Met l yX9_item (.code yX9_item cX9_item 4 (some .int) :: tb) (rmk 2 0 0) (sPc G 294 S [.ref (G.2.2.1 + 11)]) (sQi G 294 (fun r u => cX G u 0 0 0 ∧ Fr S u (p1 11) ∧ ((-2147483648 ≤ r ∧ r ≤ 2147483647) ∧ (u.1 11 9 = S.1 11 9 ∧ u.1 11 10 = S.1 11 10 ∧ u.1 11 11 = S.1 11 11 ∧ u.1 11 12 = S.1 11 12) ∧ Hd (u.1 11 14 = 0 → eI (kd S) (vd S) N pz = some (r, q) ∧ u.1 11 13 = q) ∧ Hd (u.1 11 14 ≠ 0 → eI (kd S) (vd S) N pz = none)))) 0 0 (sF G) := by
  refine sEnter (by decide) (Nat.le_of_ble_eq_true rfl) ?_
  intro p e s m args below meth c Cx hr hlk hnm hW ls hl
  have Cx : sC G p m c cX9_item 4 s args RX9 := Cx
  obtain ⟨hx, hb, hml, hown, hts⟩ := id Cx.1
  have hL : sL G [] := sL_nil
  have hl : lv_has ls 4 [(0, .ref (G.2.2.1 + 11))] := hl
  have hW0 := hW
  have hkn : 0 ≤ S.1 11 9 ∧ S.1 11 9 ≤ 128 := hI.fi 11 9 9 (by decide) rfl
  refine lv_aload_n hx hb dX9_item_0 rfl (lv_at hl 0 rfl) ?_
  refine lv_dup hx hb dX9_item_1 rfl ?_
  have q_1 : (-2147483648) ≤ S.1 11 13 ∧ S.1 11 13 ≤ 2147483647 := hI.fi 11 13 9 (by decide) rfl
  refine g_X9_89 Cx hW (k := 11) (by decide) rfl (v := S.1 11 13) rfl dX9_item_2 ?_
  refine lv_iconst (v := iv 1) hx hb dX9_item_5 (by decide) ?_
  refine r_iadd hx hb dX9_item_6 ?_
  refine p_X9_89 Cx hW hL (k := 11) (by decide) rfl dX9_item_7 (fun H locs hW hL => ?_)
  have F_2 : Fr S (uF S 11 13 ((S.1 11 13) + 1)) (p1 11) := (Fr.rf : Fr S S (p1 11)).F rfl
  have i_3 : cX G (uF S 11 13 ((S.1 11 13) + 1)) 0 0 0 := hI.F rfl rfl (show (-2147483648) ≤ (S.1 11 13) + 1 ∧ (S.1 11 13) + 1 ≤ 2147483647 from ⟨by omega, by omega⟩)
  refine lv_aload_n hx hb dX9_item_10 rfl (lv_at hl 0 rfl) ?_
  refine g_X9_14 Cx hW (k := 11) (by decide) rfl (v := .ref (G.2.2.1 + 12)) (rf_11_0 i_3) dX9_item_11 ?_
  refine lv_aload_n hx hb dX9_item_14 rfl (lv_at hl 0 rfl) ?_
  refine g_X9_89 Cx hW (k := 11) (by decide) rfl (v := (S.1 11 13) + 1) uF_on dX9_item_15 ?_
  refine sBi (sV (As := [.int (iv ((S.1 11 13) + 1))]) (rest := []) (k := 12) Cx (s_X8_kind l G (uF S 11 13 ((S.1 11 13) + 1)) (k := (S.1 11 13) + 1) i_3 (by omega)) (c_X9_95 Cx rfl rfl (rmk_ok (by omega) (by decide))) hW (by decide) rfl rfl rfl hl.1 rfl (Nat.le_of_ble_eq_true rfl) dX9_item_18 ⟨Nat.le_of_ble_eq_true rfl, Nat.le_of_ble_eq_true rfl⟩) hL (fun r_6 u_4 H locs k_5 hW hL => ?_)
  obtain ⟨eu_4, xu_4⟩ := k_5
  rw [eu_4] at hW
  refine lv_iconst (v := iv 3) hx hb dX9_item_21 (by decide) ?_
  refine r_icmp_ne (tgt := 50) hx hb ⟨(by omega), (by omega)⟩ ⟨(by omega), (by omega)⟩ dX9_item_22 (by decide) (fun c_7 => ?_) (fun c_7 => ?_)
  · refine lv_aload_n hx hb dX9_item_50 rfl (lv_at hl 0 rfl) ?_
    refine lv_aload_n hx hb dX9_item_51 rfl (lv_at hl 0 rfl) ?_
    refine g_X9_14 Cx hW (k := 11) (by decide) rfl (v := .ref (G.2.2.1 + 12)) (rf_11_0 i_3) dX9_item_52 ?_
    refine lv_aload_n hx hb dX9_item_55 rfl (lv_at hl 0 rfl) ?_
    refine g_X9_89 Cx hW (k := 11) (by decide) rfl (v := (S.1 11 13) + 1) uF_on dX9_item_56 ?_
    refine sBl (sV (As := [.int (iv ((S.1 11 13) + 1))]) (rest := [.ref (G.2.2.1 + 11)]) (k := 12) Cx (s_X8_value l G (uF S 11 13 ((S.1 11 13) + 1)) (k := (S.1 11 13) + 1) i_3 (by omega)) (c_X9_124 Cx rfl rfl (rmk_ok (by omega) (by decide))) hW (by decide) rfl rfl rfl hl.1 rfl (Nat.le_of_ble_eq_true rfl) dX9_item_59 ⟨Nat.le_of_ble_eq_true rfl, Nat.le_of_ble_eq_true rfl⟩) hL (fun r_10 u_8 H locs k_9 hW hL => ?_)
    obtain ⟨eu_8, xu_8⟩ := k_9
    rw [eu_8] at hW
    have q_11 : 0 ≤ S.1 11 9 ∧ S.1 11 9 ≤ 128 := hI.fi 11 9 9 (by decide) rfl
    have lk_12 : (uF S 11 13 ((S.1 11 13) + 1)).1 11 9 = S.1 11 9 := uF_ne (fun h => absurd h.2 (by decide))
    refine sBi (sV (As := [.long (jv r_10)]) (rest := []) (k := 11) Cx (e_X9_find l G (uF S 11 13 ((S.1 11 13) + 1)) (nm := r_10) i_3 (by omega)) (c_X9_128 Cx rfl rfl (rmk_ok (by omega) (by decide))) hW (by decide) rfl rfl rfl hl.1 rfl (Nat.le_of_ble_eq_true rfl) dX9_item_62 ⟨Nat.le_of_ble_eq_true rfl, Nat.le_of_ble_eq_true rfl⟩) hL (fun r_15 u_13 H locs k_14 hW hL => ?_)
    obtain ⟨eu_13, xu_13⟩ := k_14
    rw [eu_13] at hW
    refine lv_istore_n (lv' := [(1, .int (iv r_15)), (0, .ref (G.2.2.1 + 11))]) hx hb dX9_item_65 rfl hl (by decide) rfl (fun ls hl => ?_)
    refine lv_iload_n hx hb dX9_item_66 rfl (lv_at hl 0 rfl) ?_
    refine r_if_lt (tgt := 80) hx hb ⟨(by omega), (by omega)⟩ dX9_item_67 (by decide) (fun c_16 => ?_) (fun c_16 => ?_)
    · refine lv_aload_n hx hb dX9_item_80 rfl (lv_at hl 1 rfl) ?_
      refine lv_iconst (v := iv 2) hx hb dX9_item_81 (by decide) ?_
      refine lv_aload_n hx hb dX9_item_82 rfl (lv_at hl 1 rfl) ?_
      refine g_X9_89 Cx hW (k := 11) (by decide) rfl (v := (S.1 11 13) + 1) uF_on dX9_item_83 ?_
      have lk_17 : (uF S 11 13 ((S.1 11 13) + 1)).1 11 13 = (S.1 11 13) + 1 := uF_on
      have q_18 : 0 ≤ S.1 11 10 ∧ S.1 11 10 ≤ 8 := hI.fi 11 10 9 (by decide) rfl
      have lk_19 : (uF S 11 13 ((S.1 11 13) + 1)).1 11 10 = S.1 11 10 := uF_ne (fun h => absurd h.2 (by decide))
      have q_20 : 0 ≤ S.1 11 11 ∧ S.1 11 11 ≤ 12 := hI.fi 11 11 9 (by decide) rfl
      have lk_21 : (uF S 11 13 ((S.1 11 13) + 1)).1 11 11 = S.1 11 11 := uF_ne (fun h => absurd h.2 (by decide))
      have q_22 : (-2147483648) ≤ S.1 11 12 ∧ S.1 11 12 ≤ 2147483647 := hI.fi 11 12 9 (by decide) rfl
      have lk_23 : (uF S 11 13 ((S.1 11 13) + 1)).1 11 12 = S.1 11 12 := uF_ne (fun h => absurd h.2 (by decide))
      refine sBi (sV (As := [.int (iv 2), .int (iv ((S.1 11 13) + 1))]) (rest := []) (k := 11) Cx (e_X9_fail l G (uF S 11 13 ((S.1 11 13) + 1)) (k := 2) (tk := (S.1 11 13) + 1) i_3 (by omega) (by omega)) (c_X9_132 Cx rfl rfl (rmk_ok (by omega) (by decide))) hW (by decide) rfl rfl rfl hl.1 rfl (Nat.le_of_ble_eq_true rfl) dX9_item_86 ⟨Nat.le_of_ble_eq_true rfl, Nat.le_of_ble_eq_true rfl⟩) hL (fun r_26 u_24 H locs k_25 hW hL => ?_)
      obtain ⟨iu_24, fu_24, xu_24⟩ := k_25
      have F_27 := F_2.trans fu_24
      refine lv_pop hx hb dX9_item_89 rfl ?_
      refine lv_iconst (v := iv 0) hx hb dX9_item_90 (by decide) ?_
      have q_28 : 0 ≤ u_24.1 11 9 ∧ u_24.1 11 9 ≤ 128 := iu_24.fi 11 9 9 (by decide) rfl
      have q_29 : 0 ≤ u_24.1 11 10 ∧ u_24.1 11 10 ≤ 8 := iu_24.fi 11 10 9 (by decide) rfl
      have q_30 : 0 ≤ u_24.1 11 11 ∧ u_24.1 11 11 ≤ 12 := iu_24.fi 11 11 9 (by decide) rfl
      have q_31 : (-2147483648) ≤ u_24.1 11 12 ∧ u_24.1 11 12 ≤ 2147483647 := iu_24.fi 11 12 9 (by decide) rfl
      have q_32 : 0 ≤ u_24.1 11 14 ∧ u_24.1 11 14 ≤ 7 := iu_24.fi 11 14 9 (by decide) rfl
      have q_33 : (-2147483648) ≤ u_24.1 11 13 ∧ u_24.1 11 13 ≤ 2147483647 := iu_24.fi 11 13 9 (by decide) rfl
      exact sIret Cx hr hlk hW hL ⟨iu_24, F_27, (by have gx := ogX_i hgx; have k0 : r_6 = kd S pz := (xu_4.1.trans (congrArg (kd S) (by omega))); have f0 : r_15 = eFind N (vd S pz) := (by rw [hN.find]; have q := xu_13.2; rw [show r_10 = vd S pz from (xu_8.1.trans (congrArg (vd S) (by omega)))] at q; exact q); have ng : ¬ (0 ≤ eFind N (vd S pz) ∧ N.2.2.1 (eFind N (vd S pz)) 0 = 2) := (by rw [← f0]; omega); refine ⟨(by omega), (by omega), (fun z => absurd z (by omega)), (fun _ => ?_)⟩; unfold eI; rw [if_neg (by omega), if_neg ng])⟩ dX9_item_91
    · refine lv_aload_n hx hb dX9_item_70 rfl (lv_at hl 1 rfl) ?_
      refine lv_iload_n hx hb dX9_item_71 rfl (lv_at hl 0 rfl) ?_
      refine lv_iconst (v := iv 0) hx hb dX9_item_72 (by decide) ?_
      refine sBi (sV (As := [.int (iv r_15), .int (iv 0)]) (rest := []) (k := 11) Cx (s_X9_fact l G (uF S 11 13 ((S.1 11 13) + 1)) (s0 := r_15) (q := 0) i_3 (by omega) (by omega)) (c_X9_120 Cx rfl rfl (rmk_ok (by omega) (by decide))) hW (by decide) rfl rfl rfl hl.1 rfl (Nat.le_of_ble_eq_true rfl) dX9_item_73 ⟨Nat.le_of_ble_eq_true rfl, Nat.le_of_ble_eq_true rfl⟩) hL (fun r_36 u_34 H locs k_35 hW hL => ?_)
      obtain ⟨eu_34, xu_34⟩ := k_35
      rw [eu_34] at hW
      have yu_34 := xu_34.2
      unfold fr8 at yu_34
      refine lv_iconst (v := iv 2) hx hb dX9_item_76 (by decide) ?_
      refine r_icmp_eq (tgt := 92) hx hb ⟨(by omega), (by omega)⟩ ⟨(by omega), (by omega)⟩ dX9_item_77 (by decide) (fun c_37 => ?_) (fun c_37 => ?_)
      · refine lv_aload_n hx hb dX9_item_92 rfl (lv_at hl 1 rfl) ?_
        refine lv_dup hx hb dX9_item_93 rfl ?_
        refine g_X9_89 Cx hW (k := 11) (by decide) rfl (v := (S.1 11 13) + 1) uF_on dX9_item_94 ?_
        refine lv_iconst (v := iv 1) hx hb dX9_item_97 (by decide) ?_
        refine r_iadd hx hb dX9_item_98 ?_
        refine p_X9_89 Cx hW hL (k := 11) (by decide) rfl dX9_item_99 (fun H locs hW hL => ?_)
        have F_38 : Fr S (uF (uF S 11 13 ((S.1 11 13) + 1)) 11 13 (((S.1 11 13) + 1) + 1)) (p1 11) := F_2.F rfl
        have i_39 : cX G (uF (uF S 11 13 ((S.1 11 13) + 1)) 11 13 (((S.1 11 13) + 1) + 1)) 0 0 0 := i_3.F rfl rfl (show (-2147483648) ≤ ((S.1 11 13) + 1) + 1 ∧ ((S.1 11 13) + 1) + 1 ≤ 2147483647 from ⟨by omega, by omega⟩)
        refine lv_aload_n hx hb dX9_item_102 rfl (lv_at hl 1 rfl) ?_
        refine g_X9_14 Cx hW (k := 11) (by decide) rfl (v := .ref (G.2.2.1 + 12)) (rf_11_0 i_39) dX9_item_103 ?_
        refine lv_aload_n hx hb dX9_item_106 rfl (lv_at hl 1 rfl) ?_
        refine g_X9_89 Cx hW (k := 11) (by decide) rfl (v := ((S.1 11 13) + 1) + 1) uF_on dX9_item_107 ?_
        refine sBi (sV (As := [.int (iv (((S.1 11 13) + 1) + 1))]) (rest := []) (k := 12) Cx (s_X8_kind l G (uF (uF S 11 13 ((S.1 11 13) + 1)) 11 13 (((S.1 11 13) + 1) + 1)) (k := ((S.1 11 13) + 1) + 1) i_39 (by omega)) (c_X9_95 Cx rfl rfl (rmk_ok (by omega) (by decide))) hW (by decide) rfl rfl rfl hl.1 rfl (Nat.le_of_ble_eq_true rfl) dX9_item_110 ⟨Nat.le_of_ble_eq_true rfl, Nat.le_of_ble_eq_true rfl⟩) hL (fun r_42 u_40 H locs k_41 hW hL => ?_)
        obtain ⟨eu_40, xu_40⟩ := k_41
        rw [eu_40] at hW
        refine lv_istore_n (lv' := [(2, .int (iv r_42)), (1, .int (iv r_15)), (0, .ref (G.2.2.1 + 11))]) hx hb dX9_item_113 rfl hl (by decide) rfl (fun ls hl => ?_)
        refine lv_iload_n hx hb dX9_item_114 rfl (lv_at hl 0 rfl) ?_
        refine lv_bipush (v := iv 21) hx hb dX9_item_115 (by decide) ?_
        refine r_icmp_eq (tgt := 133) hx hb ⟨(by omega), (by omega)⟩ ⟨(by omega), (by omega)⟩ dX9_item_117 (by decide) (fun c_43 => ?_) (fun c_43 => ?_)
        · refine lv_aload_n hx hb dX9_item_133 rfl (lv_at hl 2 rfl) ?_
          refine lv_dup hx hb dX9_item_134 rfl ?_
          refine g_X9_89 Cx hW (k := 11) (by decide) rfl (v := ((S.1 11 13) + 1) + 1) uF_on dX9_item_135 ?_
          refine lv_iconst (v := iv 2) hx hb dX9_item_138 (by decide) ?_
          refine r_iadd hx hb dX9_item_139 ?_
          refine p_X9_89 Cx hW hL (k := 11) (by decide) rfl dX9_item_140 (fun H locs hW hL => ?_)
          have F_44 : Fr S (uF (uF (uF S 11 13 ((S.1 11 13) + 1)) 11 13 (((S.1 11 13) + 1) + 1)) 11 13 ((((S.1 11 13) + 1) + 1) + 2)) (p1 11) := F_38.F rfl
          have i_45 : cX G (uF (uF (uF S 11 13 ((S.1 11 13) + 1)) 11 13 (((S.1 11 13) + 1) + 1)) 11 13 ((((S.1 11 13) + 1) + 1) + 2)) 0 0 0 := i_39.F rfl rfl (show (-2147483648) ≤ (((S.1 11 13) + 1) + 1) + 2 ∧ (((S.1 11 13) + 1) + 1) + 2 ≤ 2147483647 from ⟨by omega, by omega⟩)
          refine lv_aload_n hx hb dX9_item_143 rfl (lv_at hl 2 rfl) ?_
          refine g_X9_14 Cx hW (k := 11) (by decide) rfl (v := .ref (G.2.2.1 + 12)) (rf_11_0 i_45) dX9_item_144 ?_
          refine lv_aload_n hx hb dX9_item_147 rfl (lv_at hl 2 rfl) ?_
          refine g_X9_89 Cx hW (k := 11) (by decide) rfl (v := (((S.1 11 13) + 1) + 1) + 2) uF_on dX9_item_148 ?_
          refine lv_iconst (v := iv 1) hx hb dX9_item_151 (by decide) ?_
          refine r_isub hx hb dX9_item_152 ?_
          refine sBl (sV (As := [.int (iv (((((S.1 11 13) + 1) + 1) + 2) - 1))]) (rest := []) (k := 12) Cx (s_X8_value l G (uF (uF (uF S 11 13 ((S.1 11 13) + 1)) 11 13 (((S.1 11 13) + 1) + 1)) 11 13 ((((S.1 11 13) + 1) + 1) + 2)) (k := ((((S.1 11 13) + 1) + 1) + 2) - 1) i_45 (by omega)) (c_X9_124 Cx rfl rfl (rmk_ok (by omega) (by decide))) hW (by decide) rfl rfl rfl hl.1 rfl (Nat.le_of_ble_eq_true rfl) dX9_item_153 ⟨Nat.le_of_ble_eq_true rfl, Nat.le_of_ble_eq_true rfl⟩) hL (fun r_48 u_46 H locs k_47 hW hL => ?_)
          obtain ⟨eu_46, xu_46⟩ := k_47
          rw [eu_46] at hW
          refine r_l2i hx hb dX9_item_156 ?_
          refine lv_istore_n (lv' := [(3, .int (iv r_48)), (2, .int (iv r_42)), (1, .int (iv r_15)), (0, .ref (G.2.2.1 + 11))]) hx hb dX9_item_157 rfl hl (by decide) rfl (fun ls hl => ?_)
          refine lv_aload_n hx hb dX9_item_158 rfl (lv_at hl 3 rfl) ?_
          refine lv_iload_n hx hb dX9_item_159 rfl (lv_at hl 2 rfl) ?_
          refine lv_iconst (v := iv 1) hx hb dX9_item_160 (by decide) ?_
          refine sBi (sV (As := [.int (iv r_15), .int (iv 1)]) (rest := []) (k := 11) Cx (s_X9_fact l G (uF (uF (uF S 11 13 ((S.1 11 13) + 1)) 11 13 (((S.1 11 13) + 1) + 1)) 11 13 ((((S.1 11 13) + 1) + 1) + 2)) (s0 := r_15) (q := 1) i_45 (by omega) (by omega)) (c_X9_120 Cx rfl rfl (rmk_ok (by omega) (by decide))) hW (by decide) rfl rfl rfl hl.1 rfl (Nat.le_of_ble_eq_true rfl) dX9_item_161 ⟨Nat.le_of_ble_eq_true rfl, Nat.le_of_ble_eq_true rfl⟩) hL (fun r_51 u_49 H locs k_50 hW hL => ?_)
          obtain ⟨eu_49, xu_49⟩ := k_50
          rw [eu_49] at hW
          have yu_49 := xu_49.2
          unfold fr8 at yu_49
          refine lv_iload_n hx hb dX9_item_164 rfl (lv_at hl 1 rfl) ?_
          refine lv_bipush (v := iv 21) hx hb dX9_item_165 (by decide) ?_
          refine r_icmp_ne (tgt := 174) hx hb ⟨(by omega), (by omega)⟩ ⟨(by omega), (by omega)⟩ dX9_item_167 (by decide) (fun c_52 => ?_) (fun c_52 => ?_)
          · refine lv_iload_n hx hb dX9_item_174 rfl (lv_at hl 0 rfl) ?_
            refine r_ineg hx hb dX9_item_175 ?_
            refine r_iadd hx hb dX9_item_176 ?_
            have lk_53 : (uF (uF (uF S 11 13 ((S.1 11 13) + 1)) 11 13 (((S.1 11 13) + 1) + 1)) 11 13 ((((S.1 11 13) + 1) + 1) + 2)).1 11 9 = S.1 11 9 := (uF_ne (fun h => absurd h.2 (by decide))).trans ((uF_ne (fun h => absurd h.2 (by decide))).trans (uF_ne (fun h => absurd h.2 (by decide))))
            have q_54 : 0 ≤ S.1 11 10 ∧ S.1 11 10 ≤ 8 := hI.fi 11 10 9 (by decide) rfl
            have lk_55 : (uF (uF (uF S 11 13 ((S.1 11 13) + 1)) 11 13 (((S.1 11 13) + 1) + 1)) 11 13 ((((S.1 11 13) + 1) + 1) + 2)).1 11 10 = S.1 11 10 := (uF_ne (fun h => absurd h.2 (by decide))).trans ((uF_ne (fun h => absurd h.2 (by decide))).trans (uF_ne (fun h => absurd h.2 (by decide))))
            have q_56 : 0 ≤ S.1 11 11 ∧ S.1 11 11 ≤ 12 := hI.fi 11 11 9 (by decide) rfl
            have lk_57 : (uF (uF (uF S 11 13 ((S.1 11 13) + 1)) 11 13 (((S.1 11 13) + 1) + 1)) 11 13 ((((S.1 11 13) + 1) + 1) + 2)).1 11 11 = S.1 11 11 := (uF_ne (fun h => absurd h.2 (by decide))).trans ((uF_ne (fun h => absurd h.2 (by decide))).trans (uF_ne (fun h => absurd h.2 (by decide))))
            have q_58 : (-2147483648) ≤ S.1 11 12 ∧ S.1 11 12 ≤ 2147483647 := hI.fi 11 12 9 (by decide) rfl
            have lk_59 : (uF (uF (uF S 11 13 ((S.1 11 13) + 1)) 11 13 (((S.1 11 13) + 1) + 1)) 11 13 ((((S.1 11 13) + 1) + 1) + 2)).1 11 12 = S.1 11 12 := (uF_ne (fun h => absurd h.2 (by decide))).trans ((uF_ne (fun h => absurd h.2 (by decide))).trans (uF_ne (fun h => absurd h.2 (by decide))))
            have q_60 : 0 ≤ S.1 11 14 ∧ S.1 11 14 ≤ 7 := hI.fi 11 14 9 (by decide) rfl
            have lk_61 : (uF (uF (uF S 11 13 ((S.1 11 13) + 1)) 11 13 (((S.1 11 13) + 1) + 1)) 11 13 ((((S.1 11 13) + 1) + 1) + 2)).1 11 14 = S.1 11 14 := (uF_ne (fun h => absurd h.2 (by decide))).trans ((uF_ne (fun h => absurd h.2 (by decide))).trans (uF_ne (fun h => absurd h.2 (by decide))))
            have lk_62 : (uF (uF (uF S 11 13 ((S.1 11 13) + 1)) 11 13 (((S.1 11 13) + 1) + 1)) 11 13 ((((S.1 11 13) + 1) + 1) + 2)).1 11 13 = (((S.1 11 13) + 1) + 1) + 2 := uF_on
            exact sIret Cx hr hlk hW hL ⟨i_45, F_44, (by have gx := ogX_i hgx; have k0 : r_6 = kd S pz := (xu_4.1.trans (congrArg (kd S) (by omega))); have f0 : r_15 = eFind N (vd S pz) := (by rw [hN.find]; have q := xu_13.2; rw [show r_10 = vd S pz from (xu_8.1.trans (congrArg (vd S) (by omega)))] at q; exact q); have c0 : r_36 = fc S r_15 0 := xu_34.1; have n0 := hN.2.2 r_15 (by omega) (by have q := hN.1.1; have q2 := xu_13.1; omega); have ps : 0 ≤ eFind N (vd S pz) ∧ N.2.2.1 (eFind N (vd S pz)) 0 = 2 := (by rw [← f0]; omega); have kb := (hK.2 _ ps.1 (by have q := hN.1; have q2 := xu_13.1; rw [← f0]; omega)).1 ps.2; rw [← f0] at kb; have k1 : r_42 = kd S (pz + 1) := (xu_40.1.trans (congrArg (kd S) (by omega))); have l0 : r_51 = N.2.2.1 r_15 1 := (xu_49.1.trans (n0.2.2.1 (by omega)).symm); have v2 : r_48 = vd S (pz + 1 + 1) := (xu_46.1.trans (congrArg (vd S) (by omega))); have gy : kd S (pz + 1 + 1) = 3 ∧ q = pz + 1 + 1 + 1 := (by rcases gx with gx | gx; (exfalso; omega); (rcases gx.2 with gy | gy; (exact gy.2); (exfalso; omega))); have tv := hTV _ gy.1; refine ⟨(by omega), (by omega), (fun _ => ⟨?_, (by omega)⟩), (fun z => absurd (by omega) z)⟩; unfold eI; rw [if_neg (by omega), if_pos ps, ← f0, ← l0, ← v2, gy.2]; first | (exfalso; omega) | (rw [if_pos (by omega)]) | (rw [if_neg (by omega), if_pos (by omega)]; exact congrArg some (Prod.ext (by show _ = _; omega) rfl)))⟩ dX9_item_177
          · refine lv_iload_n hx hb dX9_item_170 rfl (lv_at hl 0 rfl) ?_
            refine lv_goto (tgt := 176) hx hb dX9_item_171 (by decide) ?_
            refine r_iadd hx hb dX9_item_176 ?_
            have lk_63 : (uF (uF (uF S 11 13 ((S.1 11 13) + 1)) 11 13 (((S.1 11 13) + 1) + 1)) 11 13 ((((S.1 11 13) + 1) + 1) + 2)).1 11 9 = S.1 11 9 := (uF_ne (fun h => absurd h.2 (by decide))).trans ((uF_ne (fun h => absurd h.2 (by decide))).trans (uF_ne (fun h => absurd h.2 (by decide))))
            have q_64 : 0 ≤ S.1 11 10 ∧ S.1 11 10 ≤ 8 := hI.fi 11 10 9 (by decide) rfl
            have lk_65 : (uF (uF (uF S 11 13 ((S.1 11 13) + 1)) 11 13 (((S.1 11 13) + 1) + 1)) 11 13 ((((S.1 11 13) + 1) + 1) + 2)).1 11 10 = S.1 11 10 := (uF_ne (fun h => absurd h.2 (by decide))).trans ((uF_ne (fun h => absurd h.2 (by decide))).trans (uF_ne (fun h => absurd h.2 (by decide))))
            have q_66 : 0 ≤ S.1 11 11 ∧ S.1 11 11 ≤ 12 := hI.fi 11 11 9 (by decide) rfl
            have lk_67 : (uF (uF (uF S 11 13 ((S.1 11 13) + 1)) 11 13 (((S.1 11 13) + 1) + 1)) 11 13 ((((S.1 11 13) + 1) + 1) + 2)).1 11 11 = S.1 11 11 := (uF_ne (fun h => absurd h.2 (by decide))).trans ((uF_ne (fun h => absurd h.2 (by decide))).trans (uF_ne (fun h => absurd h.2 (by decide))))
            have q_68 : (-2147483648) ≤ S.1 11 12 ∧ S.1 11 12 ≤ 2147483647 := hI.fi 11 12 9 (by decide) rfl
            have lk_69 : (uF (uF (uF S 11 13 ((S.1 11 13) + 1)) 11 13 (((S.1 11 13) + 1) + 1)) 11 13 ((((S.1 11 13) + 1) + 1) + 2)).1 11 12 = S.1 11 12 := (uF_ne (fun h => absurd h.2 (by decide))).trans ((uF_ne (fun h => absurd h.2 (by decide))).trans (uF_ne (fun h => absurd h.2 (by decide))))
            have q_70 : 0 ≤ S.1 11 14 ∧ S.1 11 14 ≤ 7 := hI.fi 11 14 9 (by decide) rfl
            have lk_71 : (uF (uF (uF S 11 13 ((S.1 11 13) + 1)) 11 13 (((S.1 11 13) + 1) + 1)) 11 13 ((((S.1 11 13) + 1) + 1) + 2)).1 11 14 = S.1 11 14 := (uF_ne (fun h => absurd h.2 (by decide))).trans ((uF_ne (fun h => absurd h.2 (by decide))).trans (uF_ne (fun h => absurd h.2 (by decide))))
            have lk_72 : (uF (uF (uF S 11 13 ((S.1 11 13) + 1)) 11 13 (((S.1 11 13) + 1) + 1)) 11 13 ((((S.1 11 13) + 1) + 1) + 2)).1 11 13 = (((S.1 11 13) + 1) + 1) + 2 := uF_on
            exact sIret Cx hr hlk hW hL ⟨i_45, F_44, (by have gx := ogX_i hgx; have k0 : r_6 = kd S pz := (xu_4.1.trans (congrArg (kd S) (by omega))); have f0 : r_15 = eFind N (vd S pz) := (by rw [hN.find]; have q := xu_13.2; rw [show r_10 = vd S pz from (xu_8.1.trans (congrArg (vd S) (by omega)))] at q; exact q); have c0 : r_36 = fc S r_15 0 := xu_34.1; have n0 := hN.2.2 r_15 (by omega) (by have q := hN.1.1; have q2 := xu_13.1; omega); have ps : 0 ≤ eFind N (vd S pz) ∧ N.2.2.1 (eFind N (vd S pz)) 0 = 2 := (by rw [← f0]; omega); have kb := (hK.2 _ ps.1 (by have q := hN.1; have q2 := xu_13.1; rw [← f0]; omega)).1 ps.2; rw [← f0] at kb; have k1 : r_42 = kd S (pz + 1) := (xu_40.1.trans (congrArg (kd S) (by omega))); have l0 : r_51 = N.2.2.1 r_15 1 := (xu_49.1.trans (n0.2.2.1 (by omega)).symm); have v2 : r_48 = vd S (pz + 1 + 1) := (xu_46.1.trans (congrArg (vd S) (by omega))); have gy : kd S (pz + 1 + 1) = 3 ∧ q = pz + 1 + 1 + 1 := (by rcases gx with gx | gx; (exfalso; omega); (rcases gx.2 with gy | gy; (exact gy.2); (exfalso; omega))); have tv := hTV _ gy.1; refine ⟨(by omega), (by omega), (fun _ => ⟨?_, (by omega)⟩), (fun z => absurd (by omega) z)⟩; unfold eI; rw [if_neg (by omega), if_pos ps, ← f0, ← l0, ← v2, gy.2]; first | (exfalso; omega) | (rw [if_pos (by omega)]) | (rw [if_neg (by omega), if_pos (by omega)]; exact congrArg some (Prod.ext (by show _ = _; omega) rfl)))⟩ dX9_item_177
        · refine lv_iload_n hx hb dX9_item_120 rfl (lv_at hl 0 rfl) ?_
          refine lv_bipush (v := iv 22) hx hb dX9_item_121 (by decide) ?_
          refine r_icmp_eq (tgt := 133) hx hb ⟨(by omega), (by omega)⟩ ⟨(by omega), (by omega)⟩ dX9_item_123 (by decide) (fun c_73 => ?_) (fun c_73 => ?_)
          · refine lv_aload_n hx hb dX9_item_133 rfl (lv_at hl 2 rfl) ?_
            refine lv_dup hx hb dX9_item_134 rfl ?_
            refine g_X9_89 Cx hW (k := 11) (by decide) rfl (v := ((S.1 11 13) + 1) + 1) uF_on dX9_item_135 ?_
            refine lv_iconst (v := iv 2) hx hb dX9_item_138 (by decide) ?_
            refine r_iadd hx hb dX9_item_139 ?_
            refine p_X9_89 Cx hW hL (k := 11) (by decide) rfl dX9_item_140 (fun H locs hW hL => ?_)
            have F_74 : Fr S (uF (uF (uF S 11 13 ((S.1 11 13) + 1)) 11 13 (((S.1 11 13) + 1) + 1)) 11 13 ((((S.1 11 13) + 1) + 1) + 2)) (p1 11) := F_38.F rfl
            have i_75 : cX G (uF (uF (uF S 11 13 ((S.1 11 13) + 1)) 11 13 (((S.1 11 13) + 1) + 1)) 11 13 ((((S.1 11 13) + 1) + 1) + 2)) 0 0 0 := i_39.F rfl rfl (show (-2147483648) ≤ (((S.1 11 13) + 1) + 1) + 2 ∧ (((S.1 11 13) + 1) + 1) + 2 ≤ 2147483647 from ⟨by omega, by omega⟩)
            refine lv_aload_n hx hb dX9_item_143 rfl (lv_at hl 2 rfl) ?_
            refine g_X9_14 Cx hW (k := 11) (by decide) rfl (v := .ref (G.2.2.1 + 12)) (rf_11_0 i_75) dX9_item_144 ?_
            refine lv_aload_n hx hb dX9_item_147 rfl (lv_at hl 2 rfl) ?_
            refine g_X9_89 Cx hW (k := 11) (by decide) rfl (v := (((S.1 11 13) + 1) + 1) + 2) uF_on dX9_item_148 ?_
            refine lv_iconst (v := iv 1) hx hb dX9_item_151 (by decide) ?_
            refine r_isub hx hb dX9_item_152 ?_
            refine sBl (sV (As := [.int (iv (((((S.1 11 13) + 1) + 1) + 2) - 1))]) (rest := []) (k := 12) Cx (s_X8_value l G (uF (uF (uF S 11 13 ((S.1 11 13) + 1)) 11 13 (((S.1 11 13) + 1) + 1)) 11 13 ((((S.1 11 13) + 1) + 1) + 2)) (k := ((((S.1 11 13) + 1) + 1) + 2) - 1) i_75 (by omega)) (c_X9_124 Cx rfl rfl (rmk_ok (by omega) (by decide))) hW (by decide) rfl rfl rfl hl.1 rfl (Nat.le_of_ble_eq_true rfl) dX9_item_153 ⟨Nat.le_of_ble_eq_true rfl, Nat.le_of_ble_eq_true rfl⟩) hL (fun r_78 u_76 H locs k_77 hW hL => ?_)
            obtain ⟨eu_76, xu_76⟩ := k_77
            rw [eu_76] at hW
            refine r_l2i hx hb dX9_item_156 ?_
            refine lv_istore_n (lv' := [(3, .int (iv r_78)), (2, .int (iv r_42)), (1, .int (iv r_15)), (0, .ref (G.2.2.1 + 11))]) hx hb dX9_item_157 rfl hl (by decide) rfl (fun ls hl => ?_)
            refine lv_aload_n hx hb dX9_item_158 rfl (lv_at hl 3 rfl) ?_
            refine lv_iload_n hx hb dX9_item_159 rfl (lv_at hl 2 rfl) ?_
            refine lv_iconst (v := iv 1) hx hb dX9_item_160 (by decide) ?_
            refine sBi (sV (As := [.int (iv r_15), .int (iv 1)]) (rest := []) (k := 11) Cx (s_X9_fact l G (uF (uF (uF S 11 13 ((S.1 11 13) + 1)) 11 13 (((S.1 11 13) + 1) + 1)) 11 13 ((((S.1 11 13) + 1) + 1) + 2)) (s0 := r_15) (q := 1) i_75 (by omega) (by omega)) (c_X9_120 Cx rfl rfl (rmk_ok (by omega) (by decide))) hW (by decide) rfl rfl rfl hl.1 rfl (Nat.le_of_ble_eq_true rfl) dX9_item_161 ⟨Nat.le_of_ble_eq_true rfl, Nat.le_of_ble_eq_true rfl⟩) hL (fun r_81 u_79 H locs k_80 hW hL => ?_)
            obtain ⟨eu_79, xu_79⟩ := k_80
            rw [eu_79] at hW
            have yu_79 := xu_79.2
            unfold fr8 at yu_79
            refine lv_iload_n hx hb dX9_item_164 rfl (lv_at hl 1 rfl) ?_
            refine lv_bipush (v := iv 21) hx hb dX9_item_165 (by decide) ?_
            refine r_icmp_ne (tgt := 174) hx hb ⟨(by omega), (by omega)⟩ ⟨(by omega), (by omega)⟩ dX9_item_167 (by decide) (fun c_82 => ?_) (fun c_82 => ?_)
            · refine lv_iload_n hx hb dX9_item_174 rfl (lv_at hl 0 rfl) ?_
              refine r_ineg hx hb dX9_item_175 ?_
              refine r_iadd hx hb dX9_item_176 ?_
              have lk_83 : (uF (uF (uF S 11 13 ((S.1 11 13) + 1)) 11 13 (((S.1 11 13) + 1) + 1)) 11 13 ((((S.1 11 13) + 1) + 1) + 2)).1 11 9 = S.1 11 9 := (uF_ne (fun h => absurd h.2 (by decide))).trans ((uF_ne (fun h => absurd h.2 (by decide))).trans (uF_ne (fun h => absurd h.2 (by decide))))
              have q_84 : 0 ≤ S.1 11 10 ∧ S.1 11 10 ≤ 8 := hI.fi 11 10 9 (by decide) rfl
              have lk_85 : (uF (uF (uF S 11 13 ((S.1 11 13) + 1)) 11 13 (((S.1 11 13) + 1) + 1)) 11 13 ((((S.1 11 13) + 1) + 1) + 2)).1 11 10 = S.1 11 10 := (uF_ne (fun h => absurd h.2 (by decide))).trans ((uF_ne (fun h => absurd h.2 (by decide))).trans (uF_ne (fun h => absurd h.2 (by decide))))
              have q_86 : 0 ≤ S.1 11 11 ∧ S.1 11 11 ≤ 12 := hI.fi 11 11 9 (by decide) rfl
              have lk_87 : (uF (uF (uF S 11 13 ((S.1 11 13) + 1)) 11 13 (((S.1 11 13) + 1) + 1)) 11 13 ((((S.1 11 13) + 1) + 1) + 2)).1 11 11 = S.1 11 11 := (uF_ne (fun h => absurd h.2 (by decide))).trans ((uF_ne (fun h => absurd h.2 (by decide))).trans (uF_ne (fun h => absurd h.2 (by decide))))
              have q_88 : (-2147483648) ≤ S.1 11 12 ∧ S.1 11 12 ≤ 2147483647 := hI.fi 11 12 9 (by decide) rfl
              have lk_89 : (uF (uF (uF S 11 13 ((S.1 11 13) + 1)) 11 13 (((S.1 11 13) + 1) + 1)) 11 13 ((((S.1 11 13) + 1) + 1) + 2)).1 11 12 = S.1 11 12 := (uF_ne (fun h => absurd h.2 (by decide))).trans ((uF_ne (fun h => absurd h.2 (by decide))).trans (uF_ne (fun h => absurd h.2 (by decide))))
              have q_90 : 0 ≤ S.1 11 14 ∧ S.1 11 14 ≤ 7 := hI.fi 11 14 9 (by decide) rfl
              have lk_91 : (uF (uF (uF S 11 13 ((S.1 11 13) + 1)) 11 13 (((S.1 11 13) + 1) + 1)) 11 13 ((((S.1 11 13) + 1) + 1) + 2)).1 11 14 = S.1 11 14 := (uF_ne (fun h => absurd h.2 (by decide))).trans ((uF_ne (fun h => absurd h.2 (by decide))).trans (uF_ne (fun h => absurd h.2 (by decide))))
              have lk_92 : (uF (uF (uF S 11 13 ((S.1 11 13) + 1)) 11 13 (((S.1 11 13) + 1) + 1)) 11 13 ((((S.1 11 13) + 1) + 1) + 2)).1 11 13 = (((S.1 11 13) + 1) + 1) + 2 := uF_on
              exact sIret Cx hr hlk hW hL ⟨i_75, F_74, (by have gx := ogX_i hgx; have k0 : r_6 = kd S pz := (xu_4.1.trans (congrArg (kd S) (by omega))); have f0 : r_15 = eFind N (vd S pz) := (by rw [hN.find]; have q := xu_13.2; rw [show r_10 = vd S pz from (xu_8.1.trans (congrArg (vd S) (by omega)))] at q; exact q); have c0 : r_36 = fc S r_15 0 := xu_34.1; have n0 := hN.2.2 r_15 (by omega) (by have q := hN.1.1; have q2 := xu_13.1; omega); have ps : 0 ≤ eFind N (vd S pz) ∧ N.2.2.1 (eFind N (vd S pz)) 0 = 2 := (by rw [← f0]; omega); have kb := (hK.2 _ ps.1 (by have q := hN.1; have q2 := xu_13.1; rw [← f0]; omega)).1 ps.2; rw [← f0] at kb; have k1 : r_42 = kd S (pz + 1) := (xu_40.1.trans (congrArg (kd S) (by omega))); have l0 : r_81 = N.2.2.1 r_15 1 := (xu_79.1.trans (n0.2.2.1 (by omega)).symm); have v2 : r_78 = vd S (pz + 1 + 1) := (xu_76.1.trans (congrArg (vd S) (by omega))); have gy : kd S (pz + 1 + 1) = 3 ∧ q = pz + 1 + 1 + 1 := (by rcases gx with gx | gx; (exfalso; omega); (rcases gx.2 with gy | gy; (exact gy.2); (exfalso; omega))); have tv := hTV _ gy.1; refine ⟨(by omega), (by omega), (fun _ => ⟨?_, (by omega)⟩), (fun z => absurd (by omega) z)⟩; unfold eI; rw [if_neg (by omega), if_pos ps, ← f0, ← l0, ← v2, gy.2]; first | (exfalso; omega) | (rw [if_pos (by omega)]) | (rw [if_neg (by omega), if_pos (by omega)]; exact congrArg some (Prod.ext (by show _ = _; omega) rfl)))⟩ dX9_item_177
            · refine lv_iload_n hx hb dX9_item_170 rfl (lv_at hl 0 rfl) ?_
              refine lv_goto (tgt := 176) hx hb dX9_item_171 (by decide) ?_
              refine r_iadd hx hb dX9_item_176 ?_
              have lk_93 : (uF (uF (uF S 11 13 ((S.1 11 13) + 1)) 11 13 (((S.1 11 13) + 1) + 1)) 11 13 ((((S.1 11 13) + 1) + 1) + 2)).1 11 9 = S.1 11 9 := (uF_ne (fun h => absurd h.2 (by decide))).trans ((uF_ne (fun h => absurd h.2 (by decide))).trans (uF_ne (fun h => absurd h.2 (by decide))))
              have q_94 : 0 ≤ S.1 11 10 ∧ S.1 11 10 ≤ 8 := hI.fi 11 10 9 (by decide) rfl
              have lk_95 : (uF (uF (uF S 11 13 ((S.1 11 13) + 1)) 11 13 (((S.1 11 13) + 1) + 1)) 11 13 ((((S.1 11 13) + 1) + 1) + 2)).1 11 10 = S.1 11 10 := (uF_ne (fun h => absurd h.2 (by decide))).trans ((uF_ne (fun h => absurd h.2 (by decide))).trans (uF_ne (fun h => absurd h.2 (by decide))))
              have q_96 : 0 ≤ S.1 11 11 ∧ S.1 11 11 ≤ 12 := hI.fi 11 11 9 (by decide) rfl
              have lk_97 : (uF (uF (uF S 11 13 ((S.1 11 13) + 1)) 11 13 (((S.1 11 13) + 1) + 1)) 11 13 ((((S.1 11 13) + 1) + 1) + 2)).1 11 11 = S.1 11 11 := (uF_ne (fun h => absurd h.2 (by decide))).trans ((uF_ne (fun h => absurd h.2 (by decide))).trans (uF_ne (fun h => absurd h.2 (by decide))))
              have q_98 : (-2147483648) ≤ S.1 11 12 ∧ S.1 11 12 ≤ 2147483647 := hI.fi 11 12 9 (by decide) rfl
              have lk_99 : (uF (uF (uF S 11 13 ((S.1 11 13) + 1)) 11 13 (((S.1 11 13) + 1) + 1)) 11 13 ((((S.1 11 13) + 1) + 1) + 2)).1 11 12 = S.1 11 12 := (uF_ne (fun h => absurd h.2 (by decide))).trans ((uF_ne (fun h => absurd h.2 (by decide))).trans (uF_ne (fun h => absurd h.2 (by decide))))
              have q_100 : 0 ≤ S.1 11 14 ∧ S.1 11 14 ≤ 7 := hI.fi 11 14 9 (by decide) rfl
              have lk_101 : (uF (uF (uF S 11 13 ((S.1 11 13) + 1)) 11 13 (((S.1 11 13) + 1) + 1)) 11 13 ((((S.1 11 13) + 1) + 1) + 2)).1 11 14 = S.1 11 14 := (uF_ne (fun h => absurd h.2 (by decide))).trans ((uF_ne (fun h => absurd h.2 (by decide))).trans (uF_ne (fun h => absurd h.2 (by decide))))
              have lk_102 : (uF (uF (uF S 11 13 ((S.1 11 13) + 1)) 11 13 (((S.1 11 13) + 1) + 1)) 11 13 ((((S.1 11 13) + 1) + 1) + 2)).1 11 13 = (((S.1 11 13) + 1) + 1) + 2 := uF_on
              exact sIret Cx hr hlk hW hL ⟨i_75, F_74, (by have gx := ogX_i hgx; have k0 : r_6 = kd S pz := (xu_4.1.trans (congrArg (kd S) (by omega))); have f0 : r_15 = eFind N (vd S pz) := (by rw [hN.find]; have q := xu_13.2; rw [show r_10 = vd S pz from (xu_8.1.trans (congrArg (vd S) (by omega)))] at q; exact q); have c0 : r_36 = fc S r_15 0 := xu_34.1; have n0 := hN.2.2 r_15 (by omega) (by have q := hN.1.1; have q2 := xu_13.1; omega); have ps : 0 ≤ eFind N (vd S pz) ∧ N.2.2.1 (eFind N (vd S pz)) 0 = 2 := (by rw [← f0]; omega); have kb := (hK.2 _ ps.1 (by have q := hN.1; have q2 := xu_13.1; rw [← f0]; omega)).1 ps.2; rw [← f0] at kb; have k1 : r_42 = kd S (pz + 1) := (xu_40.1.trans (congrArg (kd S) (by omega))); have l0 : r_81 = N.2.2.1 r_15 1 := (xu_79.1.trans (n0.2.2.1 (by omega)).symm); have v2 : r_78 = vd S (pz + 1 + 1) := (xu_76.1.trans (congrArg (vd S) (by omega))); have gy : kd S (pz + 1 + 1) = 3 ∧ q = pz + 1 + 1 + 1 := (by rcases gx with gx | gx; (exfalso; omega); (rcases gx.2 with gy | gy; (exact gy.2); (exfalso; omega))); have tv := hTV _ gy.1; refine ⟨(by omega), (by omega), (fun _ => ⟨?_, (by omega)⟩), (fun z => absurd (by omega) z)⟩; unfold eI; rw [if_neg (by omega), if_pos ps, ← f0, ← l0, ← v2, gy.2]; first | (exfalso; omega) | (rw [if_pos (by omega)]) | (rw [if_neg (by omega), if_pos (by omega)]; exact congrArg some (Prod.ext (by show _ = _; omega) rfl)))⟩ dX9_item_177
          · refine lv_aload_n hx hb dX9_item_126 rfl (lv_at hl 2 rfl) ?_
            refine lv_iload_n hx hb dX9_item_127 rfl (lv_at hl 1 rfl) ?_
            refine lv_iconst (v := iv 1) hx hb dX9_item_128 (by decide) ?_
            refine sBi (sV (As := [.int (iv r_15), .int (iv 1)]) (rest := []) (k := 11) Cx (s_X9_fact l G (uF (uF S 11 13 ((S.1 11 13) + 1)) 11 13 (((S.1 11 13) + 1) + 1)) (s0 := r_15) (q := 1) i_39 (by omega) (by omega)) (c_X9_120 Cx rfl rfl (rmk_ok (by omega) (by decide))) hW (by decide) rfl rfl rfl hl.1 rfl (Nat.le_of_ble_eq_true rfl) dX9_item_129 ⟨Nat.le_of_ble_eq_true rfl, Nat.le_of_ble_eq_true rfl⟩) hL (fun r_105 u_103 H locs k_104 hW hL => ?_)
            obtain ⟨eu_103, xu_103⟩ := k_104
            rw [eu_103] at hW
            have yu_103 := xu_103.2
            unfold fr8 at yu_103
            have lk_106 : (uF (uF S 11 13 ((S.1 11 13) + 1)) 11 13 (((S.1 11 13) + 1) + 1)).1 11 9 = S.1 11 9 := (uF_ne (fun h => absurd h.2 (by decide))).trans (uF_ne (fun h => absurd h.2 (by decide)))
            have q_107 : 0 ≤ S.1 11 10 ∧ S.1 11 10 ≤ 8 := hI.fi 11 10 9 (by decide) rfl
            have lk_108 : (uF (uF S 11 13 ((S.1 11 13) + 1)) 11 13 (((S.1 11 13) + 1) + 1)).1 11 10 = S.1 11 10 := (uF_ne (fun h => absurd h.2 (by decide))).trans (uF_ne (fun h => absurd h.2 (by decide)))
            have q_109 : 0 ≤ S.1 11 11 ∧ S.1 11 11 ≤ 12 := hI.fi 11 11 9 (by decide) rfl
            have lk_110 : (uF (uF S 11 13 ((S.1 11 13) + 1)) 11 13 (((S.1 11 13) + 1) + 1)).1 11 11 = S.1 11 11 := (uF_ne (fun h => absurd h.2 (by decide))).trans (uF_ne (fun h => absurd h.2 (by decide)))
            have q_111 : (-2147483648) ≤ S.1 11 12 ∧ S.1 11 12 ≤ 2147483647 := hI.fi 11 12 9 (by decide) rfl
            have lk_112 : (uF (uF S 11 13 ((S.1 11 13) + 1)) 11 13 (((S.1 11 13) + 1) + 1)).1 11 12 = S.1 11 12 := (uF_ne (fun h => absurd h.2 (by decide))).trans (uF_ne (fun h => absurd h.2 (by decide)))
            have q_113 : 0 ≤ S.1 11 14 ∧ S.1 11 14 ≤ 7 := hI.fi 11 14 9 (by decide) rfl
            have lk_114 : (uF (uF S 11 13 ((S.1 11 13) + 1)) 11 13 (((S.1 11 13) + 1) + 1)).1 11 14 = S.1 11 14 := (uF_ne (fun h => absurd h.2 (by decide))).trans (uF_ne (fun h => absurd h.2 (by decide)))
            have lk_115 : (uF (uF S 11 13 ((S.1 11 13) + 1)) 11 13 (((S.1 11 13) + 1) + 1)).1 11 13 = ((S.1 11 13) + 1) + 1 := uF_on
            exact sIret Cx hr hlk hW hL ⟨i_39, F_38, (by have gx := ogX_i hgx; have k0 : r_6 = kd S pz := (xu_4.1.trans (congrArg (kd S) (by omega))); have f0 : r_15 = eFind N (vd S pz) := (by rw [hN.find]; have q := xu_13.2; rw [show r_10 = vd S pz from (xu_8.1.trans (congrArg (vd S) (by omega)))] at q; exact q); have c0 : r_36 = fc S r_15 0 := xu_34.1; have n0 := hN.2.2 r_15 (by omega) (by have q := hN.1.1; have q2 := xu_13.1; omega); have ps : 0 ≤ eFind N (vd S pz) ∧ N.2.2.1 (eFind N (vd S pz)) 0 = 2 := (by rw [← f0]; omega); have kb := (hK.2 _ ps.1 (by have q := hN.1; have q2 := xu_13.1; rw [← f0]; omega)).1 ps.2; rw [← f0] at kb; have k1 : r_42 = kd S (pz + 1) := (xu_40.1.trans (congrArg (kd S) (by omega))); have l0 : r_105 = N.2.2.1 r_15 1 := (xu_103.1.trans (n0.2.2.1 (by omega)).symm); refine ⟨(by omega), (by omega), (fun _ => ⟨?_, ?_⟩), (fun z => absurd (by omega) z)⟩; (unfold eI; rw [if_neg (by omega), if_pos ps, if_neg (by omega), if_neg (by omega), ← f0, l0]; rcases gx with gx | gx; (exfalso; omega); (rcases gx.2 with gy | gy; (exfalso; omega); (rw [gy.2]))); (rcases gx with gx | gx; (exfalso; omega); (rcases gx.2 with gy | gy; (exfalso; omega); omega)))⟩ dX9_item_132
      · refine lv_aload_n hx hb dX9_item_80 rfl (lv_at hl 1 rfl) ?_
        refine lv_iconst (v := iv 2) hx hb dX9_item_81 (by decide) ?_
        refine lv_aload_n hx hb dX9_item_82 rfl (lv_at hl 1 rfl) ?_
        refine g_X9_89 Cx hW (k := 11) (by decide) rfl (v := (S.1 11 13) + 1) uF_on dX9_item_83 ?_
        have lk_116 : (uF S 11 13 ((S.1 11 13) + 1)).1 11 13 = (S.1 11 13) + 1 := uF_on
        have q_117 : 0 ≤ S.1 11 10 ∧ S.1 11 10 ≤ 8 := hI.fi 11 10 9 (by decide) rfl
        have lk_118 : (uF S 11 13 ((S.1 11 13) + 1)).1 11 10 = S.1 11 10 := uF_ne (fun h => absurd h.2 (by decide))
        have q_119 : 0 ≤ S.1 11 11 ∧ S.1 11 11 ≤ 12 := hI.fi 11 11 9 (by decide) rfl
        have lk_120 : (uF S 11 13 ((S.1 11 13) + 1)).1 11 11 = S.1 11 11 := uF_ne (fun h => absurd h.2 (by decide))
        have q_121 : (-2147483648) ≤ S.1 11 12 ∧ S.1 11 12 ≤ 2147483647 := hI.fi 11 12 9 (by decide) rfl
        have lk_122 : (uF S 11 13 ((S.1 11 13) + 1)).1 11 12 = S.1 11 12 := uF_ne (fun h => absurd h.2 (by decide))
        refine sBi (sV (As := [.int (iv 2), .int (iv ((S.1 11 13) + 1))]) (rest := []) (k := 11) Cx (e_X9_fail l G (uF S 11 13 ((S.1 11 13) + 1)) (k := 2) (tk := (S.1 11 13) + 1) i_3 (by omega) (by omega)) (c_X9_132 Cx rfl rfl (rmk_ok (by omega) (by decide))) hW (by decide) rfl rfl rfl hl.1 rfl (Nat.le_of_ble_eq_true rfl) dX9_item_86 ⟨Nat.le_of_ble_eq_true rfl, Nat.le_of_ble_eq_true rfl⟩) hL (fun r_125 u_123 H locs k_124 hW hL => ?_)
        obtain ⟨iu_123, fu_123, xu_123⟩ := k_124
        have F_126 := F_2.trans fu_123
        refine lv_pop hx hb dX9_item_89 rfl ?_
        refine lv_iconst (v := iv 0) hx hb dX9_item_90 (by decide) ?_
        have q_127 : 0 ≤ u_123.1 11 9 ∧ u_123.1 11 9 ≤ 128 := iu_123.fi 11 9 9 (by decide) rfl
        have q_128 : 0 ≤ u_123.1 11 10 ∧ u_123.1 11 10 ≤ 8 := iu_123.fi 11 10 9 (by decide) rfl
        have q_129 : 0 ≤ u_123.1 11 11 ∧ u_123.1 11 11 ≤ 12 := iu_123.fi 11 11 9 (by decide) rfl
        have q_130 : (-2147483648) ≤ u_123.1 11 12 ∧ u_123.1 11 12 ≤ 2147483647 := iu_123.fi 11 12 9 (by decide) rfl
        have q_131 : 0 ≤ u_123.1 11 14 ∧ u_123.1 11 14 ≤ 7 := iu_123.fi 11 14 9 (by decide) rfl
        have q_132 : (-2147483648) ≤ u_123.1 11 13 ∧ u_123.1 11 13 ≤ 2147483647 := iu_123.fi 11 13 9 (by decide) rfl
        exact sIret Cx hr hlk hW hL ⟨iu_123, F_126, (by have gx := ogX_i hgx; have k0 : r_6 = kd S pz := (xu_4.1.trans (congrArg (kd S) (by omega))); have f0 : r_15 = eFind N (vd S pz) := (by rw [hN.find]; have q := xu_13.2; rw [show r_10 = vd S pz from (xu_8.1.trans (congrArg (vd S) (by omega)))] at q; exact q); have c0 : r_36 = fc S r_15 0 := xu_34.1; have n0 := hN.2.2 r_15 (by omega) (by have q := hN.1.1; have q2 := xu_13.1; omega); have ng : ¬ (0 ≤ eFind N (vd S pz) ∧ N.2.2.1 (eFind N (vd S pz)) 0 = 2) := (by rw [← f0]; omega); refine ⟨(by omega), (by omega), (fun z => absurd z (by omega)), (fun _ => ?_)⟩; unfold eI; rw [if_neg (by omega), if_neg ng])⟩ dX9_item_91
  · refine lv_aload_n hx hb dX9_item_25 rfl (lv_at hl 0 rfl) ?_
    refine lv_dup hx hb dX9_item_26 rfl ?_
    refine g_X9_89 Cx hW (k := 11) (by decide) rfl (v := (S.1 11 13) + 1) uF_on dX9_item_27 ?_
    refine lv_iconst (v := iv 1) hx hb dX9_item_30 (by decide) ?_
    refine r_iadd hx hb dX9_item_31 ?_
    refine p_X9_89 Cx hW hL (k := 11) (by decide) rfl dX9_item_32 (fun H locs hW hL => ?_)
    have F_133 : Fr S (uF (uF S 11 13 ((S.1 11 13) + 1)) 11 13 (((S.1 11 13) + 1) + 1)) (p1 11) := F_2.F rfl
    have i_134 : cX G (uF (uF S 11 13 ((S.1 11 13) + 1)) 11 13 (((S.1 11 13) + 1) + 1)) 0 0 0 := i_3.F rfl rfl (show (-2147483648) ≤ ((S.1 11 13) + 1) + 1 ∧ ((S.1 11 13) + 1) + 1 ≤ 2147483647 from ⟨by omega, by omega⟩)
    refine lv_aload_n hx hb dX9_item_35 rfl (lv_at hl 0 rfl) ?_
    refine g_X9_14 Cx hW (k := 11) (by decide) rfl (v := .ref (G.2.2.1 + 12)) (rf_11_0 i_134) dX9_item_36 ?_
    refine lv_aload_n hx hb dX9_item_39 rfl (lv_at hl 0 rfl) ?_
    refine g_X9_89 Cx hW (k := 11) (by decide) rfl (v := ((S.1 11 13) + 1) + 1) uF_on dX9_item_40 ?_
    refine lv_iconst (v := iv 1) hx hb dX9_item_43 (by decide) ?_
    refine r_isub hx hb dX9_item_44 ?_
    refine sBl (sV (As := [.int (iv ((((S.1 11 13) + 1) + 1) - 1))]) (rest := []) (k := 12) Cx (s_X8_value l G (uF (uF S 11 13 ((S.1 11 13) + 1)) 11 13 (((S.1 11 13) + 1) + 1)) (k := (((S.1 11 13) + 1) + 1) - 1) i_134 (by omega)) (c_X9_124 Cx rfl rfl (rmk_ok (by omega) (by decide))) hW (by decide) rfl rfl rfl hl.1 rfl (Nat.le_of_ble_eq_true rfl) dX9_item_45 ⟨Nat.le_of_ble_eq_true rfl, Nat.le_of_ble_eq_true rfl⟩) hL (fun r_137 u_135 H locs k_136 hW hL => ?_)
    obtain ⟨eu_135, xu_135⟩ := k_136
    rw [eu_135] at hW
    refine r_l2i hx hb dX9_item_48 ?_
    have q_138 : 0 ≤ S.1 11 9 ∧ S.1 11 9 ≤ 128 := hI.fi 11 9 9 (by decide) rfl
    have lk_139 : (uF (uF S 11 13 ((S.1 11 13) + 1)) 11 13 (((S.1 11 13) + 1) + 1)).1 11 9 = S.1 11 9 := (uF_ne (fun h => absurd h.2 (by decide))).trans (uF_ne (fun h => absurd h.2 (by decide)))
    have q_140 : 0 ≤ S.1 11 10 ∧ S.1 11 10 ≤ 8 := hI.fi 11 10 9 (by decide) rfl
    have lk_141 : (uF (uF S 11 13 ((S.1 11 13) + 1)) 11 13 (((S.1 11 13) + 1) + 1)).1 11 10 = S.1 11 10 := (uF_ne (fun h => absurd h.2 (by decide))).trans (uF_ne (fun h => absurd h.2 (by decide)))
    have q_142 : 0 ≤ S.1 11 11 ∧ S.1 11 11 ≤ 12 := hI.fi 11 11 9 (by decide) rfl
    have lk_143 : (uF (uF S 11 13 ((S.1 11 13) + 1)) 11 13 (((S.1 11 13) + 1) + 1)).1 11 11 = S.1 11 11 := (uF_ne (fun h => absurd h.2 (by decide))).trans (uF_ne (fun h => absurd h.2 (by decide)))
    have q_144 : (-2147483648) ≤ S.1 11 12 ∧ S.1 11 12 ≤ 2147483647 := hI.fi 11 12 9 (by decide) rfl
    have lk_145 : (uF (uF S 11 13 ((S.1 11 13) + 1)) 11 13 (((S.1 11 13) + 1) + 1)).1 11 12 = S.1 11 12 := (uF_ne (fun h => absurd h.2 (by decide))).trans (uF_ne (fun h => absurd h.2 (by decide)))
    have q_146 : 0 ≤ S.1 11 14 ∧ S.1 11 14 ≤ 7 := hI.fi 11 14 9 (by decide) rfl
    have lk_147 : (uF (uF S 11 13 ((S.1 11 13) + 1)) 11 13 (((S.1 11 13) + 1) + 1)).1 11 14 = S.1 11 14 := (uF_ne (fun h => absurd h.2 (by decide))).trans (uF_ne (fun h => absurd h.2 (by decide)))
    have lk_148 : (uF (uF S 11 13 ((S.1 11 13) + 1)) 11 13 (((S.1 11 13) + 1) + 1)).1 11 13 = ((S.1 11 13) + 1) + 1 := uF_on
    exact sIret Cx hr hlk hW hL ⟨i_134, F_133, (by have gx := ogX_i hgx; have k0 : r_6 = kd S pz := (xu_4.1.trans (congrArg (kd S) (by omega))); have v0 : r_137 = vd S pz := (xu_135.1.trans (congrArg (vd S) (by omega))); have q3 : kd S pz = 3 := (by omega); have q4 := hTV pz q3; refine ⟨(by omega), (by omega), (fun _ => ⟨?_, ?_⟩), (fun z => absurd (by omega) z)⟩; (unfold eI; rw [if_pos q3, v0]; rcases gx with gx | gx; (rw [gx.2]); (exfalso; omega)); (rcases gx with gx | gx <;> omega))⟩ dX9_item_49
