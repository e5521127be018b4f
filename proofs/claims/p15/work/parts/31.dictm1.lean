def pX (k : Nat) : Bool := pN k || rgB 135 140 k
def pY (k : Nat) : Bool := pN k || rgB 138 139 k
def pZ (k : Nat) : Bool := rgB 136 137 k || rgB 145 156 k
theorem pZ_N : ∀ k, pZ k = true → pN k = true := fun k h => by
  rw [pZ, Bool.or_eq_true] at h
  rcases h with h | h <;> simp [pN, h]
  have := rgB_t h
  exact Or.inl (Or.inl (Or.inl (Or.inr (rgB_i ⟨by omega, by omega⟩))))
theorem pN_Y : ∀ k, pN k = true → pY k = true := fun k h => by simp [pY, h]
theorem pY_X : ∀ k, pY k = true → pX k = true := fun k h => by
  rw [pY, Bool.or_eq_true] at h
  rcases h with h | h
  · simp [pX, h]
  · have := rgB_t h
    simp [pX, rgB_i (a := 135) (b := 140) (k := k) ⟨by omega, by omega⟩]
theorem pX_C : ∀ k, pX k = true → pC k = true := fun k h => by
  rw [pX, Bool.or_eq_true] at h
  rcases h with h | h
  · exact pN_C k h
  · have := rgB_t h
    simp [pC, rgB_i (a := 3) (b := 230) (k := k) ⟨by omega, by omega⟩]
theorem dic_k {o : Nat} (m : dc o) : o < 231 := by rcases m with rfl | rfl <;> decide
theorem dic_z {o : Nat} (m : dc o) : pZ o = true := by rcases m with rfl | rfl <;> rfl
theorem cX.kend0 {G : sG} {S : sS} {x y : Nat} {b : Int} (h : cX G S x y b) : cX G (uF S 135 19 0) x y b := by
  refine ⟨⟨h.fi.put (ci := 2) rfl ⟨by decide, by decide⟩, h.ai, h.li⟩, h.2.1, ?_, h.ns, ?_, ?_⟩
  · intro o ho hx
    rw [uF_ne (fun q => by rw [q.1] at ho; cases ho)]; exact h.nb o ho hx
  · intro q
    rw [uF_ne (by decide)] at q
    rw [uF_ne (by decide)]; exact h.ub q
  · exact ⟨⟨0, uF_on⟩, h.ko.2⟩
/-- the two rows of cells -/
def dcs (G : sG) (S : sS) (oc od : Nat) : Prop := dc oc ∧ dc od ∧ Hd (oc ≠ od) ∧ S.2.2.2 135 0 = .ref (G.2.2.1 + oc) ∧ S.2.2.2 135 1 = .ref (G.2.2.1 + od)
def pD4 (v k : Nat) : Bool := pB v k || rgB 143 144 k || rgB 153 156 k
theorem pD4_sub {P : pS} {v : Nat} (h1 : P v = true) (h2 : P (v + 1) = true) (a1 : P 143 = true) (a2 : P 144 = true) (a3 : P 153 = true) (a4 : P 154 = true) (a5 : P 155 = true) (a6 : P 156 = true) : ∀ k, pD4 v k = true → P k = true := fun k e => by
  simp only [pD4, Bool.or_eq_true] at e
  rcases e with (e | e) | e
  · exact pB_sub h1 h2 k e
  · have := rgB_t e
    rcases (by omega : k = 143 ∨ k = 144) with q | q <;> rw [q] <;> assumption
  · have := rgB_t e
    rcases (by omega : k = 153 ∨ k = 154 ∨ k = 155 ∨ k = 156) with q | q | q | q <;> rw [q] <;> assumption
def pF (k : Nat) : Bool := pZ k || Nat.beq k 135
theorem pF_X : ∀ k, pF k = true → pX k = true := fun k h => by
  rw [pF, Bool.or_eq_true] at h
  rcases h with h | h
  · simp [pX, pZ_N k h]
  · rw [Nat.eq_of_beq_eq_true h]; rfl
theorem pZ_F : ∀ k, pZ k = true → pF k = true := fun k h => by simp [pF, h]
set_option maxRecDepth 100000 in
set_option maxHeartbeats 4000000 in
theorem s_X2_at (l : Launch) (G : sG) (S : sS) {i j : Int} (hi : -2 ≤ i ∧ i ≤ 41) (hj : 0 ≤ j ∧ j ≤ 13) : Met l yX2_at (.code yX2_at cX2_at 2 (some .int) :: tb) (rmk 1 0 0) (sPc G 294 S [.int (iv i), .int (iv j)]) (sQi G 294 (fun r u => u = S ∧ (r = (i + 2) * 112 + j * 8))) 0 0 (sF G) := by
  refine sEnter (by decide) (Nat.le_of_ble_eq_true rfl) ?_
  intro p e s m args below meth c Cx hr hlk hnm hW ls hl
  have Cx : sC G p m c cX2_at 2 s args RX2 := Cx
  obtain ⟨hx, hb, hml, hown, hts⟩ := id Cx.1
  have hL : sL G [] := sL_nil
  have hl : lv_has ls 2 [(0, .int (iv i)), (1, .int (iv j))] := hl
  have hW0 := hW
  refine lv_iload_n hx hb dX2_at_0 rfl (lv_at hl 0 rfl) ?_
  refine lv_iconst (v := iv 2) hx hb dX2_at_1 (by decide) ?_
  refine r_iadd hx hb dX2_at_2 ?_
  refine lv_bipush (v := iv 112) hx hb dX2_at_3 (by decide) ?_
  refine r_imul hx hb dX2_at_5 ?_
  refine lv_iload_n hx hb dX2_at_6 rfl (lv_at hl 1 rfl) ?_
  refine lv_bipush (v := iv 8) hx hb dX2_at_7 (by decide) ?_
  refine r_imul hx hb dX2_at_9 ?_
  refine r_iadd hx hb dX2_at_10 ?_
  exact sIret Cx hr hlk hW hL ⟨rfl, (by omega)⟩ dX2_at_11

set_option maxRecDepth 100000 in
set_option maxHeartbeats 4000000 in
theorem s_X2_hasHelper (l : Launch) (G : sG) (S : sS)  (hI : cX G S 0 0 0) : Met l yX2_hasHelper (.code yX2_hasHelper cX2_hasHelper 1 (some .boolean) :: tb) (rmk 1 0 0) (sPc G 294 S [.ref (G.2.2.1 + 135)]) (sQi G 294 (fun r u => u = S ∧ (r = S.1 135 16 ∧ 0 ≤ r ∧ r ≤ 1))) 0 0 (sF G) := by
  refine sEnter (by decide) (Nat.le_of_ble_eq_true rfl) ?_
  intro p e s m args below meth c Cx hr hlk hnm hW ls hl
  have Cx : sC G p m c cX2_hasHelper 1 s args RX2 := Cx
  obtain ⟨hx, hb, hml, hown, hts⟩ := id Cx.1
  have hL : sL G [] := sL_nil
  have hl : lv_has ls 1 [(0, .ref (G.2.2.1 + 135))] := hl
  have hW0 := hW
  refine lv_aload_n hx hb dX2_hasHelper_0 rfl (lv_at hl 0 rfl) ?_
  have q_1 : 0 ≤ S.1 135 16 ∧ S.1 135 16 ≤ 1 := hI.fi 135 16 2 (by decide) rfl
  refine g_X2_70 Cx hW (k := 135) (by decide) rfl (v := S.1 135 16) rfl dX2_hasHelper_1 ?_
  exact sZret Cx hr hlk hW hL (by omega) ⟨rfl, (by omega)⟩ dX2_hasHelper_4

set_option maxRecDepth 100000 in
set_option maxHeartbeats 4000000 in
theorem s_X2_rowCount (l : Launch) (G : sG) (S : sS)  (hI : cX G S 0 0 0) : Met l yX2_rowCount (.code yX2_rowCount cX2_rowCount 1 (some .int) :: tb) (rmk 1 0 0) (sPc G 294 S [.ref (G.2.2.1 + 135)]) (sQi G 294 (fun r u => u = S ∧ (r = S.1 135 14 ∧ 0 ≤ r ∧ r ≤ 40))) 0 0 (sF G) := by
  refine sEnter (by decide) (Nat.le_of_ble_eq_true rfl) ?_
  intro p e s m args below meth c Cx hr hlk hnm hW ls hl
  have Cx : sC G p m c cX2_rowCount 1 s args RX2 := Cx
  obtain ⟨hx, hb, hml, hown, hts⟩ := id Cx.1
  have hL : sL G [] := sL_nil
  have hl : lv_has ls 1 [(0, .ref (G.2.2.1 + 135))] := hl
  have hW0 := hW
  refine lv_aload_n hx hb dX2_rowCount_0 rfl (lv_at hl 0 rfl) ?_
  have q_1 : 0 ≤ S.1 135 14 ∧ S.1 135 14 ≤ 40 := hI.fi 135 14 2 (by decide) rfl
  refine g_X2_66 Cx hW (k := 135) (by decide) rfl (v := S.1 135 14) rfl dX2_rowCount_1 ?_
  exact sIret Cx hr hlk hW hL ⟨rfl, (by omega)⟩ dX2_rowCount_4

set_option maxRecDepth 100000 in
set_option maxHeartbeats 4000000 in
theorem s_X2_stuckRow (l : Launch) (G : sG) (S : sS)  (hI : cX G S 0 0 0) : Met l yX2_stuckRow (.code yX2_stuckRow cX2_stuckRow 1 (some .int) :: tb) (rmk 1 0 0) (sPc G 294 S [.ref (G.2.2.1 + 135)]) (sQi G 294 (fun r u => u = S ∧ (r = S.1 135 17 ∧ -1 ≤ r ∧ r ≤ 40))) 0 0 (sF G) := by
  refine sEnter (by decide) (Nat.le_of_ble_eq_true rfl) ?_
  intro p e s m args below meth c Cx hr hlk hnm hW ls hl
  have Cx : sC G p m c cX2_stuckRow 1 s args RX2 := Cx
  obtain ⟨hx, hb, hml, hown, hts⟩ := id Cx.1
  have hL : sL G [] := sL_nil
  have hl : lv_has ls 1 [(0, .ref (G.2.2.1 + 135))] := hl
  have hW0 := hW
  refine lv_aload_n hx hb dX2_stuckRow_0 rfl (lv_at hl 0 rfl) ?_
  have q_1 : (-1) ≤ S.1 135 17 ∧ S.1 135 17 ≤ 40 := hI.fi 135 17 2 (by decide) rfl
  refine g_X2_147 Cx hW (k := 135) (by decide) rfl (v := S.1 135 17) rfl dX2_stuckRow_1 ?_
  exact sIret Cx hr hlk hW hL ⟨rfl, (by omega)⟩ dX2_stuckRow_4

set_option maxRecDepth 100000 in
set_option maxHeartbeats 4000000 in
theorem s_X2_hasKept (l : Launch) (G : sG) (S : sS)  (hI : cX G S 0 0 0) : Met l yX2_hasKept (.code yX2_hasKept cX2_hasKept 1 (some .boolean) :: tb) (rmk 1 0 0) (sPc G 294 S [.ref (G.2.2.1 + 135)]) (sQi G 294 (fun r u => u = S ∧ (0 ≤ r ∧ r ≤ 1))) 0 0 (sF G) := by
  refine sEnter (by decide) (Nat.le_of_ble_eq_true rfl) ?_
  intro p e s m args below meth c Cx hr hlk hnm hW ls hl
  have Cx : sC G p m c cX2_hasKept 1 s args RX2 := Cx
  obtain ⟨hx, hb, hml, hown, hts⟩ := id Cx.1
  have hL : sL G [] := sL_nil
  have hl : lv_has ls 1 [(0, .ref (G.2.2.1 + 135))] := hl
  have hW0 := hW
  refine lv_aload_n hx hb dX2_hasKept_0 rfl (lv_at hl 0 rfl) ?_
  have q_1 : 0 ≤ S.1 135 19 ∧ S.1 135 19 ≤ 102220 := hI.fi 135 19 2 (by decide) rfl
  refine g_X2_74 Cx hW (k := 135) (by decide) rfl (v := S.1 135 19) rfl dX2_hasKept_1 ?_
  refine r_if_le (tgt := 11) hx hb ⟨(by omega), (by omega)⟩ dX2_hasKept_4 (by decide) (fun c_2 => ?_) (fun c_2 => ?_)
  · refine lv_iconst (v := iv 0) hx hb dX2_hasKept_11 (by decide) ?_
    exact sZret Cx hr hlk hW hL (by omega) ⟨rfl, (by omega)⟩ dX2_hasKept_12
  · refine lv_iconst (v := iv 1) hx hb dX2_hasKept_7 (by decide) ?_
    refine lv_goto (tgt := 12) hx hb dX2_hasKept_8 (by decide) ?_
    exact sZret Cx hr hlk hW hL (by omega) ⟨rfl, (by omega)⟩ dX2_hasKept_12

set_option maxRecDepth 100000 in
set_option maxHeartbeats 4000000 in
theorem s_X2_sign (l : Launch) (G : sG) (S : sS) {i j : Int} (hI : cX G S 0 0 0) (hi : -2 ≤ i ∧ i ≤ 40) (hj : 0 ≤ j ∧ j ≤ 13) : Met l yX2_sign (.code yX2_sign cX2_sign 3 (some .int) :: tb) (rmk 2 0 0) (sPc G 294 S [.ref (G.2.2.1 + 135), .int (iv i), .int (iv j)]) (sQi G 294 (fun r u => u = S ∧ (-1 ≤ r ∧ r ≤ 1))) 0 0 (sF G) := by
  refine sEnter (by decide) (Nat.le_of_ble_eq_true rfl) ?_
  intro p e s m args below meth c Cx hr hlk hnm hW ls hl
  have Cx : sC G p m c cX2_sign 3 s args RX2 := Cx
  obtain ⟨hx, hb, hml, hown, hts⟩ := id Cx.1
  have hL : sL G [] := sL_nil
  have hl : lv_has ls 3 [(0, .ref (G.2.2.1 + 135)), (1, .int (iv i)), (2, .int (iv j))] := hl
  have hW0 := hW
  refine lv_aload_n hx hb dX2_sign_0 rfl (lv_at hl 0 rfl) ?_
  obtain ⟨o_1, o_2, mo_1, mo_2, no_1, eo_1, eo_2⟩ := rm_135 hI
  refine g_X2_13 Cx hW (k := 135) (by decide) rfl (v := .ref (G.2.2.1 + o_1)) eo_1 dX2_sign_1 ?_
  refine lv_iload_n hx hb dX2_sign_4 rfl (lv_at hl 1 rfl) ?_
  refine lv_iload_n hx hb dX2_sign_5 rfl (lv_at hl 2 rfl) ?_
  refine sBi (sSt (As := [.int (iv i), .int (iv j)]) (rest := [.ref (G.2.2.1 + o_1)]) Cx (s_X2_at l G S (i := i) (j := j) (by omega) (by omega)) (c_X2_77 Cx rfl rfl (rmk_ok (by omega) (by decide))) hW rfl hl.1 rfl (Nat.le_of_ble_eq_true rfl) dX2_sign_6 ⟨Nat.le_of_ble_eq_true rfl, Nat.le_of_ble_eq_true rfl⟩) hL (fun r_5 u_3 H locs k_4 hW hL => ?_)
  obtain ⟨eu_3, xu_3⟩ := k_4
  rw [eu_3] at hW
  refine rIald Cx hW (k := o_1) (dic_l mo_1) (dic_t mo_1) (by decide) (by omega) (by omega) dX2_sign_9 ?_
  have q_6 : (-2147483648) ≤ S.2.1 o_1 r_5 ∧ S.2.1 o_1 r_5 ≤ 2147483647 := sla_r (dic_a mo_1) hI r_5 
  refine r_i (b := S.2.1 o_1 r_5) rfl ?_
  refine sBi (sSt (As := [.int (iv (S.2.1 o_1 r_5))]) (rest := []) Cx (t_J6_signum_0f7a4 l G S (a := S.2.1 o_1 r_5) (by omega)) (c_X2_100 Cx rfl rfl (rmk_ok (by omega) (by decide))) hW rfl hl.1 rfl (Nat.le_of_ble_eq_true rfl) dX2_sign_10 ⟨Nat.le_of_ble_eq_true rfl, Nat.le_of_ble_eq_true rfl⟩) hL (fun r_9 u_7 H locs k_8 hW hL => ?_)
  obtain ⟨eu_7, xu_7⟩ := k_8
  rw [eu_7] at hW
  have yu_7 : ((S.2.1 o_1 r_5) < 0 → r_9 = -1) ∧ ((S.2.1 o_1 r_5) = 0 → r_9 = 0) ∧ (0 < (S.2.1 o_1 r_5) → r_9 = 1) := sgn3 xu_7
  clear xu_7
  exact sIret Cx hr hlk hW hL ⟨rfl, (by omega)⟩ dX2_sign_13

set_option maxRecDepth 100000 in
set_option maxHeartbeats 4000000 in
theorem s_X2_numberAt (l : Launch) (G : sG) (S : sS) {i : Int} (hI : cX G S 0 0 0) (hi : -2147483648 ≤ i ∧ i ≤ 2147483647) : Met l yX2_numberAt (.code yX2_numberAt cX2_numberAt 2 (some .int) :: tb) (rmk 1 0 0) (sPc G 294 S [.ref (G.2.2.1 + 135), .int (iv i)]) (sQi G 294 (fun r u => u = S ∧ (-2147483648 ≤ r ∧ r ≤ 2147483647))) 0 0 (sF G) := by
  refine sEnter (by decide) (Nat.le_of_ble_eq_true rfl) ?_
  intro p e s m args below meth c Cx hr hlk hnm hW ls hl
  have Cx : sC G p m c cX2_numberAt 2 s args RX2 := Cx
  obtain ⟨hx, hb, hml, hown, hts⟩ := id Cx.1
  have hL : sL G [] := sL_nil
  have hl : lv_has ls 2 [(0, .ref (G.2.2.1 + 135)), (1, .int (iv i))] := hl
  have hW0 := hW
  refine lv_iload_n hx hb dX2_numberAt_0 rfl (lv_at hl 1 rfl) ?_
  refine lv_iconst (v := iv 1) hx hb dX2_numberAt_1 (by decide) ?_
  refine r_icmp_lt (tgt := 20) hx hb ⟨(by omega), (by omega)⟩ ⟨(by omega), (by omega)⟩ dX2_numberAt_2 (by decide) (fun c_1 => ?_) (fun c_1 => ?_)
  · refine lv_iload_n hx hb dX2_numberAt_20 rfl (lv_at hl 1 rfl) ?_
    refine lv_iconst (v := iv (-1)) hx hb dX2_numberAt_21 (by decide) ?_
    refine r_icmp_gt (tgt := 44) hx hb ⟨(by omega), (by omega)⟩ ⟨(by omega), (by omega)⟩ dX2_numberAt_22 (by decide) (fun c_2 => ?_) (fun c_2 => ?_)
    · refine lv_iconst (v := iv (-1)) hx hb dX2_numberAt_44 (by decide) ?_
      exact sIret Cx hr hlk hW hL ⟨rfl, (by omega)⟩ dX2_numberAt_45
    · refine lv_iload_n hx hb dX2_numberAt_25 rfl (lv_at hl 1 rfl) ?_
      refine lv_aload_n hx hb dX2_numberAt_26 rfl (lv_at hl 0 rfl) ?_
      have q_3 : 0 ≤ S.1 135 15 ∧ S.1 135 15 ≤ 13 := hI.fi 135 15 2 (by decide) rfl
      refine g_X2_67 Cx hW (k := 135) (by decide) rfl (v := S.1 135 15) rfl dX2_numberAt_27 ?_
      refine r_ineg hx hb dX2_numberAt_30 ?_
      refine r_icmp_lt (tgt := 44) hx hb ⟨(by omega), (by omega)⟩ ⟨(by omega), (by omega)⟩ dX2_numberAt_31 (by decide) (fun c_4 => ?_) (fun c_4 => ?_)
      · refine lv_iconst (v := iv (-1)) hx hb dX2_numberAt_44 (by decide) ?_
        exact sIret Cx hr hlk hW hL ⟨rfl, (by omega)⟩ dX2_numberAt_45
      · refine lv_aload_n hx hb dX2_numberAt_34 rfl (lv_at hl 0 rfl) ?_
        refine g_X2_23 Cx hW (k := 135) (by decide) rfl (v := .ref (G.2.2.1 + 139)) (rf_135_3 hI) dX2_numberAt_35 ?_
        refine lv_iload_n hx hb dX2_numberAt_38 rfl (lv_at hl 1 rfl) ?_
        refine r_ineg hx hb dX2_numberAt_39 ?_
        refine rIald Cx hW (k := 139) (by decide) rfl (by decide) (by omega) (by omega) dX2_numberAt_40 ?_
        have q_5 : (-2147483648) ≤ S.2.1 139 (-i) ∧ S.2.1 139 (-i) ≤ 2147483647 := hI.ai 139 (-i) (by decide)
        refine r_i (b := S.2.1 139 (-i)) rfl ?_
        refine lv_goto (tgt := 45) hx hb dX2_numberAt_41 (by decide) ?_
        exact sIret Cx hr hlk hW hL ⟨rfl, (by omega)⟩ dX2_numberAt_45
  · refine lv_iload_n hx hb dX2_numberAt_5 rfl (lv_at hl 1 rfl) ?_
    refine lv_aload_n hx hb dX2_numberAt_6 rfl (lv_at hl 0 rfl) ?_
    have q_6 : 0 ≤ S.1 135 14 ∧ S.1 135 14 ≤ 40 := hI.fi 135 14 2 (by decide) rfl
    refine g_X2_66 Cx hW (k := 135) (by decide) rfl (v := S.1 135 14) rfl dX2_numberAt_7 ?_
    refine r_icmp_gt (tgt := 20) hx hb ⟨(by omega), (by omega)⟩ ⟨(by omega), (by omega)⟩ dX2_numberAt_10 (by decide) (fun c_7 => ?_) (fun c_7 => ?_)
    · refine lv_iload_n hx hb dX2_numberAt_20 rfl (lv_at hl 1 rfl) ?_
      refine lv_iconst (v := iv (-1)) hx hb dX2_numberAt_21 (by decide) ?_
      refine r_icmp_gt (tgt := 44) hx hb ⟨(by omega), (by omega)⟩ ⟨(by omega), (by omega)⟩ dX2_numberAt_22 (by decide) (fun c_8 => ?_) (fun c_8 => ?_)
      · refine lv_iconst (v := iv (-1)) hx hb dX2_numberAt_44 (by decide) ?_
        exact sIret Cx hr hlk hW hL ⟨rfl, (by omega)⟩ dX2_numberAt_45
      · refine lv_iload_n hx hb dX2_numberAt_25 rfl (lv_at hl 1 rfl) ?_
        refine lv_aload_n hx hb dX2_numberAt_26 rfl (lv_at hl 0 rfl) ?_
        have q_9 : 0 ≤ S.1 135 15 ∧ S.1 135 15 ≤ 13 := hI.fi 135 15 2 (by decide) rfl
        refine g_X2_67 Cx hW (k := 135) (by decide) rfl (v := S.1 135 15) rfl dX2_numberAt_27 ?_
        refine r_ineg hx hb dX2_numberAt_30 ?_
        refine r_icmp_lt (tgt := 44) hx hb ⟨(by omega), (by omega)⟩ ⟨(by omega), (by omega)⟩ dX2_numberAt_31 (by decide) (fun c_10 => ?_) (fun c_10 => ?_)
        · refine lv_iconst (v := iv (-1)) hx hb dX2_numberAt_44 (by decide) ?_
          exact sIret Cx hr hlk hW hL ⟨rfl, (by omega)⟩ dX2_numberAt_45
        · refine lv_aload_n hx hb dX2_numberAt_34 rfl (lv_at hl 0 rfl) ?_
          refine g_X2_23 Cx hW (k := 135) (by decide) rfl (v := .ref (G.2.2.1 + 139)) (rf_135_3 hI) dX2_numberAt_35 ?_
          refine lv_iload_n hx hb dX2_numberAt_38 rfl (lv_at hl 1 rfl) ?_
          refine r_ineg hx hb dX2_numberAt_39 ?_
          refine rIald Cx hW (k := 139) (by decide) rfl (by decide) (by omega) (by omega) dX2_numberAt_40 ?_
          have q_11 : (-2147483648) ≤ S.2.1 139 (-i) ∧ S.2.1 139 (-i) ≤ 2147483647 := hI.ai 139 (-i) (by decide)
          refine r_i (b := S.2.1 139 (-i)) rfl ?_
          refine lv_goto (tgt := 45) hx hb dX2_numberAt_41 (by decide) ?_
          exact sIret Cx hr hlk hW hL ⟨rfl, (by omega)⟩ dX2_numberAt_45
    · refine lv_aload_n hx hb dX2_numberAt_13 rfl (lv_at hl 0 rfl) ?_
      refine g_X2_20 Cx hW (k := 135) (by decide) rfl (v := .ref (G.2.2.1 + 138)) (rf_135_2 hI) dX2_numberAt_14 ?_
      refine lv_iload_n hx hb dX2_numberAt_17 rfl (lv_at hl 1 rfl) ?_
      refine rIald Cx hW (k := 138) (by decide) rfl (by decide) (by omega) (by omega) dX2_numberAt_18 ?_
      have q_12 : (-2147483648) ≤ S.2.1 138 i ∧ S.2.1 138 i ≤ 2147483647 := hI.ai 138 i (by decide)
      refine r_i (b := S.2.1 138 i) rfl ?_
      exact sIret Cx hr hlk hW hL ⟨rfl, (by omega)⟩ dX2_numberAt_19

set_option maxRecDepth 100000 in
set_option maxHeartbeats 4000000 in
theorem s_X2_rowOf (l : Launch) (G : sG) (S : sS) {k : Int} (hI : cX G S 0 0 0) (hk : -2147483648 ≤ k ∧ k ≤ 2147483647) : Met l yX2_rowOf (.code yX2_rowOf cX2_rowOf 3 (some .int) :: tb) (rmk 1 0 0) (sPc G 294 S [.ref (G.2.2.1 + 135), .int (iv k)]) (sQi G 294 (fun r u => u = S ∧ (-1 ≤ r ∧ r ≤ S.1 135 14 ∧ r ≠ 0))) 0 0 (sF G) := by
  refine sEnter (by decide) (Nat.le_of_ble_eq_true rfl) ?_
  intro p e s m args below meth c Cx hr hlk hnm hW ls hl
  have Cx : sC G p m c cX2_rowOf 3 s args RX2 := Cx
  obtain ⟨hx, hb, hml, hown, hts⟩ := id Cx.1
  have hL : sL G [] := sL_nil
  have hl : lv_has ls 3 [(0, .ref (G.2.2.1 + 135)), (1, .int (iv k))] := hl
  have hW0 := hW
  refine lv_iconst (v := iv 1) hx hb dX2_rowOf_0 (by decide) ?_
  refine lv_istore_n (lv' := [(2, .int (iv 1)), (0, .ref (G.2.2.1 + 135)), (1, .int (iv k))]) hx hb dX2_rowOf_1 rfl hl (by decide) rfl (fun ls hl => ?_)
  have loop_2 : ∀ (fuel : Nat) (i : Int) (H : Heap) (locs : List Loc) (ls : Array Slot), (41 - i).toNat < fuel → (1 ≤ i ∧ i ≤ 41) → sW G 294 S H → sL G locs → lv_has ls 3 [(2, .int (iv i)), (0, .ref (G.2.2.1 + 135)), (1, .int (iv k))] → W p l e (rmk 1 0 0) s m args below meth c H locs 0 0 (MQ below (sQi G 294 (fun r u => u = S ∧ (-1 ≤ r ∧ r ≤ S.1 135 14 ∧ r ≠ 0))) args s 0 0 (sF G)) (F0 m 2 ls []) := by
    intro fuel
    induction fuel with
    | zero => intro i H locs ls hmeas hi hW hL hl; exact absurd hmeas (Nat.not_lt_zero _)
    | succ fuel ih_2 =>
      intro i H locs ls hmeas hi hW hL hl
      refine lv_iload_n hx hb dX2_rowOf_2 rfl (lv_at hl 0 rfl) ?_
      refine lv_aload_n hx hb dX2_rowOf_3 rfl (lv_at hl 1 rfl) ?_
      have q_1 : 0 ≤ S.1 135 14 ∧ S.1 135 14 ≤ 40 := hI.fi 135 14 2 (by decide) rfl
      refine g_X2_66 Cx hW (k := 135) (by decide) rfl (v := S.1 135 14) rfl dX2_rowOf_4 ?_
      refine r_icmp_gt (tgt := 28) hx hb ⟨(by omega), (by omega)⟩ ⟨(by omega), (by omega)⟩ dX2_rowOf_7 (by decide) (fun c_2 => ?_) (fun c_2 => ?_)
      · refine lv_iconst (v := iv (-1)) hx hb dX2_rowOf_28 (by decide) ?_
        exact sIret Cx hr hlk hW hL ⟨rfl, (by omega)⟩ dX2_rowOf_29
      · refine lv_aload_n hx hb dX2_rowOf_10 rfl (lv_at hl 1 rfl) ?_
        refine g_X2_20 Cx hW (k := 135) (by decide) rfl (v := .ref (G.2.2.1 + 138)) (rf_135_2 hI) dX2_rowOf_11 ?_
        refine lv_iload_n hx hb dX2_rowOf_14 rfl (lv_at hl 0 rfl) ?_
        refine rIald Cx hW (k := 138) (by decide) rfl (by decide) (by omega) (by omega) dX2_rowOf_15 ?_
        have q_3 : (-2147483648) ≤ S.2.1 138 i ∧ S.2.1 138 i ≤ 2147483647 := hI.ai 138 i (by decide)
        refine r_i (b := S.2.1 138 i) rfl ?_
        refine lv_iload_n hx hb dX2_rowOf_16 rfl (lv_at hl 2 rfl) ?_
        refine r_icmp_ne (tgt := 22) hx hb ⟨(by omega), (by omega)⟩ ⟨(by omega), (by omega)⟩ dX2_rowOf_17 (by decide) (fun c_4 => ?_) (fun c_4 => ?_)
        · refine lv_iinc (v := iv (i + 1)) (lv' := [(2, .int (iv (i + 1))), (0, .ref (G.2.2.1 + 135)), (1, .int (iv k))]) hx hb dX2_rowOf_22 hl (k := 0) rfl ((Int32.ofInt_add _ _).symm) (by decide) rfl (fun ls hl => ?_)
          refine lv_goto (tgt := 2) hx hb dX2_rowOf_25 (by decide) ?_
          exact ih_2 (i + 1) _ _ _ (by omega) (by omega) hW hL (lv_sub hl [0, 1, 2] rfl)
        · refine lv_iload_n hx hb dX2_rowOf_20 rfl (lv_at hl 0 rfl) ?_
          exact sIret Cx hr hlk hW hL ⟨rfl, (by omega)⟩ dX2_rowOf_21
  exact loop_2 (_ + 1) 1 _ _ _ (Nat.lt_succ_self _) (by omega) hW hL (lv_sub hl [0, 1, 2] rfl)

set_option maxRecDepth 100000 in
set_option maxHeartbeats 4000000 in
theorem s_X2_placeOf (l : Launch) (G : sG) (S : sS) {k : Int} (hI : cX G S 0 0 0) (hk : -2147483648 ≤ k ∧ k ≤ 2147483647) : Met l yX2_placeOf (.code yX2_placeOf cX2_placeOf 3 (some .int) :: tb) (rmk 1 0 0) (sPc G 294 S [.ref (G.2.2.1 + 135), .int (iv k)]) (sQi G 294 (fun r u => u = S ∧ (-1 ≤ r ∧ r ≤ S.1 135 15 ∧ r ≠ 0))) 0 0 (sF G) := by
  refine sEnter (by decide) (Nat.le_of_ble_eq_true rfl) ?_
  intro p e s m args below meth c Cx hr hlk hnm hW ls hl
  have Cx : sC G p m c cX2_placeOf 3 s args RX2 := Cx
  obtain ⟨hx, hb, hml, hown, hts⟩ := id Cx.1
  have hL : sL G [] := sL_nil
  have hl : lv_has ls 3 [(0, .ref (G.2.2.1 + 135)), (1, .int (iv k))] := hl
  have hW0 := hW
  refine lv_iconst (v := iv 1) hx hb dX2_placeOf_0 (by decide) ?_
  refine lv_istore_n (lv' := [(2, .int (iv 1)), (0, .ref (G.2.2.1 + 135)), (1, .int (iv k))]) hx hb dX2_placeOf_1 rfl hl (by decide) rfl (fun ls hl => ?_)
  have loop_2 : ∀ (fuel : Nat) (i : Int) (H : Heap) (locs : List Loc) (ls : Array Slot), (14 - i).toNat < fuel → (1 ≤ i ∧ i ≤ 14) → sW G 294 S H → sL G locs → lv_has ls 3 [(2, .int (iv i)), (0, .ref (G.2.2.1 + 135)), (1, .int (iv k))] → W p l e (rmk 1 0 0) s m args below meth c H locs 0 0 (MQ below (sQi G 294 (fun r u => u = S ∧ (-1 ≤ r ∧ r ≤ S.1 135 15 ∧ r ≠ 0))) args s 0 0 (sF G)) (F0 m 2 ls []) := by
    intro fuel
    induction fuel with
    | zero => intro i H locs ls hmeas hi hW hL hl; exact absurd hmeas (Nat.not_lt_zero _)
    | succ fuel ih_2 =>
      intro i H locs ls hmeas hi hW hL hl
      refine lv_iload_n hx hb dX2_placeOf_2 rfl (lv_at hl 0 rfl) ?_
      refine lv_aload_n hx hb dX2_placeOf_3 rfl (lv_at hl 1 rfl) ?_
      have q_1 : 0 ≤ S.1 135 15 ∧ S.1 135 15 ≤ 13 := hI.fi 135 15 2 (by decide) rfl
      refine g_X2_67 Cx hW (k := 135) (by decide) rfl (v := S.1 135 15) rfl dX2_placeOf_4 ?_
      refine r_icmp_gt (tgt := 28) hx hb ⟨(by omega), (by omega)⟩ ⟨(by omega), (by omega)⟩ dX2_placeOf_7 (by decide) (fun c_2 => ?_) (fun c_2 => ?_)
      · refine lv_iconst (v := iv (-1)) hx hb dX2_placeOf_28 (by decide) ?_
        exact sIret Cx hr hlk hW hL ⟨rfl, (by omega)⟩ dX2_placeOf_29
      · refine lv_aload_n hx hb dX2_placeOf_10 rfl (lv_at hl 1 rfl) ?_
        refine g_X2_23 Cx hW (k := 135) (by decide) rfl (v := .ref (G.2.2.1 + 139)) (rf_135_3 hI) dX2_placeOf_11 ?_
        refine lv_iload_n hx hb dX2_placeOf_14 rfl (lv_at hl 0 rfl) ?_
        refine rIald Cx hW (k := 139) (by decide) rfl (by decide) (by omega) (by omega) dX2_placeOf_15 ?_
        have q_3 : (-2147483648) ≤ S.2.1 139 i ∧ S.2.1 139 i ≤ 2147483647 := hI.ai 139 i (by decide)
        refine r_i (b := S.2.1 139 i) rfl ?_
        refine lv_iload_n hx hb dX2_placeOf_16 rfl (lv_at hl 2 rfl) ?_
        refine r_icmp_ne (tgt := 22) hx hb ⟨(by omega), (by omega)⟩ ⟨(by omega), (by omega)⟩ dX2_placeOf_17 (by decide) (fun c_4 => ?_) (fun c_4 => ?_)
        · refine lv_iinc (v := iv (i + 1)) (lv' := [(2, .int (iv (i + 1))), (0, .ref (G.2.2.1 + 135)), (1, .int (iv k))]) hx hb dX2_placeOf_22 hl (k := 0) rfl ((Int32.ofInt_add _ _).symm) (by decide) rfl (fun ls hl => ?_)
          refine lv_goto (tgt := 2) hx hb dX2_placeOf_25 (by decide) ?_
          exact ih_2 (i + 1) _ _ _ (by omega) (by omega) hW hL (lv_sub hl [0, 1, 2] rfl)
        · refine lv_iload_n hx hb dX2_placeOf_20 rfl (lv_at hl 0 rfl) ?_
          exact sIret Cx hr hlk hW hL ⟨rfl, (by omega)⟩ dX2_placeOf_21
  exact loop_2 (_ + 1) 1 _ _ _ (Nat.lt_succ_self _) (by omega) hW hL (lv_sub hl [0, 1, 2] rfl)

set_option maxRecDepth 100000 in
set_option maxHeartbeats 4000000 in
theorem s_X2_helperIsBasic (l : Launch) (G : sG) (S : sS)  (hI : cX G S 0 0 0) : Met l yX2_helperIsBasic (.code yX2_helperIsBasic cX2_helperIsBasic 1 (some .boolean) :: tb) (rmk 2 0 0) (sPc G 294 S [.ref (G.2.2.1 + 135)]) (sQi G 294 (fun r u => u = S ∧ (0 ≤ r ∧ r ≤ 1))) 0 0 (sF G) := by
  refine sEnter (by decide) (Nat.le_of_ble_eq_true rfl) ?_
  intro p e s m args below meth c Cx hr hlk hnm hW ls hl
  have Cx : sC G p m c cX2_helperIsBasic 1 s args RX2 := Cx
  obtain ⟨hx, hb, hml, hown, hts⟩ := id Cx.1
  have hL : sL G [] := sL_nil
  have hl : lv_has ls 1 [(0, .ref (G.2.2.1 + 135))] := hl
  have hW0 := hW
  refine lv_aload_n hx hb dX2_helperIsBasic_0 rfl (lv_at hl 0 rfl) ?_
  refine lv_iconst (v := iv 0) hx hb dX2_helperIsBasic_1 (by decide) ?_
  have q_1 : 0 ≤ S.1 135 14 ∧ S.1 135 14 ≤ 40 := hI.fi 135 14 2 (by decide) rfl
  refine sBi (sV (As := [.int (iv 0)]) (rest := []) (k := 135) Cx (s_X2_rowOf l G S (k := 0) hI (by omega)) (c_X2_128 Cx rfl rfl (rmk_ok (by omega) (by decide))) hW (by decide) rfl rfl rfl hl.1 rfl (Nat.le_of_ble_eq_true rfl) dX2_helperIsBasic_2 ⟨Nat.le_of_ble_eq_true rfl, Nat.le_of_ble_eq_true rfl⟩) hL (fun r_4 u_2 H locs k_3 hW hL => ?_)
  obtain ⟨eu_2, xu_2⟩ := k_3
  rw [eu_2] at hW
  refine r_if_le (tgt := 12) hx hb ⟨(by omega), (by omega)⟩ dX2_helperIsBasic_5 (by decide) (fun c_5 => ?_) (fun c_5 => ?_)
  · refine lv_iconst (v := iv 0) hx hb dX2_helperIsBasic_12 (by decide) ?_
    exact sZret Cx hr hlk hW hL (by omega) ⟨rfl, (by omega)⟩ dX2_helperIsBasic_13
  · refine lv_iconst (v := iv 1) hx hb dX2_helperIsBasic_8 (by decide) ?_
    refine lv_goto (tgt := 13) hx hb dX2_helperIsBasic_9 (by decide) ?_
    exact sZret Cx hr hlk hW hL (by omega) ⟨rfl, (by omega)⟩ dX2_helperIsBasic_13

set_option maxRecDepth 100000 in
set_option maxHeartbeats 4000000 in
theorem s_X2_number (l : Launch) (G : sG) (S : sS) {v : Nat} {i j : Int} (hI : cX G S 0 0 0) (hv : tau v = .inl 0) (hi : -2 ≤ i ∧ i ≤ 40) (hj : 0 ≤ j ∧ j ≤ 13) : Met l yX2_number (.code yX2_number cX2_number 4 none :: tb) (rmk 3 0 0) (sPc G 294 S [.ref (G.2.2.1 + 135), .int (iv i), .int (iv j), .ref (G.2.2.1 + v)]) (sQv G 294 (fun u => cX G u 0 0 0 ∧ Fr S u (pB v) ∧ (u.1 v 1 ≤ 6))) 0 0 (sF G) := by
  refine sEnter (by decide) (Nat.le_of_ble_eq_true rfl) ?_
  intro p e s m args below meth c Cx hr hlk hnm hW ls hl
  have Cx : sC G p m c cX2_number 4 s args RX2 := Cx
  obtain ⟨hx, hb, hml, hown, hts⟩ := id Cx.1
  have hL : sL G [] := sL_nil
  have hl : lv_has ls 4 [(0, .ref (G.2.2.1 + 135)), (1, .int (iv i)), (2, .int (iv j)), (3, .ref (G.2.2.1 + v))] := hl
  have hW0 := hW
  refine lv_aload_n hx hb dX2_number_0 rfl (lv_at hl 3 rfl) ?_
  refine lv_aload_n hx hb dX2_number_1 rfl (lv_at hl 0 rfl) ?_
  obtain ⟨o_1, o_2, mo_1, mo_2, no_1, eo_1, eo_2⟩ := rm_135 hI
  refine g_X2_13 Cx hW (k := 135) (by decide) rfl (v := .ref (G.2.2.1 + o_1)) eo_1 dX2_number_2 ?_
  refine lv_iload_n hx hb dX2_number_5 rfl (lv_at hl 1 rfl) ?_
  refine lv_iload_n hx hb dX2_number_6 rfl (lv_at hl 2 rfl) ?_
  refine sBi (sSt (As := [.int (iv i), .int (iv j)]) (rest := [.ref (G.2.2.1 + o_1), .ref (G.2.2.1 + v)]) Cx (s_X2_at l G S (i := i) (j := j) (by omega) (by omega)) (c_X2_77 Cx rfl rfl (rmk_ok (by omega) (by decide))) hW rfl hl.1 rfl (Nat.le_of_ble_eq_true rfl) dX2_number_7 ⟨Nat.le_of_ble_eq_true rfl, Nat.le_of_ble_eq_true rfl⟩) hL (fun r_5 u_3 H locs k_4 hW hL => ?_)
  obtain ⟨eu_3, xu_3⟩ := k_4
  rw [eu_3] at hW
  refine sBv (sV (As := [.ref (G.2.2.1 + o_1), .int (iv r_5)]) (rest := []) (k := v) Cx (s_X0_load l G S (o := v) (k := o_1) (a := r_5) (N := 4816) hI hv (dic_a mo_1) (by omega)) (c_X2_106 Cx rfl rfl (rmk_ok (by omega) (by decide))) hW (big_l hv) hv rfl rfl hl.1 rfl (Nat.le_of_ble_eq_true rfl) dX2_number_10 ⟨Nat.le_of_ble_eq_true rfl, Nat.le_of_ble_eq_true rfl⟩) hL (fun u_6 H locs k_7 hW hL => ?_)
  obtain ⟨iu_6, fu_6, xu_6⟩ := k_7
  have F_8 := (Fr.rf : Fr S S (pB v)).trans fu_6
  have yu_6 : u_6.1 v 1 ≤ 6 := by have e := xu_6.1; rw [dic_L mo_1] at e; exact e
  have q_9 : 0 ≤ u_6.1 v 1 ∧ u_6.1 v 1 ≤ 32 := iu_6.fi v 1 0 (big_lt hv) hv
  exact sVret Cx hr hlk hW hL ⟨iu_6, F_8, (by omega)⟩ dX2_number_13

set_option maxRecDepth 100000 in
set_option maxHeartbeats 4000000 in
theorem s_X2_denominator (l : Launch) (G : sG) (S : sS) {v : Nat} (hI : cX G S 0 0 0) (hv : tau v = .inl 0) : Met l yX2_denominator (.code yX2_denominator cX2_denominator 2 none :: tb) (rmk 3 0 0) (sPc G 294 S [.ref (G.2.2.1 + 135), .ref (G.2.2.1 + v)]) (sQv G 294 (fun u => cX G u 0 0 0 ∧ Fr S u (pB v) ∧ (u.1 v 1 ≤ 6 ∧ 0 ≤ u.1 v 2 ∧ (0 < u.1 v 2 → 1 ≤ u.1 v 1)))) 0 0 (sF G) := by
  refine sEnter (by decide) (Nat.le_of_ble_eq_true rfl) ?_
  intro p e s m args below meth c Cx hr hlk hnm hW ls hl
  have Cx : sC G p m c cX2_denominator 2 s args RX2 := Cx
  obtain ⟨hx, hb, hml, hown, hts⟩ := id Cx.1
  have hL : sL G [] := sL_nil
  have hl : lv_has ls 2 [(0, .ref (G.2.2.1 + 135)), (1, .ref (G.2.2.1 + v))] := hl
  have hW0 := hW
  refine lv_aload_n hx hb dX2_denominator_0 rfl (lv_at hl 1 rfl) ?_
  refine lv_aload_n hx hb dX2_denominator_1 rfl (lv_at hl 0 rfl) ?_
  obtain ⟨o_1, o_2, mo_1, mo_2, no_1, eo_1, eo_2⟩ := rm_135 hI
  refine g_X2_13 Cx hW (k := 135) (by decide) rfl (v := .ref (G.2.2.1 + o_1)) eo_1 dX2_denominator_2 ?_
  refine lv_bipush (v := iv (-2)) hx hb dX2_denominator_5 (by decide) ?_
  refine lv_iconst (v := iv 0) hx hb dX2_denominator_7 (by decide) ?_
  refine sBi (sSt (As := [.int (iv ((-2))), .int (iv 0)]) (rest := [.ref (G.2.2.1 + o_1), .ref (G.2.2.1 + v)]) Cx (s_X2_at l G S (i := (-2)) (j := 0) (by omega) (by omega)) (c_X2_77 Cx rfl rfl (rmk_ok (by omega) (by decide))) hW rfl hl.1 rfl (Nat.le_of_ble_eq_true rfl) dX2_denominator_8 ⟨Nat.le_of_ble_eq_true rfl, Nat.le_of_ble_eq_true rfl⟩) hL (fun r_5 u_3 H locs k_4 hW hL => ?_)
  obtain ⟨eu_3, xu_3⟩ := k_4
  rw [eu_3] at hW
  refine sBv (sV (As := [.ref (G.2.2.1 + o_1), .int (iv r_5)]) (rest := []) (k := v) Cx (s_X0_load l G S (o := v) (k := o_1) (a := r_5) (N := 4816) hI hv (dic_a mo_1) (by omega)) (c_X2_106 Cx rfl rfl (rmk_ok (by omega) (by decide))) hW (big_l hv) hv rfl rfl hl.1 rfl (Nat.le_of_ble_eq_true rfl) dX2_denominator_11 ⟨Nat.le_of_ble_eq_true rfl, Nat.le_of_ble_eq_true rfl⟩) hL (fun u_6 H locs k_7 hW hL => ?_)
  obtain ⟨iu_6, fu_6, xu_6⟩ := k_7
  have F_8 := (Fr.rf : Fr S S (pB v)).trans fu_6
  have yu_6 : u_6.1 v 1 ≤ 6 := by have e := xu_6.1; rw [dic_L mo_1] at e; exact e
  have hd00 := dicD hI mo_1
  have hr0 : r_5 = 0 := by omega
  rw [hr0] at xu_6
  have q_9 : 0 ≤ u_6.1 v 1 ∧ u_6.1 v 1 ≤ 32 := iu_6.fi v 1 0 (big_lt hv) hv
  have q_10 : (-1) ≤ u_6.1 v 2 ∧ u_6.1 v 2 ≤ 1 := iu_6.fi v 2 0 (big_lt hv) hv
  exact sVret Cx hr hlk hW hL ⟨iu_6, F_8, (by omega)⟩ dX2_denominator_14

set_option maxRecDepth 100000 in
set_option maxHeartbeats 4000000 in
theorem s_X2_multiplier (l : Launch) (G : sG) (S : sS) {v : Nat} {i k : Int} (hI : cX G S 0 0 0) (hv : tau v = .inl 0) (hi : -1 ≤ i ∧ i ≤ 40) (hk : -2147483648 ≤ k ∧ k ≤ 2147483647) : Met l yX2_multiplier (.code yX2_multiplier cX2_multiplier 5 none :: tb) (rmk 4 0 0) (sPc G 294 S [.ref (G.2.2.1 + 135), .int (iv i), .int (iv k), .ref (G.2.2.1 + v)]) (sQv G 294 (fun u => cX G u 0 0 0 ∧ Fr S u (pB v) ∧ (u.1 v 1 ≤ 6))) 0 0 (sF G) := by
  refine sEnter (by decide) (Nat.le_of_ble_eq_true rfl) ?_
  intro p e s m args below meth c Cx hr hlk hnm hW ls hl
  have Cx : sC G p m c cX2_multiplier 5 s args RX2 := Cx
  obtain ⟨hx, hb, hml, hown, hts⟩ := id Cx.1
  have hL : sL G [] := sL_nil
  have hl : lv_has ls 5 [(0, .ref (G.2.2.1 + 135)), (1, .int (iv i)), (2, .int (iv k)), (3, .ref (G.2.2.1 + v))] := hl
  have hW0 := hW
  refine lv_aload_n hx hb dX2_multiplier_0 rfl (lv_at hl 0 rfl) ?_
  refine lv_iload_n hx hb dX2_multiplier_1 rfl (lv_at hl 2 rfl) ?_
  have q_1 : 0 ≤ S.1 135 15 ∧ S.1 135 15 ≤ 13 := hI.fi 135 15 2 (by decide) rfl
  refine sBi (sV (As := [.int (iv k)]) (rest := []) (k := 135) Cx (s_X2_placeOf l G S (k := k) hI (by omega)) (c_X2_118 Cx rfl rfl (rmk_ok (by omega) (by decide))) hW (by decide) rfl rfl rfl hl.1 rfl (Nat.le_of_ble_eq_true rfl) dX2_multiplier_2 ⟨Nat.le_of_ble_eq_true rfl, Nat.le_of_ble_eq_true rfl⟩) hL (fun r_4 u_2 H locs k_3 hW hL => ?_)
  obtain ⟨eu_2, xu_2⟩ := k_3
  rw [eu_2] at hW
  refine lv_istore (lv' := [(4, .int (iv r_4)), (0, .ref (G.2.2.1 + 135)), (1, .int (iv i)), (2, .int (iv k)), (3, .ref (G.2.2.1 + v))]) hx hb dX2_multiplier_5 hl (by decide) rfl (fun ls hl => ?_)
  refine lv_iload hx hb dX2_multiplier_7 (lv_at hl 0 rfl) ?_
  refine r_if_le (tgt := 29) hx hb ⟨(by omega), (by omega)⟩ dX2_multiplier_9 (by decide) (fun c_5 => ?_) (fun c_5 => ?_)
  · refine lv_iload_n hx hb dX2_multiplier_29 rfl (lv_at hl 2 rfl) ?_
    refine lv_iconst (v := iv 1) hx hb dX2_multiplier_30 (by decide) ?_
    refine r_icmp_lt (tgt := 52) hx hb ⟨(by omega), (by omega)⟩ ⟨(by omega), (by omega)⟩ dX2_multiplier_31 (by decide) (fun c_6 => ?_) (fun c_6 => ?_)
    · refine lv_aload_n hx hb dX2_multiplier_52 rfl (lv_at hl 4 rfl) ?_
      refine lv_lconst (v := jv 0) hx hb dX2_multiplier_53 (by decide) ?_
      refine sBv (sV (As := [.long (jv 0)]) (rest := []) (k := v) Cx (s_X0_put l G S (o := v) (v := 0) hI hv (by omega)) (c_X2_124 Cx rfl rfl (rmk_ok (by omega) (by decide))) hW (big_l hv) hv rfl rfl hl.1 rfl (Nat.le_of_ble_eq_true rfl) dX2_multiplier_54 ⟨Nat.le_of_ble_eq_true rfl, Nat.le_of_ble_eq_true rfl⟩) hL (fun u_7 H locs k_8 hW hL => ?_)
      obtain ⟨iu_7, fu_7, xu_7⟩ := k_8
      have F_9 := (Fr.rf : Fr S S (pB v)).trans fu_7
      have q_10 : 0 ≤ u_7.1 v 1 ∧ u_7.1 v 1 ≤ 32 := iu_7.fi v 1 0 (big_lt hv) hv
      exact sVret Cx hr hlk hW hL ⟨iu_7, F_9, (by omega)⟩ dX2_multiplier_57
    · refine lv_aload_n hx hb dX2_multiplier_34 rfl (lv_at hl 1 rfl) ?_
      refine g_X2_20 Cx hW (k := 135) (by decide) rfl (v := .ref (G.2.2.1 + 138)) (rf_135_2 hI) dX2_multiplier_35 ?_
      refine lv_iload_n hx hb dX2_multiplier_38 rfl (lv_at hl 2 rfl) ?_
      refine rIald Cx hW (k := 138) (by decide) rfl (by decide) (by omega) (by omega) dX2_multiplier_39 ?_
      have q_11 : (-2147483648) ≤ S.2.1 138 i ∧ S.2.1 138 i ≤ 2147483647 := hI.ai 138 i (by decide)
      refine r_i (b := S.2.1 138 i) rfl ?_
      refine lv_iload_n hx hb dX2_multiplier_40 rfl (lv_at hl 3 rfl) ?_
      refine r_icmp_ne (tgt := 52) hx hb ⟨(by omega), (by omega)⟩ ⟨(by omega), (by omega)⟩ dX2_multiplier_41 (by decide) (fun c_12 => ?_) (fun c_12 => ?_)
      · refine lv_aload_n hx hb dX2_multiplier_52 rfl (lv_at hl 4 rfl) ?_
        refine lv_lconst (v := jv 0) hx hb dX2_multiplier_53 (by decide) ?_
        refine sBv (sV (As := [.long (jv 0)]) (rest := []) (k := v) Cx (s_X0_put l G S (o := v) (v := 0) hI hv (by omega)) (c_X2_124 Cx rfl rfl (rmk_ok (by omega) (by decide))) hW (big_l hv) hv rfl rfl hl.1 rfl (Nat.le_of_ble_eq_true rfl) dX2_multiplier_54 ⟨Nat.le_of_ble_eq_true rfl, Nat.le_of_ble_eq_true rfl⟩) hL (fun u_13 H locs k_14 hW hL => ?_)
        obtain ⟨iu_13, fu_13, xu_13⟩ := k_14
        have F_15 := (Fr.rf : Fr S S (pB v)).trans fu_13
        have q_16 : 0 ≤ u_13.1 v 1 ∧ u_13.1 v 1 ≤ 32 := iu_13.fi v 1 0 (big_lt hv) hv
        exact sVret Cx hr hlk hW hL ⟨iu_13, F_15, (by omega)⟩ dX2_multiplier_57
      · refine lv_aload_n hx hb dX2_multiplier_44 rfl (lv_at hl 1 rfl) ?_
        refine lv_aload_n hx hb dX2_multiplier_45 rfl (lv_at hl 4 rfl) ?_
        refine sBv (sV (As := [.ref (G.2.2.1 + v)]) (rest := []) (k := 135) Cx (s_X2_denominator l G S (v := v) hI hv) (c_X2_121 Cx rfl rfl (rmk_ok (by omega) (by decide))) hW (by decide) rfl rfl rfl hl.1 rfl (Nat.le_of_ble_eq_true rfl) dX2_multiplier_46 ⟨Nat.le_of_ble_eq_true rfl, Nat.le_of_ble_eq_true rfl⟩) hL (fun u_17 H locs k_18 hW hL => ?_)
        obtain ⟨iu_17, fu_17, xu_17⟩ := k_18
        have F_19 := (Fr.rf : Fr S S (pB v)).trans fu_17
        refine lv_goto (tgt := 57) hx hb dX2_multiplier_49 (by decide) ?_
        have q_20 : 0 ≤ u_17.1 v 1 ∧ u_17.1 v 1 ≤ 32 := iu_17.fi v 1 0 (big_lt hv) hv
        exact sVret Cx hr hlk hW hL ⟨iu_17, F_19, (by omega)⟩ dX2_multiplier_57
  · refine lv_aload_n hx hb dX2_multiplier_12 rfl (lv_at hl 4 rfl) ?_
    refine lv_aload_n hx hb dX2_multiplier_13 rfl (lv_at hl 1 rfl) ?_
    obtain ⟨o_21, o_22, mo_21, mo_22, no_21, eo_21, eo_22⟩ := rm_135 hI
    refine g_X2_13 Cx hW (k := 135) (by decide) rfl (v := .ref (G.2.2.1 + o_21)) eo_21 dX2_multiplier_14 ?_
    refine lv_iload_n hx hb dX2_multiplier_17 rfl (lv_at hl 2 rfl) ?_
    refine lv_iload hx hb dX2_multiplier_18 (lv_at hl 0 rfl) ?_
    refine sBi (sSt (As := [.int (iv i), .int (iv r_4)]) (rest := [.ref (G.2.2.1 + o_21), .ref (G.2.2.1 + v)]) Cx (s_X2_at l G S (i := i) (j := r_4) (by omega) (by omega)) (c_X2_77 Cx rfl rfl (rmk_ok (by omega) (by decide))) hW rfl hl.1 rfl (Nat.le_of_ble_eq_true rfl) dX2_multiplier_20 ⟨Nat.le_of_ble_eq_true rfl, Nat.le_of_ble_eq_true rfl⟩) hL (fun r_25 u_23 H locs k_24 hW hL => ?_)
    obtain ⟨eu_23, xu_23⟩ := k_24
    rw [eu_23] at hW
    refine sBv (sV (As := [.ref (G.2.2.1 + o_21), .int (iv r_25)]) (rest := []) (k := v) Cx (s_X0_load l G S (o := v) (k := o_21) (a := r_25) (N := 4816) hI hv (dic_a mo_21) (by omega)) (c_X2_106 Cx rfl rfl (rmk_ok (by omega) (by decide))) hW (big_l hv) hv rfl rfl hl.1 rfl (Nat.le_of_ble_eq_true rfl) dX2_multiplier_23 ⟨Nat.le_of_ble_eq_true rfl, Nat.le_of_ble_eq_true rfl⟩) hL (fun u_26 H locs k_27 hW hL => ?_)
    obtain ⟨iu_26, fu_26, xu_26⟩ := k_27
    have F_28 := (Fr.rf : Fr S S (pB v)).trans fu_26
    have yu_26 : u_26.1 v 1 ≤ 6 := by have e := xu_26.1; rw [dic_L mo_21] at e; exact e
    refine lv_goto (tgt := 57) hx hb dX2_multiplier_26 (by decide) ?_
    have q_29 : 0 ≤ u_26.1 v 1 ∧ u_26.1 v 1 ≤ 32 := iu_26.fi v 1 0 (big_lt hv) hv
    exact sVret Cx hr hlk hW hL ⟨iu_26, F_28, (by omega)⟩ dX2_multiplier_57

set_option maxRecDepth 100000 in
set_option maxHeartbeats 4000000 in
theorem s_X2_pointNumber (l : Launch) (G : sG) (S : sS) {v : Nat} {k : Int} (hI : cX G S 0 0 0) (hv : tau v = .inl 0) (hk : -2147483648 ≤ k ∧ k ≤ 2147483647) : Met l yX2_pointNumber (.code yX2_pointNumber cX2_pointNumber 4 none :: tb) (rmk 3 0 0) (sPc G 294 S [.ref (G.2.2.1 + 135), .int (iv k), .ref (G.2.2.1 + v)]) (sQv G 294 (fun u => cX G u 0 0 0 ∧ Fr S u (pB v) ∧ (u.1 v 1 ≤ 6))) 0 0 (sF G) := by
  refine sEnter (by decide) (Nat.le_of_ble_eq_true rfl) ?_
  intro p e s m args below meth c Cx hr hlk hnm hW ls hl
  have Cx : sC G p m c cX2_pointNumber 4 s args RX2 := Cx
  obtain ⟨hx, hb, hml, hown, hts⟩ := id Cx.1
  have hL : sL G [] := sL_nil
  have hl : lv_has ls 4 [(0, .ref (G.2.2.1 + 135)), (1, .int (iv k)), (2, .ref (G.2.2.1 + v))] := hl
  have hW0 := hW
  refine lv_aload_n hx hb dX2_pointNumber_0 rfl (lv_at hl 0 rfl) ?_
  refine lv_iload_n hx hb dX2_pointNumber_1 rfl (lv_at hl 1 rfl) ?_
  have q_1 : 0 ≤ S.1 135 14 ∧ S.1 135 14 ≤ 40 := hI.fi 135 14 2 (by decide) rfl
  refine sBi (sV (As := [.int (iv k)]) (rest := []) (k := 135) Cx (s_X2_rowOf l G S (k := k) hI (by omega)) (c_X2_128 Cx rfl rfl (rmk_ok (by omega) (by decide))) hW (by decide) rfl rfl rfl hl.1 rfl (Nat.le_of_ble_eq_true rfl) dX2_pointNumber_2 ⟨Nat.le_of_ble_eq_true rfl, Nat.le_of_ble_eq_true rfl⟩) hL (fun r_4 u_2 H locs k_3 hW hL => ?_)
  obtain ⟨eu_2, xu_2⟩ := k_3
  rw [eu_2] at hW
  refine lv_istore_n (lv' := [(3, .int (iv r_4)), (0, .ref (G.2.2.1 + 135)), (1, .int (iv k)), (2, .ref (G.2.2.1 + v))]) hx hb dX2_pointNumber_5 rfl hl (by decide) rfl (fun ls hl => ?_)
  refine lv_iload_n hx hb dX2_pointNumber_6 rfl (lv_at hl 0 rfl) ?_
  refine r_if_le (tgt := 26) hx hb ⟨(by omega), (by omega)⟩ dX2_pointNumber_7 (by decide) (fun c_5 => ?_) (fun c_5 => ?_)
  · refine lv_aload_n hx hb dX2_pointNumber_26 rfl (lv_at hl 3 rfl) ?_
    refine lv_lconst (v := jv 0) hx hb dX2_pointNumber_27 (by decide) ?_
    refine sBv (sV (As := [.long (jv 0)]) (rest := []) (k := v) Cx (s_X0_put l G S (o := v) (v := 0) hI hv (by omega)) (c_X2_124 Cx rfl rfl (rmk_ok (by omega) (by decide))) hW (big_l hv) hv rfl rfl hl.1 rfl (Nat.le_of_ble_eq_true rfl) dX2_pointNumber_28 ⟨Nat.le_of_ble_eq_true rfl, Nat.le_of_ble_eq_true rfl⟩) hL (fun u_6 H locs k_7 hW hL => ?_)
    obtain ⟨iu_6, fu_6, xu_6⟩ := k_7
    have F_8 := (Fr.rf : Fr S S (pB v)).trans fu_6
    have q_9 : 0 ≤ u_6.1 v 1 ∧ u_6.1 v 1 ≤ 32 := iu_6.fi v 1 0 (big_lt hv) hv
    exact sVret Cx hr hlk hW hL ⟨iu_6, F_8, (by omega)⟩ dX2_pointNumber_31
  · refine lv_aload_n hx hb dX2_pointNumber_10 rfl (lv_at hl 3 rfl) ?_
    refine lv_aload_n hx hb dX2_pointNumber_11 rfl (lv_at hl 1 rfl) ?_
    obtain ⟨o_10, o_11, mo_10, mo_11, no_10, eo_10, eo_11⟩ := rm_135 hI
    refine g_X2_13 Cx hW (k := 135) (by decide) rfl (v := .ref (G.2.2.1 + o_10)) eo_10 dX2_pointNumber_12 ?_
    refine lv_iload_n hx hb dX2_pointNumber_15 rfl (lv_at hl 0 rfl) ?_
    refine lv_iconst (v := iv 0) hx hb dX2_pointNumber_16 (by decide) ?_
    refine sBi (sSt (As := [.int (iv r_4), .int (iv 0)]) (rest := [.ref (G.2.2.1 + o_10), .ref (G.2.2.1 + v)]) Cx (s_X2_at l G S (i := r_4) (j := 0) (by omega) (by omega)) (c_X2_77 Cx rfl rfl (rmk_ok (by omega) (by decide))) hW rfl hl.1 rfl (Nat.le_of_ble_eq_true rfl) dX2_pointNumber_17 ⟨Nat.le_of_ble_eq_true rfl, Nat.le_of_ble_eq_true rfl⟩) hL (fun r_14 u_12 H locs k_13 hW hL => ?_)
    obtain ⟨eu_12, xu_12⟩ := k_13
    rw [eu_12] at hW
    refine sBv (sV (As := [.ref (G.2.2.1 + o_10), .int (iv r_14)]) (rest := []) (k := v) Cx (s_X0_load l G S (o := v) (k := o_10) (a := r_14) (N := 4816) hI hv (dic_a mo_10) (by omega)) (c_X2_106 Cx rfl rfl (rmk_ok (by omega) (by decide))) hW (big_l hv) hv rfl rfl hl.1 rfl (Nat.le_of_ble_eq_true rfl) dX2_pointNumber_20 ⟨Nat.le_of_ble_eq_true rfl, Nat.le_of_ble_eq_true rfl⟩) hL (fun u_15 H locs k_16 hW hL => ?_)
    obtain ⟨iu_15, fu_15, xu_15⟩ := k_16
    have F_17 := (Fr.rf : Fr S S (pB v)).trans fu_15
    have yu_15 : u_15.1 v 1 ≤ 6 := by have e := xu_15.1; rw [dic_L mo_10] at e; exact e
    refine lv_goto (tgt := 31) hx hb dX2_pointNumber_23 (by decide) ?_
    have q_18 : 0 ≤ u_15.1 v 1 ∧ u_15.1 v 1 ≤ 32 := iu_15.fi v 1 0 (big_lt hv) hv
    exact sVret Cx hr hlk hW hL ⟨iu_15, F_17, (by omega)⟩ dX2_pointNumber_31

set_option maxRecDepth 100000 in
set_option maxHeartbeats 4000000 in
theorem s_X2_rayNumber (l : Launch) (G : sG) (S : sS) {v : Nat} {k : Int} (hI : cX G S 0 0 0) (hv : tau v = .inl 0) (hk : -2147483648 ≤ k ∧ k ≤ 2147483647) (hcol : 1 ≤ S.1 135 18) : Met l yX2_rayNumber (.code yX2_rayNumber cX2_rayNumber 4 none :: tb) (rmk 4 0 0) (sPc G 294 S [.ref (G.2.2.1 + 135), .int (iv k), .ref (G.2.2.1 + v)]) (sQv G 294 (fun u => cX G u 0 0 0 ∧ Fr S u (pB v) ∧ (u.1 v 1 ≤ 6))) 0 0 (sF G) := by
  refine sEnter (by decide) (Nat.le_of_ble_eq_true rfl) ?_
  intro p e s m args below meth c Cx hr hlk hnm hW ls hl
  have Cx : sC G p m c cX2_rayNumber 4 s args RX2 := Cx
  obtain ⟨hx, hb, hml, hown, hts⟩ := id Cx.1
  have hL : sL G [] := sL_nil
  have hl : lv_has ls 4 [(0, .ref (G.2.2.1 + 135)), (1, .int (iv k)), (2, .ref (G.2.2.1 + v))] := hl
  have hW0 := hW
  refine lv_aload_n hx hb dX2_rayNumber_0 rfl (lv_at hl 0 rfl) ?_
  refine lv_iload_n hx hb dX2_rayNumber_1 rfl (lv_at hl 1 rfl) ?_
  have q_1 : 0 ≤ S.1 135 14 ∧ S.1 135 14 ≤ 40 := hI.fi 135 14 2 (by decide) rfl
  refine sBi (sV (As := [.int (iv k)]) (rest := []) (k := 135) Cx (s_X2_rowOf l G S (k := k) hI (by omega)) (c_X2_128 Cx rfl rfl (rmk_ok (by omega) (by decide))) hW (by decide) rfl rfl rfl hl.1 rfl (Nat.le_of_ble_eq_true rfl) dX2_rayNumber_2 ⟨Nat.le_of_ble_eq_true rfl, Nat.le_of_ble_eq_true rfl⟩) hL (fun r_4 u_2 H locs k_3 hW hL => ?_)
  obtain ⟨eu_2, xu_2⟩ := k_3
  rw [eu_2] at hW
  refine lv_istore_n (lv' := [(3, .int (iv r_4)), (0, .ref (G.2.2.1 + 135)), (1, .int (iv k)), (2, .ref (G.2.2.1 + v))]) hx hb dX2_rayNumber_5 rfl hl (by decide) rfl (fun ls hl => ?_)
  refine lv_iload_n hx hb dX2_rayNumber_6 rfl (lv_at hl 0 rfl) ?_
  refine r_if_le (tgt := 33) hx hb ⟨(by omega), (by omega)⟩ dX2_rayNumber_7 (by decide) (fun c_5 => ?_) (fun c_5 => ?_)
  · refine lv_aload_n hx hb dX2_rayNumber_33 rfl (lv_at hl 1 rfl) ?_
    refine g_X2_23 Cx hW (k := 135) (by decide) rfl (v := .ref (G.2.2.1 + 139)) (rf_135_3 hI) dX2_rayNumber_34 ?_
    refine lv_aload_n hx hb dX2_rayNumber_37 rfl (lv_at hl 1 rfl) ?_
    have q_6 : (-1) ≤ S.1 135 18 ∧ S.1 135 18 ≤ 13 := hI.fi 135 18 2 (by decide) rfl
    refine g_X2_131 Cx hW (k := 135) (by decide) rfl (v := S.1 135 18) rfl dX2_rayNumber_38 ?_
    refine rIald Cx hW (k := 139) (by decide) rfl (by decide) (by omega) (by omega) dX2_rayNumber_41 ?_
    have q_7 : (-2147483648) ≤ S.2.1 139 (S.1 135 18) ∧ S.2.1 139 (S.1 135 18) ≤ 2147483647 := hI.ai 139 (S.1 135 18) (by decide)
    refine r_i (b := S.2.1 139 (S.1 135 18)) rfl ?_
    refine lv_iload_n hx hb dX2_rayNumber_42 rfl (lv_at hl 2 rfl) ?_
    refine r_icmp_ne (tgt := 54) hx hb ⟨(by omega), (by omega)⟩ ⟨(by omega), (by omega)⟩ dX2_rayNumber_43 (by decide) (fun c_8 => ?_) (fun c_8 => ?_)
    · refine lv_aload_n hx hb dX2_rayNumber_54 rfl (lv_at hl 3 rfl) ?_
      refine lv_lconst (v := jv 0) hx hb dX2_rayNumber_55 (by decide) ?_
      refine sBv (sV (As := [.long (jv 0)]) (rest := []) (k := v) Cx (s_X0_put l G S (o := v) (v := 0) hI hv (by omega)) (c_X2_124 Cx rfl rfl (rmk_ok (by omega) (by decide))) hW (big_l hv) hv rfl rfl hl.1 rfl (Nat.le_of_ble_eq_true rfl) dX2_rayNumber_56 ⟨Nat.le_of_ble_eq_true rfl, Nat.le_of_ble_eq_true rfl⟩) hL (fun u_9 H locs k_10 hW hL => ?_)
      obtain ⟨iu_9, fu_9, xu_9⟩ := k_10
      have F_11 := (Fr.rf : Fr S S (pB v)).trans fu_9
      have q_12 : 0 ≤ u_9.1 v 1 ∧ u_9.1 v 1 ≤ 32 := iu_9.fi v 1 0 (big_lt hv) hv
      exact sVret Cx hr hlk hW hL ⟨iu_9, F_11, (by omega)⟩ dX2_rayNumber_59
    · refine lv_aload_n hx hb dX2_rayNumber_46 rfl (lv_at hl 1 rfl) ?_
      refine lv_aload_n hx hb dX2_rayNumber_47 rfl (lv_at hl 3 rfl) ?_
      refine sBv (sV (As := [.ref (G.2.2.1 + v)]) (rest := []) (k := 135) Cx (s_X2_denominator l G S (v := v) hI hv) (c_X2_121 Cx rfl rfl (rmk_ok (by omega) (by decide))) hW (by decide) rfl rfl rfl hl.1 rfl (Nat.le_of_ble_eq_true rfl) dX2_rayNumber_48 ⟨Nat.le_of_ble_eq_true rfl, Nat.le_of_ble_eq_true rfl⟩) hL (fun u_13 H locs k_14 hW hL => ?_)
      obtain ⟨iu_13, fu_13, xu_13⟩ := k_14
      have F_15 := (Fr.rf : Fr S S (pB v)).trans fu_13
      refine lv_goto (tgt := 59) hx hb dX2_rayNumber_51 (by decide) ?_
      have q_16 : 0 ≤ u_13.1 v 1 ∧ u_13.1 v 1 ≤ 32 := iu_13.fi v 1 0 (big_lt hv) hv
      exact sVret Cx hr hlk hW hL ⟨iu_13, F_15, (by omega)⟩ dX2_rayNumber_59
  · refine lv_aload_n hx hb dX2_rayNumber_10 rfl (lv_at hl 3 rfl) ?_
    refine lv_aload_n hx hb dX2_rayNumber_11 rfl (lv_at hl 1 rfl) ?_
    obtain ⟨o_17, o_18, mo_17, mo_18, no_17, eo_17, eo_18⟩ := rm_135 hI
    refine g_X2_13 Cx hW (k := 135) (by decide) rfl (v := .ref (G.2.2.1 + o_17)) eo_17 dX2_rayNumber_12 ?_
    refine lv_iload_n hx hb dX2_rayNumber_15 rfl (lv_at hl 0 rfl) ?_
    refine lv_aload_n hx hb dX2_rayNumber_16 rfl (lv_at hl 1 rfl) ?_
    have q_19 : (-1) ≤ S.1 135 18 ∧ S.1 135 18 ≤ 13 := hI.fi 135 18 2 (by decide) rfl
    refine g_X2_131 Cx hW (k := 135) (by decide) rfl (v := S.1 135 18) rfl dX2_rayNumber_17 ?_
    refine sBi (sSt (As := [.int (iv r_4), .int (iv (S.1 135 18))]) (rest := [.ref (G.2.2.1 + o_17), .ref (G.2.2.1 + v)]) Cx (s_X2_at l G S (i := r_4) (j := S.1 135 18) (by omega) (by omega)) (c_X2_77 Cx rfl rfl (rmk_ok (by omega) (by decide))) hW rfl hl.1 rfl (Nat.le_of_ble_eq_true rfl) dX2_rayNumber_20 ⟨Nat.le_of_ble_eq_true rfl, Nat.le_of_ble_eq_true rfl⟩) hL (fun r_22 u_20 H locs k_21 hW hL => ?_)
    obtain ⟨eu_20, xu_20⟩ := k_21
    rw [eu_20] at hW
    refine sBv (sV (As := [.ref (G.2.2.1 + o_17), .int (iv r_22)]) (rest := []) (k := v) Cx (s_X0_load l G S (o := v) (k := o_17) (a := r_22) (N := 4816) hI hv (dic_a mo_17) (by omega)) (c_X2_106 Cx rfl rfl (rmk_ok (by omega) (by decide))) hW (big_l hv) hv rfl rfl hl.1 rfl (Nat.le_of_ble_eq_true rfl) dX2_rayNumber_23 ⟨Nat.le_of_ble_eq_true rfl, Nat.le_of_ble_eq_true rfl⟩) hL (fun u_23 H locs k_24 hW hL => ?_)
    obtain ⟨iu_23, fu_23, xu_23⟩ := k_24
    have F_25 := (Fr.rf : Fr S S (pB v)).trans fu_23
    have yu_23 : u_23.1 v 1 ≤ 6 := by have e := xu_23.1; rw [dic_L mo_17] at e; exact e
    refine lv_aload_n hx hb dX2_rayNumber_26 rfl (lv_at hl 3 rfl) ?_
    have q_26 : 0 ≤ u_23.1 v 1 ∧ u_23.1 v 1 ≤ 32 := iu_23.fi v 1 0 (big_lt hv) hv
    have q_27 : (-1) ≤ u_23.1 v 2 ∧ u_23.1 v 2 ≤ 1 := iu_23.fi v 2 0 (big_lt hv) hv
    refine sBv (sV (As := []) (rest := []) (k := v) Cx (s_X0_turn l G u_23 (o := v) iu_23 hv) (c_X2_134 Cx rfl rfl (rmk_ok (by omega) (by decide))) hW (big_l hv) hv rfl rfl hl.1 rfl (Nat.le_of_ble_eq_true rfl) dX2_rayNumber_27 ⟨Nat.le_of_ble_eq_true rfl, Nat.le_of_ble_eq_true rfl⟩) hL (fun u_28 H locs k_29 hW hL => ?_)
    obtain ⟨iu_28, fu_28, xu_28⟩ := k_29
    have F_30 := F_25.trans fu_28
    refine lv_goto (tgt := 59) hx hb dX2_rayNumber_30 (by decide) ?_
    have q_31 : 0 ≤ u_28.1 v 1 ∧ u_28.1 v 1 ≤ 32 := iu_28.fi v 1 0 (big_lt hv) hv
    exact sVret Cx hr hlk hW hL ⟨iu_28, F_30, (by omega)⟩ dX2_rayNumber_59

set_option maxRecDepth 100000 in
set_option maxHeartbeats 4000000 in
theorem s_X2_needsHelper (l : Launch) (G : sG) (S : sS)  (hI : cX G S 0 0 0) : Met l yX2_needsHelper (.code yX2_needsHelper cX2_needsHelper 2 (some .boolean) :: tb) (rmk 3 0 0) (sPc G 294 S [.ref (G.2.2.1 + 135)]) (sQi G 294 (fun r u => u = S ∧ (0 ≤ r ∧ r ≤ 1))) 0 0 (sF G) := by
  refine sEnter (by decide) (Nat.le_of_ble_eq_true rfl) ?_
  intro p e s m args below meth c Cx hr hlk hnm hW ls hl
  have Cx : sC G p m c cX2_needsHelper 2 s args RX2 := Cx
  obtain ⟨hx, hb, hml, hown, hts⟩ := id Cx.1
  have hL : sL G [] := sL_nil
  have hl : lv_has ls 2 [(0, .ref (G.2.2.1 + 135))] := hl
  have hW0 := hW
  refine lv_iconst (v := iv 1) hx hb dX2_needsHelper_0 (by decide) ?_
  refine lv_istore_n (lv' := [(1, .int (iv 1)), (0, .ref (G.2.2.1 + 135))]) hx hb dX2_needsHelper_1 rfl hl (by decide) rfl (fun ls hl => ?_)
  have loop_2 : ∀ (fuel : Nat) (i : Int) (H : Heap) (locs : List Loc) (ls : Array Slot), (41 - i).toNat < fuel → (1 ≤ i ∧ i ≤ 41) → sW G 294 S H → sL G locs → lv_has ls 2 [(1, .int (iv i)), (0, .ref (G.2.2.1 + 135))] → W p l e (rmk 3 0 0) s m args below meth c H locs 0 0 (MQ below (sQi G 294 (fun r u => u = S ∧ (0 ≤ r ∧ r ≤ 1))) args s 0 0 (sF G)) (F0 m 2 ls []) := by
    intro fuel
    induction fuel with
    | zero => intro i H locs ls hmeas hi hW hL hl; exact absurd hmeas (Nat.not_lt_zero _)
    | succ fuel ih_2 =>
      intro i H locs ls hmeas hi hW hL hl
      refine lv_iload_n hx hb dX2_needsHelper_2 rfl (lv_at hl 0 rfl) ?_
      refine lv_aload_n hx hb dX2_needsHelper_3 rfl (lv_at hl 1 rfl) ?_
      have q_1 : 0 ≤ S.1 135 14 ∧ S.1 135 14 ≤ 40 := hI.fi 135 14 2 (by decide) rfl
      refine g_X2_66 Cx hW (k := 135) (by decide) rfl (v := S.1 135 14) rfl dX2_needsHelper_4 ?_
      refine r_icmp_gt (tgt := 27) hx hb ⟨(by omega), (by omega)⟩ ⟨(by omega), (by omega)⟩ dX2_needsHelper_7 (by decide) (fun c_2 => ?_) (fun c_2 => ?_)
      · refine lv_iconst (v := iv 0) hx hb dX2_needsHelper_27 (by decide) ?_
        exact sZret Cx hr hlk hW hL (by omega) ⟨rfl, (by omega)⟩ dX2_needsHelper_28
      · refine lv_aload_n hx hb dX2_needsHelper_10 rfl (lv_at hl 1 rfl) ?_
        refine lv_iload_n hx hb dX2_needsHelper_11 rfl (lv_at hl 0 rfl) ?_
        refine lv_iconst (v := iv 0) hx hb dX2_needsHelper_12 (by decide) ?_
        refine sBi (sV (As := [.int (iv i), .int (iv 0)]) (rest := []) (k := 135) Cx (s_X2_sign l G S (i := i) (j := 0) hI (by omega) (by omega)) (c_X2_95 Cx rfl rfl (rmk_ok (by omega) (by decide))) hW (by decide) rfl rfl rfl hl.1 rfl (Nat.le_of_ble_eq_true rfl) dX2_needsHelper_13 ⟨Nat.le_of_ble_eq_true rfl, Nat.le_of_ble_eq_true rfl⟩) hL (fun r_5 u_3 H locs k_4 hW hL => ?_)
        obtain ⟨eu_3, xu_3⟩ := k_4
        rw [eu_3] at hW
        refine r_if_ge (tgt := 21) hx hb ⟨(by omega), (by omega)⟩ dX2_needsHelper_16 (by decide) (fun c_6 => ?_) (fun c_6 => ?_)
        · refine lv_iinc (v := iv (i + 1)) (lv' := [(1, .int (iv (i + 1))), (0, .ref (G.2.2.1 + 135))]) hx hb dX2_needsHelper_21 hl (k := 0) rfl ((Int32.ofInt_add _ _).symm) (by decide) rfl (fun ls hl => ?_)
          refine lv_goto (tgt := 2) hx hb dX2_needsHelper_24 (by decide) ?_
          exact ih_2 (i + 1) _ _ _ (by omega) (by omega) hW hL (lv_sub hl [0, 1] rfl)
        · refine lv_iconst (v := iv 1) hx hb dX2_needsHelper_19 (by decide) ?_
          exact sZret Cx hr hlk hW hL (by omega) ⟨rfl, (by omega)⟩ dX2_needsHelper_20
  exact loop_2 (_ + 1) 1 _ _ _ (Nat.lt_succ_self _) (by omega) hW hL (lv_sub hl [0, 1] rfl)

set_option maxRecDepth 100000 in
set_option maxHeartbeats 4000000 in
theorem s_X2_addHelper (l : Launch) (G : sG) (S : sS)  (hI : cX G S 0 0 0) (hpl : S.1 135 15 ≤ 12) : Met l yX2_addHelper (.code yX2_addHelper cX2_addHelper 2 none :: tb) (rmk 3 0 0) (sPc G 294 S [.ref (G.2.2.1 + 135)]) (sQv G 294 (fun u => cX G u 0 0 0 ∧ Fr S u pX)) 0 0 (sF G) := by
  refine sEnter (by decide) (Nat.le_of_ble_eq_true rfl) ?_
  intro p e s m args below meth c Cx hr hlk hnm hW ls hl
  have Cx : sC G p m c cX2_addHelper 2 s args RX2 := Cx
  obtain ⟨hx, hb, hml, hown, hts⟩ := id Cx.1
  have hL : sL G [] := sL_nil
  have hl : lv_has ls 2 [(0, .ref (G.2.2.1 + 135))] := hl
  have hW0 := hW
  refine lv_aload_n hx hb dX2_addHelper_0 rfl (lv_at hl 0 rfl) ?_
  refine lv_iconst (v := iv 1) hx hb dX2_addHelper_1 (by decide) ?_
  refine p_X2_70 Cx hW hL (k := 135) (by decide) rfl (by omega) dX2_addHelper_2 (fun H locs hW hL => ?_)
  have F_1 : Fr S (uF S 135 16 1) pX := (Fr.rf : Fr S S pX).F rfl
  have i_2 : cX G (uF S 135 16 1) 0 0 0 := hI.F rfl rfl (show 0 ≤ 1 ∧ 1 ≤ 1 from ⟨by omega, by omega⟩)
  refine lv_aload_n hx hb dX2_addHelper_5 rfl (lv_at hl 0 rfl) ?_
  refine lv_dup hx hb dX2_addHelper_6 rfl ?_
  have q_3 : 0 ≤ S.1 135 15 ∧ S.1 135 15 ≤ 13 := hI.fi 135 15 2 (by decide) rfl
  refine g_X2_67 Cx hW (k := 135) (by decide) rfl (v := S.1 135 15) (uF_ne (fun h => absurd h.2 (by decide))) dX2_addHelper_7 ?_
  refine lv_iconst (v := iv 1) hx hb dX2_addHelper_10 (by decide) ?_
  refine r_iadd hx hb dX2_addHelper_11 ?_
  refine p_X2_67 Cx hW hL (k := 135) (by decide) rfl dX2_addHelper_12 (fun H locs hW hL => ?_)
  have F_4 : Fr S (uF (uF S 135 16 1) 135 15 ((S.1 135 15) + 1)) pX := F_1.F rfl
  have i_5 : cX G (uF (uF S 135 16 1) 135 15 ((S.1 135 15) + 1)) 0 0 0 := i_2.F rfl rfl (show 0 ≤ (S.1 135 15) + 1 ∧ (S.1 135 15) + 1 ≤ 13 from ⟨by omega, by omega⟩)
  refine lv_aload_n hx hb dX2_addHelper_15 rfl (lv_at hl 0 rfl) ?_
  refine g_X2_23 Cx hW (k := 135) (by decide) rfl (v := .ref (G.2.2.1 + 139)) (rf_135_3 i_5) dX2_addHelper_16 ?_
  refine lv_aload_n hx hb dX2_addHelper_19 rfl (lv_at hl 0 rfl) ?_
  refine g_X2_67 Cx hW (k := 135) (by decide) rfl (v := (S.1 135 15) + 1) uF_on dX2_addHelper_20 ?_
  refine lv_iconst (v := iv 0) hx hb dX2_addHelper_23 (by decide) ?_
  refine rIast Cx hW hL (k := 139) (by decide) rfl (by decide) (by omega) (by omega) dX2_addHelper_24 (fun H locs hW hL => ?_)
  have F_6 : Fr S (uA (uF (uF S 135 16 1) 135 15 ((S.1 135 15) + 1)) 139 ((S.1 135 15) + 1) 0) pX := F_4.A rfl
  have i_7 : cX G (uA (uF (uF S 135 16 1) 135 15 ((S.1 135 15) + 1)) 139 ((S.1 135 15) + 1) 0) 0 0 0 := i_5.A (by decide) (by decide) (by decide) (show (-2147483648) ≤ 0 ∧ 0 ≤ 2147483647 from ⟨by omega, by omega⟩)
  refine lv_iconst (v := iv 0) hx hb dX2_addHelper_25 (by decide) ?_
  refine lv_istore_n (lv' := [(1, .int (iv 0)), (0, .ref (G.2.2.1 + 135))]) hx hb dX2_addHelper_26 rfl hl (by decide) rfl (fun ls hl => ?_)
  have loop_27 : ∀ (fuel : Nat) (S27 : sS) (j : Int) (H : Heap) (locs : List Loc) (ls : Array Slot), (13 - j).toNat < fuel → (cX G S27 0 0 0) → (Fr S S27 pX) → (Fr ((uA (uF (uF S 135 16 1) 135 15 ((S.1 135 15) + 1)) 139 ((S.1 135 15) + 1) 0)) S27 pN) → (0 ≤ j ∧ j ≤ 13) → sW G 294 S27 H → sL G locs → lv_has ls 2 [(1, .int (iv j)), (0, .ref (G.2.2.1 + 135))] → W p l e (rmk 3 0 0) s m args below meth c H locs 0 0 (MQ below (sQv G 294 (fun u => cX G u 0 0 0 ∧ Fr S u pX)) args s 0 0 (sF G)) (F0 m 27 ls []) := by
    intro fuel
    induction fuel with
    | zero => intro S27 j H locs ls hmeas hI27 hFm27 hL27_ hj hW hL hl; exact absurd hmeas (Nat.not_lt_zero _)
    | succ fuel ih_27 =>
      intro S27 j H locs ls hmeas hI27 hFm27 hL27_ hj hW hL hl
      refine lv_iload_n hx hb dX2_addHelper_27 rfl (lv_at hl 0 rfl) ?_
      refine lv_aload_n hx hb dX2_addHelper_28 rfl (lv_at hl 1 rfl) ?_
      refine g_X2_67 Cx hW (k := 135) (by decide) rfl (v := (S.1 135 15) + 1) (((hL27_ 135 rfl).1 15).trans ((uA_f).trans (uF_on))) dX2_addHelper_29 ?_
      refine r_icmp_ge (tgt := 54) hx hb ⟨(by omega), (by omega)⟩ ⟨(by omega), (by omega)⟩ dX2_addHelper_32 (by decide) (fun c_8 => ?_) (fun c_8 => ?_)
      · refine lv_aload_n hx hb dX2_addHelper_54 rfl (lv_at hl 1 rfl) ?_
        obtain ⟨o_9, o_10, mo_9, mo_10, no_9, eo_9, eo_10⟩ := rm_135 hI
        refine g_X2_13 Cx hW (k := 135) (by decide) rfl (v := .ref (G.2.2.1 + o_9)) ((((hL27_ 135 rfl).2.2.2 0).trans ((uA_r).trans ((uF_r).trans (uF_r)))).trans eo_9) dX2_addHelper_55 ?_
        refine lv_iconst (v := iv (-1)) hx hb dX2_addHelper_58 (by decide) ?_
        refine lv_aload_n hx hb dX2_addHelper_59 rfl (lv_at hl 1 rfl) ?_
        refine g_X2_67 Cx hW (k := 135) (by decide) rfl (v := (S.1 135 15) + 1) (((hL27_ 135 rfl).1 15).trans ((uA_f).trans (uF_on))) dX2_addHelper_60 ?_
        refine sBi (sSt (As := [.int (iv ((-1))), .int (iv ((S.1 135 15) + 1))]) (rest := [.ref (G.2.2.1 + o_9)]) Cx (s_X2_at l G S27 (i := (-1)) (j := (S.1 135 15) + 1) (by omega) (by omega)) (c_X2_77 Cx rfl rfl (rmk_ok (by omega) (by decide))) hW rfl hl.1 rfl (Nat.le_of_ble_eq_true rfl) dX2_addHelper_63 ⟨Nat.le_of_ble_eq_true rfl, Nat.le_of_ble_eq_true rfl⟩) hL (fun r_13 u_11 H locs k_12 hW hL => ?_)
        obtain ⟨eu_11, xu_11⟩ := k_12
        rw [eu_11] at hW
        refine lv_lconst (v := jv 1) hx hb dX2_addHelper_66 (by decide) ?_
        refine sBv (sSt (As := [.ref (G.2.2.1 + o_9), .int (iv r_13), .long (jv 1)]) (rest := []) Cx (s_X0_store l G S27 (k := o_9) (a := r_13) (v := 1) (N := 4816) hI27 (dic_a mo_9) (by omega) (by omega) (fun _ q => by exfalso; omega)) (c_X2_81 Cx rfl rfl (rmk_ok (by omega) (by decide))) hW rfl hl.1 rfl (Nat.le_of_ble_eq_true rfl) dX2_addHelper_67 ⟨Nat.le_of_ble_eq_true rfl, Nat.le_of_ble_eq_true rfl⟩) hL (fun u_14 H locs k_15 hW hL => ?_)
        obtain ⟨iu_14, fu_14⟩ := k_15
        have F_16 := hFm27.trans (fu_14.to (p1_sub ((fun k h => pF_X k (pZ_F k h)) _ (dic_z mo_9))))
        have F_17 := hL27_.trans (fu_14.to (p1_sub (dic_p mo_9)))
        refine lv_aload_n hx hb dX2_addHelper_70 rfl (lv_at hl 1 rfl) ?_
        refine g_X2_13 Cx hW (k := 135) (by decide) rfl (v := .ref (G.2.2.1 + o_9)) ((((fu_14 135 (p1_no (tau_ne (rfl : tau 135 = .inl 2) (dic_t mo_9) (fun h => by cases h)))).2.2.2 0).trans (((hL27_ 135 rfl).2.2.2 0).trans ((uA_r).trans ((uF_r).trans (uF_r))))).trans eo_9) dX2_addHelper_71 ?_
        refine lv_iconst (v := iv 0) hx hb dX2_addHelper_74 (by decide) ?_
        refine lv_aload_n hx hb dX2_addHelper_75 rfl (lv_at hl 1 rfl) ?_
        refine g_X2_67 Cx hW (k := 135) (by decide) rfl (v := (S.1 135 15) + 1) (((fu_14 135 (p1_no (tau_ne (rfl : tau 135 = .inl 2) (dic_t mo_9) (fun h => by cases h)))).1 15).trans (((hL27_ 135 rfl).1 15).trans ((uA_f).trans (uF_on)))) dX2_addHelper_76 ?_
        refine sBi (sSt (As := [.int (iv 0), .int (iv ((S.1 135 15) + 1))]) (rest := [.ref (G.2.2.1 + o_9)]) Cx (s_X2_at l G u_14 (i := 0) (j := (S.1 135 15) + 1) (by omega) (by omega)) (c_X2_77 Cx rfl rfl (rmk_ok (by omega) (by decide))) hW rfl hl.1 rfl (Nat.le_of_ble_eq_true rfl) dX2_addHelper_79 ⟨Nat.le_of_ble_eq_true rfl, Nat.le_of_ble_eq_true rfl⟩) hL (fun r_20 u_18 H locs k_19 hW hL => ?_)
        obtain ⟨eu_18, xu_18⟩ := k_19
        rw [eu_18] at hW
        refine lv_lconst (v := jv 0) hx hb dX2_addHelper_82 (by decide) ?_
        refine sBv (sSt (As := [.ref (G.2.2.1 + o_9), .int (iv r_20), .long (jv 0)]) (rest := []) Cx (s_X0_store l G u_14 (k := o_9) (a := r_20) (v := 0) (N := 4816) iu_14 (dic_a mo_9) (by omega) (by omega) (fun _ q => by exfalso; omega)) (c_X2_81 Cx rfl rfl (rmk_ok (by omega) (by decide))) hW rfl hl.1 rfl (Nat.le_of_ble_eq_true rfl) dX2_addHelper_83 ⟨Nat.le_of_ble_eq_true rfl, Nat.le_of_ble_eq_true rfl⟩) hL (fun u_21 H locs k_22 hW hL => ?_)
        obtain ⟨iu_21, fu_21⟩ := k_22
        have F_23 := F_16.trans (fu_21.to (p1_sub ((fun k h => pF_X k (pZ_F k h)) _ (dic_z mo_9))))
        have F_24 := F_17.trans (fu_21.to (p1_sub (dic_p mo_9)))
        refine lv_iconst (v := iv 1) hx hb dX2_addHelper_86 (by decide) ?_
        refine lv_istore_n (lv' := [(1, .int (iv 1)), (0, .ref (G.2.2.1 + 135))]) hx hb dX2_addHelper_87 rfl hl (by decide) rfl (fun ls hl => ?_)
        have loop_88 : ∀ (fuel : Nat) (S88 : sS) (i : Int) (H : Heap) (locs : List Loc) (ls : Array Slot), (41 - i).toNat < fuel → (cX G S88 0 0 0) → (Fr S S88 pX) → (Fr ((uA (uF (uF S 135 16 1) 135 15 ((S.1 135 15) + 1)) 139 ((S.1 135 15) + 1) 0)) S88 pN) → (Fr u_21 S88 pN) → (1 ≤ i ∧ i ≤ 41) → sW G 294 S88 H → sL G locs → lv_has ls 2 [(1, .int (iv i)), (0, .ref (G.2.2.1 + 135))] → W p l e (rmk 3 0 0) s m args below meth c H locs 0 0 (MQ below (sQv G 294 (fun u => cX G u 0 0 0 ∧ Fr S u pX)) args s 0 0 (sF G)) (F0 m 88 ls []) := by
          intro fuel
          induction fuel with
          | zero => intro S88 i H locs ls hmeas hI88 hFm88 hFL2788 hL88_ hi hW hL hl; exact absurd hmeas (Nat.not_lt_zero _)
          | succ fuel ih_88 =>
            intro S88 i H locs ls hmeas hI88 hFm88 hFL2788 hL88_ hi hW hL hl
            refine lv_iload_n hx hb dX2_addHelper_88 rfl (lv_at hl 0 rfl) ?_
            refine lv_aload_n hx hb dX2_addHelper_89 rfl (lv_at hl 1 rfl) ?_
            have q_25 : 0 ≤ S.1 135 14 ∧ S.1 135 14 ≤ 40 := hI.fi 135 14 2 (by decide) rfl
            refine g_X2_66 Cx hW (k := 135) (by decide) rfl (v := S.1 135 14) (((hL88_ 135 rfl).1 14).trans (((fu_21 135 (p1_no (tau_ne (rfl : tau 135 = .inl 2) (dic_t mo_9) (fun h => by cases h)))).1 14).trans (((fu_14 135 (p1_no (tau_ne (rfl : tau 135 = .inl 2) (dic_t mo_9) (fun h => by cases h)))).1 14).trans (((hL27_ 135 rfl).1 14).trans ((uA_f).trans ((uF_ne (fun h => absurd h.2 (by decide))).trans (uF_ne (fun h => absurd h.2 (by decide))))))))) dX2_addHelper_90 ?_
            refine r_icmp_gt (tgt := 120) hx hb ⟨(by omega), (by omega)⟩ ⟨(by omega), (by omega)⟩ dX2_addHelper_93 (by decide) (fun c_26 => ?_) (fun c_26 => ?_)
            · exact sVret Cx hr hlk hW hL ⟨hI88, hFm88⟩ dX2_addHelper_120
            · refine lv_aload_n hx hb dX2_addHelper_96 rfl (lv_at hl 1 rfl) ?_
              refine g_X2_13 Cx hW (k := 135) (by decide) rfl (v := .ref (G.2.2.1 + o_9)) ((((hL88_ 135 rfl).2.2.2 0).trans (((fu_21 135 (p1_no (tau_ne (rfl : tau 135 = .inl 2) (dic_t mo_9) (fun h => by cases h)))).2.2.2 0).trans (((fu_14 135 (p1_no (tau_ne (rfl : tau 135 = .inl 2) (dic_t mo_9) (fun h => by cases h)))).2.2.2 0).trans (((hL27_ 135 rfl).2.2.2 0).trans ((uA_r).trans ((uF_r).trans (uF_r))))))).trans eo_9) dX2_addHelper_97 ?_
              refine lv_iload_n hx hb dX2_addHelper_100 rfl (lv_at hl 0 rfl) ?_
              refine lv_aload_n hx hb dX2_addHelper_101 rfl (lv_at hl 1 rfl) ?_
              refine g_X2_67 Cx hW (k := 135) (by decide) rfl (v := (S.1 135 15) + 1) (((hL88_ 135 rfl).1 15).trans (((fu_21 135 (p1_no (tau_ne (rfl : tau 135 = .inl 2) (dic_t mo_9) (fun h => by cases h)))).1 15).trans (((fu_14 135 (p1_no (tau_ne (rfl : tau 135 = .inl 2) (dic_t mo_9) (fun h => by cases h)))).1 15).trans (((hL27_ 135 rfl).1 15).trans ((uA_f).trans (uF_on)))))) dX2_addHelper_102 ?_
              refine sBi (sSt (As := [.int (iv i), .int (iv ((S.1 135 15) + 1))]) (rest := [.ref (G.2.2.1 + o_9)]) Cx (s_X2_at l G S88 (i := i) (j := (S.1 135 15) + 1) (by omega) (by omega)) (c_X2_77 Cx rfl rfl (rmk_ok (by omega) (by decide))) hW rfl hl.1 rfl (Nat.le_of_ble_eq_true rfl) dX2_addHelper_105 ⟨Nat.le_of_ble_eq_true rfl, Nat.le_of_ble_eq_true rfl⟩) hL (fun r_29 u_27 H locs k_28 hW hL => ?_)
              obtain ⟨eu_27, xu_27⟩ := k_28
              rw [eu_27] at hW
              refine lv_ldc2 hx hb hown (hts _ w_1211) dX2_addHelper_108 ?_
              refine sBv (sSt (As := [.ref (G.2.2.1 + o_9), .int (iv r_29), .long (jv ((-1)))]) (rest := []) Cx (s_X0_store l G S88 (k := o_9) (a := r_29) (v := (-1)) (N := 4816) hI88 (dic_a mo_9) (by omega) (by omega) (fun _ q => by exfalso; omega)) (c_X2_81 Cx rfl rfl (rmk_ok (by omega) (by decide))) hW rfl hl.1 rfl (Nat.le_of_ble_eq_true rfl) dX2_addHelper_111 ⟨Nat.le_of_ble_eq_true rfl, Nat.le_of_ble_eq_true rfl⟩) hL (fun u_30 H locs k_31 hW hL => ?_)
              obtain ⟨iu_30, fu_30⟩ := k_31
              have F_32 := hFm88.trans (fu_30.to (p1_sub ((fun k h => pF_X k (pZ_F k h)) _ (dic_z mo_9))))
              have F_33 := hFL2788.trans (fu_30.to (p1_sub (dic_p mo_9)))
              have F_34 := hL88_.trans (fu_30.to (p1_sub (dic_p mo_9)))
              refine lv_iinc (v := iv (i + 1)) (lv' := [(1, .int (iv (i + 1))), (0, .ref (G.2.2.1 + 135))]) hx hb dX2_addHelper_114 hl (k := 0) rfl ((Int32.ofInt_add _ _).symm) (by decide) rfl (fun ls hl => ?_)
              refine lv_goto (tgt := 88) hx hb dX2_addHelper_117 (by decide) ?_
              exact ih_88 u_30 (i + 1) _ _ _ (by omega) iu_30 F_32 F_33 F_34 (by omega) hW hL (lv_sub hl [0, 1] rfl)
        exact loop_88 (_ + 1) u_21 1 _ _ _ (Nat.lt_succ_self _) iu_21 F_23 F_24 Fr.rf (by omega) hW hL (lv_sub hl [0, 1] rfl)
      · refine lv_aload_n hx hb dX2_addHelper_35 rfl (lv_at hl 1 rfl) ?_
        obtain ⟨o_35, o_36, mo_35, mo_36, no_35, eo_35, eo_36⟩ := rm_135 hI
        refine g_X2_13 Cx hW (k := 135) (by decide) rfl (v := .ref (G.2.2.1 + o_35)) ((((hL27_ 135 rfl).2.2.2 0).trans ((uA_r).trans ((uF_r).trans (uF_r)))).trans eo_35) dX2_addHelper_36 ?_
        refine lv_iconst (v := iv (-1)) hx hb dX2_addHelper_39 (by decide) ?_
        refine lv_iload_n hx hb dX2_addHelper_40 rfl (lv_at hl 0 rfl) ?_
        refine sBi (sSt (As := [.int (iv ((-1))), .int (iv j)]) (rest := [.ref (G.2.2.1 + o_35)]) Cx (s_X2_at l G S27 (i := (-1)) (j := j) (by omega) (by omega)) (c_X2_77 Cx rfl rfl (rmk_ok (by omega) (by decide))) hW rfl hl.1 rfl (Nat.le_of_ble_eq_true rfl) dX2_addHelper_41 ⟨Nat.le_of_ble_eq_true rfl, Nat.le_of_ble_eq_true rfl⟩) hL (fun r_39 u_37 H locs k_38 hW hL => ?_)
        obtain ⟨eu_37, xu_37⟩ := k_38
        rw [eu_37] at hW
        refine lv_lconst (v := jv 0) hx hb dX2_addHelper_44 (by decide) ?_
        refine sBv (sSt (As := [.ref (G.2.2.1 + o_35), .int (iv r_39), .long (jv 0)]) (rest := []) Cx (s_X0_store l G S27 (k := o_35) (a := r_39) (v := 0) (N := 4816) hI27 (dic_a mo_35) (by omega) (by omega) (fun _ q => by exfalso; omega)) (c_X2_81 Cx rfl rfl (rmk_ok (by omega) (by decide))) hW rfl hl.1 rfl (Nat.le_of_ble_eq_true rfl) dX2_addHelper_45 ⟨Nat.le_of_ble_eq_true rfl, Nat.le_of_ble_eq_true rfl⟩) hL (fun u_40 H locs k_41 hW hL => ?_)
        obtain ⟨iu_40, fu_40⟩ := k_41
        have F_42 := hFm27.trans (fu_40.to (p1_sub ((fun k h => pF_X k (pZ_F k h)) _ (dic_z mo_35))))
        have F_43 := hL27_.trans (fu_40.to (p1_sub (dic_p mo_35)))
        refine lv_iinc (v := iv (j + 1)) (lv' := [(1, .int (iv (j + 1))), (0, .ref (G.2.2.1 + 135))]) hx hb dX2_addHelper_48 hl (k := 0) rfl ((Int32.ofInt_add _ _).symm) (by decide) rfl (fun ls hl => ?_)
        refine lv_goto (tgt := 27) hx hb dX2_addHelper_51 (by decide) ?_
        exact ih_27 u_40 (j + 1) _ _ _ (by omega) iu_40 F_42 F_43 (by omega) hW hL (lv_sub hl [0, 1] rfl)
  exact loop_27 (_ + 1) (uA (uF (uF S 135 16 1) 135 15 ((S.1 135 15) + 1)) 139 ((S.1 135 15) + 1) 0) 0 _ _ _ (Nat.lt_succ_self _) i_7 F_6 Fr.rf (by omega) hW hL (lv_sub hl [0, 1] rfl)

set_option maxRecDepth 100000 in
set_option maxHeartbeats 4000000 in
theorem s_X2_start (l : Launch) (G : sG) (S : sS) {md : Nat} (hI : cX G S 0 0 0) (hm2 : mdl md) : Met l yX2_start (.code yX2_start cX2_start 6 none :: tb) (rmk 4 0 0) (sPc G 294 S [.ref (G.2.2.1 + 135), .ref (G.2.2.1 + md)]) (sQv G 294 (fun u => cX G u 0 0 0 ∧ Fr S u pX)) 0 0 (sF G) := by
  refine sEnter (by decide) (Nat.le_of_ble_eq_true rfl) ?_
  intro p e s m args below meth c Cx hr hlk hnm hW ls hl
  have Cx : sC G p m c cX2_start 6 s args RX2 := Cx
  obtain ⟨hx, hb, hml, hown, hts⟩ := id Cx.1
  have hL : sL G [] := sL_nil
  have hl : lv_has ls 6 [(0, .ref (G.2.2.1 + 135)), (1, .ref (G.2.2.1 + md))] := hl
  have hW0 := hW
  refine lv_aload_n hx hb dX2_start_0 rfl (lv_at hl 0 rfl) ?_
  refine lv_aload_n hx hb dX2_start_1 rfl (lv_at hl 1 rfl) ?_
  have q_1 : 0 ≤ S.1 md 2 ∧ S.1 md 2 ≤ 12 := hI.fi md 2 3 (mdl_k hm2) hm2.1
  refine g_X2_56 Cx hW (k := md) (mdl_l hm2) hm2.1 (v := S.1 md 2) rfl dX2_start_2 ?_
  refine p_X2_62 Cx hW hL (k := 135) (by decide) rfl dX2_start_5 (fun H locs hW hL => ?_)
  have F_2 : Fr S (uF S 135 13 (S.1 md 2)) pX := (Fr.rf : Fr S S pX).F rfl
  have i_3 : cX G (uF S 135 13 (S.1 md 2)) 0 0 0 := hI.F rfl rfl (show 0 ≤ S.1 md 2 ∧ S.1 md 2 ≤ 12 from ⟨by omega, by omega⟩)
  refine lv_aload_n hx hb dX2_start_8 rfl (lv_at hl 0 rfl) ?_
  refine lv_aload_n hx hb dX2_start_9 rfl (lv_at hl 1 rfl) ?_
  have q_4 : 0 ≤ S.1 md 3 ∧ S.1 md 3 ≤ 16 := hI.fi md 3 3 (mdl_k hm2) hm2.1
  refine g_X2_63 Cx hW (k := md) (mdl_l hm2) hm2.1 (v := S.1 md 3) (uF_ne (fun h => absurd h.2 (by decide))) dX2_start_10 ?_
  refine p_X2_66 Cx hW hL (k := 135) (by decide) rfl dX2_start_13 (fun H locs hW hL => ?_)
  have F_5 : Fr S (uF (uF S 135 13 (S.1 md 2)) 135 14 (S.1 md 3)) pX := F_2.F rfl
  have i_6 : cX G (uF (uF S 135 13 (S.1 md 2)) 135 14 (S.1 md 3)) 0 0 0 := i_3.F rfl rfl (show 0 ≤ S.1 md 3 ∧ S.1 md 3 ≤ 40 from ⟨by omega, by omega⟩)
  refine lv_aload_n hx hb dX2_start_16 rfl (lv_at hl 0 rfl) ?_
  refine lv_aload_n hx hb dX2_start_17 rfl (lv_at hl 0 rfl) ?_
  refine g_X2_62 Cx hW (k := 135) (by decide) rfl (v := S.1 md 2) ((uF_ne (fun h => absurd h.2 (by decide))).trans (uF_on)) dX2_start_18 ?_
  refine p_X2_67 Cx hW hL (k := 135) (by decide) rfl dX2_start_21 (fun H locs hW hL => ?_)
  have F_7 : Fr S (uF (uF (uF S 135 13 (S.1 md 2)) 135 14 (S.1 md 3)) 135 15 (S.1 md 2)) pX := F_5.F rfl
  have i_8 : cX G (uF (uF (uF S 135 13 (S.1 md 2)) 135 14 (S.1 md 3)) 135 15 (S.1 md 2)) 0 0 0 := i_6.F rfl rfl (show 0 ≤ S.1 md 2 ∧ S.1 md 2 ≤ 13 from ⟨by omega, by omega⟩)
  refine lv_aload_n hx hb dX2_start_24 rfl (lv_at hl 0 rfl) ?_
  refine lv_iconst (v := iv 0) hx hb dX2_start_25 (by decide) ?_
  refine p_X2_70 Cx hW hL (k := 135) (by decide) rfl (by omega) dX2_start_26 (fun H locs hW hL => ?_)
  have F_9 : Fr S (uF (uF (uF (uF S 135 13 (S.1 md 2)) 135 14 (S.1 md 3)) 135 15 (S.1 md 2)) 135 16 0) pX := F_7.F rfl
  have i_10 : cX G (uF (uF (uF (uF S 135 13 (S.1 md 2)) 135 14 (S.1 md 3)) 135 15 (S.1 md 2)) 135 16 0) 0 0 0 := i_8.F rfl rfl (show 0 ≤ 0 ∧ 0 ≤ 1 from ⟨by omega, by omega⟩)
  refine lv_aload_n hx hb dX2_start_29 rfl (lv_at hl 0 rfl) ?_
  refine lv_iconst (v := iv 0) hx hb dX2_start_30 (by decide) ?_
  refine p_X2_74 Cx hW hL (k := 135) (by decide) rfl dX2_start_31 (fun H locs hW hL => ?_)
  have F_11 : Fr S (uF (uF (uF (uF (uF S 135 13 (S.1 md 2)) 135 14 (S.1 md 3)) 135 15 (S.1 md 2)) 135 16 0) 135 19 0) pX := F_9.F rfl
  have i_12 : cX G (uF (uF (uF (uF (uF S 135 13 (S.1 md 2)) 135 14 (S.1 md 3)) 135 15 (S.1 md 2)) 135 16 0) 135 19 0) 0 0 0 := i_10.kend0
  refine lv_aload_n hx hb dX2_start_34 rfl (lv_at hl 0 rfl) ?_
  obtain ⟨o_13, o_14, mo_13, mo_14, no_13, eo_13, eo_14⟩ := rm_135 hI
  refine g_X2_13 Cx hW (k := 135) (by decide) rfl (v := .ref (G.2.2.1 + o_13)) (((uF_r).trans ((uF_r).trans ((uF_r).trans ((uF_r).trans (uF_r))))).trans eo_13) dX2_start_35 ?_
  refine lv_bipush (v := iv (-2)) hx hb dX2_start_38 (by decide) ?_
  refine lv_iconst (v := iv 0) hx hb dX2_start_40 (by decide) ?_
  refine sBi (sSt (As := [.int (iv ((-2))), .int (iv 0)]) (rest := [.ref (G.2.2.1 + o_13)]) Cx (s_X2_at l G (uF (uF (uF (uF (uF S 135 13 (S.1 md 2)) 135 14 (S.1 md 3)) 135 15 (S.1 md 2)) 135 16 0) 135 19 0) (i := (-2)) (j := 0) (by omega) (by omega)) (c_X2_77 Cx rfl rfl (rmk_ok (by omega) (by decide))) hW rfl hl.1 rfl (Nat.le_of_ble_eq_true rfl) dX2_start_41 ⟨Nat.le_of_ble_eq_true rfl, Nat.le_of_ble_eq_true rfl⟩) hL (fun r_17 u_15 H locs k_16 hW hL => ?_)
  obtain ⟨eu_15, xu_15⟩ := k_16
  rw [eu_15] at hW
  refine lv_lconst (v := jv 1) hx hb dX2_start_44 (by decide) ?_
  refine sBv (sSt (As := [.ref (G.2.2.1 + o_13), .int (iv r_17), .long (jv 1)]) (rest := []) Cx (s_X0_store l G (uF (uF (uF (uF (uF S 135 13 (S.1 md 2)) 135 14 (S.1 md 3)) 135 15 (S.1 md 2)) 135 16 0) 135 19 0) (k := o_13) (a := r_17) (v := 1) (N := 4816) i_12 (dic_a mo_13) (by omega) (by omega) (fun _ _ => by decide)) (c_X2_81 Cx rfl rfl (rmk_ok (by omega) (by decide))) hW rfl hl.1 rfl (Nat.le_of_ble_eq_true rfl) dX2_start_45 ⟨Nat.le_of_ble_eq_true rfl, Nat.le_of_ble_eq_true rfl⟩) hL (fun u_18 H locs k_19 hW hL => ?_)
  obtain ⟨iu_18, fu_18⟩ := k_19
  have F_20 := F_11.trans (fu_18.to (p1_sub ((fun k h => pF_X k (pZ_F k h)) _ (dic_z mo_13))))
  refine lv_iconst (v := iv 0) hx hb dX2_start_48 (by decide) ?_
  refine lv_istore_n (lv' := [(2, .int (iv 0)), (0, .ref (G.2.2.1 + 135)), (1, .ref (G.2.2.1 + md))]) hx hb dX2_start_49 rfl hl (by decide) rfl (fun ls hl => ?_)
  have loop_50 : ∀ (fuel : Nat) (S50 : sS) (i : Int) (H : Heap) (locs : List Loc) (ls : Array Slot), (17 - i).toNat < fuel → (cX G S50 0 0 0) → (Fr S S50 pX) → (Fr u_18 S50 pY) → (0 ≤ i ∧ i ≤ 17) → sW G 294 S50 H → sL G locs → lv_has ls 6 [(2, .int (iv i)), (0, .ref (G.2.2.1 + 135)), (1, .ref (G.2.2.1 + md))] → W p l e (rmk 4 0 0) s m args below meth c H locs 0 0 (MQ below (sQv G 294 (fun u => cX G u 0 0 0 ∧ Fr S u pX)) args s 0 0 (sF G)) (F0 m 50 ls []) := by
    intro fuel
    induction fuel with
    | zero => intro S50 i H locs ls hmeas hI50 hFm50 hL50_ hi hW hL hl; exact absurd hmeas (Nat.not_lt_zero _)
    | succ fuel ih_50 =>
      intro S50 i H locs ls hmeas hI50 hFm50 hL50_ hi hW hL hl
      refine lv_iload_n hx hb dX2_start_50 rfl (lv_at hl 0 rfl) ?_
      refine lv_aload_n hx hb dX2_start_51 rfl (lv_at hl 1 rfl) ?_
      refine g_X2_66 Cx hW (k := 135) (by decide) rfl (v := S.1 md 3) (((hL50_ 135 rfl).1 14).trans (((fu_18 135 (p1_no (tau_ne (rfl : tau 135 = .inl 2) (dic_t mo_13) (fun h => by cases h)))).1 14).trans ((uF_ne (fun h => absurd h.2 (by decide))).trans ((uF_ne (fun h => absurd h.2 (by decide))).trans ((uF_ne (fun h => absurd h.2 (by decide))).trans (uF_on)))))) dX2_start_52 ?_
      refine r_icmp_gt (tgt := 129) hx hb ⟨(by omega), (by omega)⟩ ⟨(by omega), (by omega)⟩ dX2_start_55 (by decide) (fun c_21 => ?_) (fun c_21 => ?_)
      · refine lv_iconst (v := iv 1) hx hb dX2_start_129 (by decide) ?_
        refine lv_istore_n (lv' := [(2, .int (iv 1)), (0, .ref (G.2.2.1 + 135)), (1, .ref (G.2.2.1 + md))]) hx hb dX2_start_130 rfl hl (by decide) rfl (fun ls hl => ?_)
        have loop_131 : ∀ (fuel : Nat) (S131 : sS) (j2 : Int) (H : Heap) (locs : List Loc) (ls : Array Slot), (13 - j2).toNat < fuel → (cX G S131 0 0 0) → (Fr S S131 pX) → (Fr u_18 S131 pY) → (Fr S50 S131 pY) → (1 ≤ j2 ∧ j2 ≤ 13) → sW G 294 S131 H → sL G locs → lv_has ls 6 [(2, .int (iv j2)), (0, .ref (G.2.2.1 + 135)), (1, .ref (G.2.2.1 + md))] → W p l e (rmk 4 0 0) s m args below meth c H locs 0 0 (MQ below (sQv G 294 (fun u => cX G u 0 0 0 ∧ Fr S u pX)) args s 0 0 (sF G)) (F0 m 131 ls []) := by
          intro fuel
          induction fuel with
          | zero => intro S131 j2 H locs ls hmeas hI131 hFm131 hFL50131 hL131_ hj2 hW hL hl; exact absurd hmeas (Nat.not_lt_zero _)
          | succ fuel ih_131 =>
            intro S131 j2 H locs ls hmeas hI131 hFm131 hFL50131 hL131_ hj2 hW hL hl
            refine lv_iload_n hx hb dX2_start_131 rfl (lv_at hl 0 rfl) ?_
            refine lv_aload_n hx hb dX2_start_132 rfl (lv_at hl 1 rfl) ?_
            refine g_X2_67 Cx hW (k := 135) (by decide) rfl (v := S.1 md 2) (((hL131_ 135 rfl).1 15).trans (((hL50_ 135 rfl).1 15).trans (((fu_18 135 (p1_no (tau_ne (rfl : tau 135 = .inl 2) (dic_t mo_13) (fun h => by cases h)))).1 15).trans ((uF_ne (fun h => absurd h.2 (by decide))).trans ((uF_ne (fun h => absurd h.2 (by decide))).trans (uF_on)))))) dX2_start_133 ?_
            refine r_icmp_gt (tgt := 152) hx hb ⟨(by omega), (by omega)⟩ ⟨(by omega), (by omega)⟩ dX2_start_136 (by decide) (fun c_22 => ?_) (fun c_22 => ?_)
            · refine lv_aload_n hx hb dX2_start_152 rfl (lv_at hl 1 rfl) ?_
              refine sBi (sV (As := []) (rest := []) (k := 135) Cx (s_X2_needsHelper l G S131  hI131) (c_X2_88 Cx rfl rfl (rmk_ok (by omega) (by decide))) hW (by decide) rfl rfl rfl hl.1 rfl (Nat.le_of_ble_eq_true rfl) dX2_start_153 ⟨Nat.le_of_ble_eq_true rfl, Nat.le_of_ble_eq_true rfl⟩) hL (fun r_25 u_23 H locs k_24 hW hL => ?_)
              obtain ⟨eu_23, xu_23⟩ := k_24
              rw [eu_23] at hW
              refine r_if_eq (tgt := 163) hx hb ⟨(by omega), (by omega)⟩ dX2_start_156 (by decide) (fun c_26 => ?_) (fun c_26 => ?_)
              · exact sVret Cx hr hlk hW hL ⟨hI131, hFm131⟩ dX2_start_163
              · refine lv_aload_n hx hb dX2_start_159 rfl (lv_at hl 1 rfl) ?_
                have lk_27 : S131.1 135 15 = S.1 md 2 := ((hL131_ 135 rfl).1 15).trans (((hL50_ 135 rfl).1 15).trans (((fu_18 135 (p1_no (tau_ne (rfl : tau 135 = .inl 2) (dic_t mo_13) (fun h => by cases h)))).1 15).trans ((uF_ne (fun h => absurd h.2 (by decide))).trans ((uF_ne (fun h => absurd h.2 (by decide))).trans (uF_on)))))
                refine sBv (sV (As := []) (rest := []) (k := 135) Cx (s_X2_addHelper l G S131  hI131 (by omega)) (c_X2_92 Cx rfl rfl (rmk_ok (by omega) (by decide))) hW (by decide) rfl rfl rfl hl.1 rfl (Nat.le_of_ble_eq_true rfl) dX2_start_160 ⟨Nat.le_of_ble_eq_true rfl, Nat.le_of_ble_eq_true rfl⟩) hL (fun u_28 H locs k_29 hW hL => ?_)
                obtain ⟨iu_28, fu_28⟩ := k_29
                have F_30 := hFm131.trans fu_28
                exact sVret Cx hr hlk hW hL ⟨iu_28, F_30⟩ dX2_start_163
            · refine lv_aload_n hx hb dX2_start_139 rfl (lv_at hl 1 rfl) ?_
              refine g_X2_23 Cx hW (k := 135) (by decide) rfl (v := .ref (G.2.2.1 + 139)) (rf_135_3 hI131) dX2_start_140 ?_
              refine lv_iload_n hx hb dX2_start_143 rfl (lv_at hl 0 rfl) ?_
              refine lv_iload_n hx hb dX2_start_144 rfl (lv_at hl 0 rfl) ?_
              refine rIast Cx hW hL (k := 139) (by decide) rfl (by decide) (by omega) (by omega) dX2_start_145 (fun H locs hW hL => ?_)
              have F_31 : Fr S (uA S131 139 j2 j2) pX := hFm131.A rfl
              have F_32 : Fr u_18 (uA S131 139 j2 j2) pY := hFL50131.A rfl
              have F_33 : Fr S50 (uA S131 139 j2 j2) pY := hL131_.A rfl
              have i_34 : cX G (uA S131 139 j2 j2) 0 0 0 := hI131.A (by decide) (by decide) (by decide) (show (-2147483648) ≤ j2 ∧ j2 ≤ 2147483647 from ⟨by omega, by omega⟩)
              refine lv_iinc (v := iv (j2 + 1)) (lv' := [(2, .int (iv (j2 + 1))), (0, .ref (G.2.2.1 + 135)), (1, .ref (G.2.2.1 + md))]) hx hb dX2_start_146 hl (k := 0) rfl ((Int32.ofInt_add _ _).symm) (by decide) rfl (fun ls hl => ?_)
              refine lv_goto (tgt := 131) hx hb dX2_start_149 (by decide) ?_
              exact ih_131 (uA S131 139 j2 j2) (j2 + 1) _ _ _ (by omega) i_34 F_31 F_32 F_33 (by omega) hW hL (lv_sub hl [0, 1, 2] rfl)
        exact loop_131 (_ + 1) S50 1 _ _ _ (Nat.lt_succ_self _) hI50 hFm50 hL50_ Fr.rf (by omega) hW hL (lv_sub hl [0, 1, 2] rfl)
      · refine lv_aload_n hx hb dX2_start_58 rfl (lv_at hl 1 rfl) ?_
        refine g_X2_20 Cx hW (k := 135) (by decide) rfl (v := .ref (G.2.2.1 + 138)) (rf_135_2 hI50) dX2_start_59 ?_
        refine lv_iload_n hx hb dX2_start_62 rfl (lv_at hl 0 rfl) ?_
        refine lv_aload_n hx hb dX2_start_63 rfl (lv_at hl 1 rfl) ?_
        refine g_X2_62 Cx hW (k := 135) (by decide) rfl (v := S.1 md 2) (((hL50_ 135 rfl).1 13).trans (((fu_18 135 (p1_no (tau_ne (rfl : tau 135 = .inl 2) (dic_t mo_13) (fun h => by cases h)))).1 13).trans ((uF_ne (fun h => absurd h.2 (by decide))).trans ((uF_ne (fun h => absurd h.2 (by decide))).trans ((uF_ne (fun h => absurd h.2 (by decide))).trans ((uF_ne (fun h => absurd h.2 (by decide))).trans (uF_on))))))) dX2_start_64 ?_
        refine lv_iload_n hx hb dX2_start_67 rfl (lv_at hl 0 rfl) ?_
        refine r_iadd hx hb dX2_start_68 ?_
        refine rIast Cx hW hL (k := 138) (by decide) rfl (by decide) (by omega) (by omega) dX2_start_69 (fun H locs hW hL => ?_)
        have F_35 : Fr S (uA S50 138 i ((S.1 md 2) + i)) pX := hFm50.A rfl
        have F_36 : Fr u_18 (uA S50 138 i ((S.1 md 2) + i)) pY := hL50_.A rfl
        have i_37 : cX G (uA S50 138 i ((S.1 md 2) + i)) 0 0 0 := hI50.A (by decide) (by decide) (by decide) (show (-2147483648) ≤ (S.1 md 2) + i ∧ (S.1 md 2) + i ≤ 2147483647 from ⟨by omega, by omega⟩)
        refine lv_iconst (v := iv 0) hx hb dX2_start_70 (by decide) ?_
        refine lv_istore_n (lv' := [(3, .int (iv 0)), (2, .int (iv i)), (0, .ref (G.2.2.1 + 135)), (1, .ref (G.2.2.1 + md))]) hx hb dX2_start_71 rfl hl (by decide) rfl (fun ls hl => ?_)
        have loop_72 : ∀ (fuel : Nat) (S72 : sS) (j : Int) (H : Heap) (locs : List Loc) (ls : Array Slot), (13 - j).toNat < fuel → (cX G S72 0 0 0) → (Fr S S72 pX) → (Fr u_18 S72 pY) → (Fr ((uA S50 138 i ((S.1 md 2) + i))) S72 pY) → (0 ≤ j ∧ j ≤ 13) → sW G 294 S72 H → sL G locs → lv_has ls 6 [(3, .int (iv j)), (2, .int (iv i)), (0, .ref (G.2.2.1 + 135)), (1, .ref (G.2.2.1 + md))] → W p l e (rmk 4 0 0) s m args below meth c H locs 0 0 (MQ below (sQv G 294 (fun u => cX G u 0 0 0 ∧ Fr S u pX)) args s 0 0 (sF G)) (F0 m 72 ls []) := by
          intro fuel
          induction fuel with
          | zero => intro S72 j H locs ls hmeas hI72 hFm72 hFL5072 hL72_ hj hW hL hl; exact absurd hmeas (Nat.not_lt_zero _)
          | succ fuel ih_72 =>
            intro S72 j H locs ls hmeas hI72 hFm72 hFL5072 hL72_ hj hW hL hl
            refine lv_iload_n hx hb dX2_start_72 rfl (lv_at hl 0 rfl) ?_
            refine lv_aload_n hx hb dX2_start_73 rfl (lv_at hl 2 rfl) ?_
            refine g_X2_67 Cx hW (k := 135) (by decide) rfl (v := S.1 md 2) (((hL72_ 135 rfl).1 15).trans ((uA_f).trans (((hL50_ 135 rfl).1 15).trans (((fu_18 135 (p1_no (tau_ne (rfl : tau 135 = .inl 2) (dic_t mo_13) (fun h => by cases h)))).1 15).trans ((uF_ne (fun h => absurd h.2 (by decide))).trans ((uF_ne (fun h => absurd h.2 (by decide))).trans (uF_on))))))) dX2_start_74 ?_
            refine r_icmp_gt (tgt := 123) hx hb ⟨(by omega), (by omega)⟩ ⟨(by omega), (by omega)⟩ dX2_start_77 (by decide) (fun c_38 => ?_) (fun c_38 => ?_)
            · refine lv_iinc (v := iv (i + 1)) (lv' := [(2, .int (iv (i + 1))), (3, .int (iv j)), (0, .ref (G.2.2.1 + 135)), (1, .ref (G.2.2.1 + md))]) hx hb dX2_start_123 hl (k := 1) rfl ((Int32.ofInt_add _ _).symm) (by decide) rfl (fun ls hl => ?_)
              refine lv_goto (tgt := 50) hx hb dX2_start_126 (by decide) ?_
              exact ih_50 S72 (i + 1) _ _ _ (by omega) hI72 hFm72 hFL5072 (by omega) hW hL (lv_sub hl [0, 2, 3] rfl)
            · refine lv_aload_n hx hb dX2_start_80 rfl (lv_at hl 3 rfl) ?_
              refine lv_iload_n hx hb dX2_start_81 rfl (lv_at hl 1 rfl) ?_
              refine lv_iload_n hx hb dX2_start_82 rfl (lv_at hl 0 rfl) ?_
              refine sBi (sV (As := [.int (iv i), .int (iv j)]) (rest := []) (k := md) Cx (s_X3_number l G S72 (o := md) (k := i) (j := j) hI72 hm2 (by omega) (by omega)) (c_X2_85 Cx rfl rfl (rmk_ok (by omega) (by decide))) hW (mdl_l hm2) hm2.1 rfl rfl hl.1 rfl (Nat.le_of_ble_eq_true rfl) dX2_start_83 ⟨Nat.le_of_ble_eq_true rfl, Nat.le_of_ble_eq_true rfl⟩) hL (fun r_41 u_39 H locs k_40 hW hL => ?_)
              obtain ⟨eu_39, xu_39⟩ := k_40
              rw [eu_39] at hW
              refine r_i2l hx hb ⟨(by omega), (by omega)⟩ dX2_start_86 ?_
              refine lv_lstore (lv' := [(4, .long (jv r_41)), (3, .int (iv j)), (2, .int (iv i)), (0, .ref (G.2.2.1 + 135)), (1, .ref (G.2.2.1 + md))]) hx hb dX2_start_87 hl (by decide) rfl (fun ls hl => ?_)
              refine lv_aload_n hx hb dX2_start_89 rfl (lv_at hl 3 rfl) ?_
              refine g_X2_13 Cx hW (k := 135) (by decide) rfl (v := .ref (G.2.2.1 + o_13)) ((((hL72_ 135 rfl).2.2.2 0).trans ((uA_r).trans (((hL50_ 135 rfl).2.2.2 0).trans (((fu_18 135 (p1_no (tau_ne (rfl : tau 135 = .inl 2) (dic_t mo_13) (fun h => by cases h)))).2.2.2 0).trans ((uF_r).trans ((uF_r).trans ((uF_r).trans ((uF_r).trans (uF_r))))))))).trans eo_13) dX2_start_90 ?_
              refine lv_iload_n hx hb dX2_start_93 rfl (lv_at hl 2 rfl) ?_
              refine lv_iload_n hx hb dX2_start_94 rfl (lv_at hl 1 rfl) ?_
              refine sBi (sSt (As := [.int (iv i), .int (iv j)]) (rest := [.ref (G.2.2.1 + o_13)]) Cx (s_X2_at l G S72 (i := i) (j := j) (by omega) (by omega)) (c_X2_77 Cx rfl rfl (rmk_ok (by omega) (by decide))) hW rfl hl.1 rfl (Nat.le_of_ble_eq_true rfl) dX2_start_95 ⟨Nat.le_of_ble_eq_true rfl, Nat.le_of_ble_eq_true rfl⟩) hL (fun r_44 u_42 H locs k_43 hW hL => ?_)
              obtain ⟨eu_42, xu_42⟩ := k_43
              rw [eu_42] at hW
              refine lv_iload_n hx hb dX2_start_98 rfl (lv_at hl 2 rfl) ?_
              refine r_if_ne (tgt := 112) hx hb ⟨(by omega), (by omega)⟩ dX2_start_99 (by decide) (fun c_45 => ?_) (fun c_45 => ?_)
              · refine lv_lload hx hb dX2_start_112 (lv_at hl 0 rfl) ?_
                refine sBv (sSt (As := [.ref (G.2.2.1 + o_13), .int (iv r_44), .long (jv r_41)]) (rest := []) Cx (s_X0_store l G S72 (k := o_13) (a := r_44) (v := r_41) (N := 4816) hI72 (dic_a mo_13) (by omega) (by omega) (fun _ q => by exfalso; omega)) (c_X2_81 Cx rfl rfl (rmk_ok (by omega) (by decide))) hW rfl hl.1 rfl (Nat.le_of_ble_eq_true rfl) dX2_start_114 ⟨Nat.le_of_ble_eq_true rfl, Nat.le_of_ble_eq_true rfl⟩) hL (fun u_46 H locs k_47 hW hL => ?_)
                obtain ⟨iu_46, fu_46⟩ := k_47
                have F_48 := hFm72.trans (fu_46.to (p1_sub ((fun k h => pF_X k (pZ_F k h)) _ (dic_z mo_13))))
                have F_49 := hFL5072.trans (fu_46.to (p1_sub ((fun k h => pN_Y k (pZ_N k h)) _ (dic_z mo_13))))
                have F_50 := hL72_.trans (fu_46.to (p1_sub ((fun k h => pN_Y k (pZ_N k h)) _ (dic_z mo_13))))
                refine lv_iinc (v := iv (j + 1)) (lv' := [(3, .int (iv (j + 1))), (4, .long (jv r_41)), (2, .int (iv i)), (0, .ref (G.2.2.1 + 135)), (1, .ref (G.2.2.1 + md))]) hx hb dX2_start_117 hl (k := 1) rfl ((Int32.ofInt_add _ _).symm) (by decide) rfl (fun ls hl => ?_)
                refine lv_goto (tgt := 72) hx hb dX2_start_120 (by decide) ?_
                exact ih_72 u_46 (j + 1) _ _ _ (by omega) iu_46 F_48 F_49 F_50 (by omega) hW hL (lv_sub hl [0, 2, 3, 4] rfl)
              · refine lv_iload_n hx hb dX2_start_102 rfl (lv_at hl 1 rfl) ?_
                refine r_if_le (tgt := 112) hx hb ⟨(by omega), (by omega)⟩ dX2_start_103 (by decide) (fun c_51 => ?_) (fun c_51 => ?_)
                · refine lv_lload hx hb dX2_start_112 (lv_at hl 0 rfl) ?_
                  refine sBv (sSt (As := [.ref (G.2.2.1 + o_13), .int (iv r_44), .long (jv r_41)]) (rest := []) Cx (s_X0_store l G S72 (k := o_13) (a := r_44) (v := r_41) (N := 4816) hI72 (dic_a mo_13) (by omega) (by omega) (fun _ q => by exfalso; omega)) (c_X2_81 Cx rfl rfl (rmk_ok (by omega) (by decide))) hW rfl hl.1 rfl (Nat.le_of_ble_eq_true rfl) dX2_start_114 ⟨Nat.le_of_ble_eq_true rfl, Nat.le_of_ble_eq_true rfl⟩) hL (fun u_52 H locs k_53 hW hL => ?_)
                  obtain ⟨iu_52, fu_52⟩ := k_53
                  have F_54 := hFm72.trans (fu_52.to (p1_sub ((fun k h => pF_X k (pZ_F k h)) _ (dic_z mo_13))))
                  have F_55 := hFL5072.trans (fu_52.to (p1_sub ((fun k h => pN_Y k (pZ_N k h)) _ (dic_z mo_13))))
                  have F_56 := hL72_.trans (fu_52.to (p1_sub ((fun k h => pN_Y k (pZ_N k h)) _ (dic_z mo_13))))
                  refine lv_iinc (v := iv (j + 1)) (lv' := [(3, .int (iv (j + 1))), (4, .long (jv r_41)), (2, .int (iv i)), (0, .ref (G.2.2.1 + 135)), (1, .ref (G.2.2.1 + md))]) hx hb dX2_start_117 hl (k := 1) rfl ((Int32.ofInt_add _ _).symm) (by decide) rfl (fun ls hl => ?_)
                  refine lv_goto (tgt := 72) hx hb dX2_start_120 (by decide) ?_
                  exact ih_72 u_52 (j + 1) _ _ _ (by omega) iu_52 F_54 F_55 F_56 (by omega) hW hL (lv_sub hl [0, 2, 3, 4] rfl)
                · refine lv_lload hx hb dX2_start_106 (lv_at hl 0 rfl) ?_
                  refine r_lneg hx hb dX2_start_108 ?_
                  refine lv_goto (tgt := 114) hx hb dX2_start_109 (by decide) ?_
                  refine sBv (sSt (As := [.ref (G.2.2.1 + o_13), .int (iv r_44), .long (jv (-r_41))]) (rest := []) Cx (s_X0_store l G S72 (k := o_13) (a := r_44) (v := -r_41) (N := 4816) hI72 (dic_a mo_13) (by omega) (by omega) (fun _ q => by exfalso; omega)) (c_X2_81 Cx rfl rfl (rmk_ok (by omega) (by decide))) hW rfl hl.1 rfl (Nat.le_of_ble_eq_true rfl) dX2_start_114 ⟨Nat.le_of_ble_eq_true rfl, Nat.le_of_ble_eq_true rfl⟩) hL (fun u_57 H locs k_58 hW hL => ?_)
                  obtain ⟨iu_57, fu_57⟩ := k_58
                  have F_59 := hFm72.trans (fu_57.to (p1_sub ((fun k h => pF_X k (pZ_F k h)) _ (dic_z mo_13))))
                  have F_60 := hFL5072.trans (fu_57.to (p1_sub ((fun k h => pN_Y k (pZ_N k h)) _ (dic_z mo_13))))
                  have F_61 := hL72_.trans (fu_57.to (p1_sub ((fun k h => pN_Y k (pZ_N k h)) _ (dic_z mo_13))))
                  refine lv_iinc (v := iv (j + 1)) (lv' := [(3, .int (iv (j + 1))), (4, .long (jv r_41)), (2, .int (iv i)), (0, .ref (G.2.2.1 + 135)), (1, .ref (G.2.2.1 + md))]) hx hb dX2_start_117 hl (k := 1) rfl ((Int32.ofInt_add _ _).symm) (by decide) rfl (fun ls hl => ?_)
                  refine lv_goto (tgt := 72) hx hb dX2_start_120 (by decide) ?_
                  exact ih_72 u_57 (j + 1) _ _ _ (by omega) iu_57 F_59 F_60 F_61 (by omega) hW hL (lv_sub hl [0, 2, 3, 4] rfl)
        exact loop_72 (_ + 1) (uA S50 138 i ((S.1 md 2) + i)) 0 _ _ _ (Nat.lt_succ_self _) i_37 F_35 F_36 Fr.rf (by omega) hW hL (lv_sub hl [0, 1, 2, 3] rfl)
  exact loop_50 (_ + 1) u_18 0 _ _ _ (Nat.lt_succ_self _) iu_18 F_20 Fr.rf (by omega) hW hL (lv_sub hl [0, 1, 2] rfl)

set_option maxRecDepth 100000 in
set_option maxHeartbeats 4000000 in
theorem s_X2_addRow (l : Launch) (G : sG) (S : sS)  (hI : cX G S 0 0 0) (hr : S.1 135 14 ≤ 39) : Met l yX2_addRow (.code yX2_addRow cX2_addRow 1 none :: tb) (rmk 1 0 0) (sPc G 294 S [.ref (G.2.2.1 + 135)]) (sQv G 294 (fun u => cX G u 0 0 0 ∧ Fr S u pX)) 0 0 (sF G) := by
  refine sEnter (by decide) (Nat.le_of_ble_eq_true rfl) ?_
  intro p e s m args below meth c Cx hr hlk hnm hW ls hl
  have Cx : sC G p m c cX2_addRow 1 s args RX2 := Cx
  obtain ⟨hx, hb, hml, hown, hts⟩ := id Cx.1
  have hL : sL G [] := sL_nil
  have hl : lv_has ls 1 [(0, .ref (G.2.2.1 + 135))] := hl
  have hW0 := hW
  refine lv_aload_n hx hb dX2_addRow_0 rfl (lv_at hl 0 rfl) ?_
  refine lv_dup hx hb dX2_addRow_1 rfl ?_
  have q_1 : 0 ≤ S.1 135 14 ∧ S.1 135 14 ≤ 40 := hI.fi 135 14 2 (by decide) rfl
  refine g_X2_66 Cx hW (k := 135) (by decide) rfl (v := S.1 135 14) rfl dX2_addRow_2 ?_
  refine lv_iconst (v := iv 1) hx hb dX2_addRow_5 (by decide) ?_
  refine r_iadd hx hb dX2_addRow_6 ?_
  refine p_X2_66 Cx hW hL (k := 135) (by decide) rfl dX2_addRow_7 (fun H locs hW hL => ?_)
  have F_2 : Fr S (uF S 135 14 ((S.1 135 14) + 1)) pX := (Fr.rf : Fr S S pX).F rfl
  have i_3 : cX G (uF S 135 14 ((S.1 135 14) + 1)) 0 0 0 := hI.F rfl rfl (show 0 ≤ (S.1 135 14) + 1 ∧ (S.1 135 14) + 1 ≤ 40 from ⟨by omega, by omega⟩)
  refine lv_aload_n hx hb dX2_addRow_10 rfl (lv_at hl 0 rfl) ?_
  refine g_X2_20 Cx hW (k := 135) (by decide) rfl (v := .ref (G.2.2.1 + 138)) (rf_135_2 i_3) dX2_addRow_11 ?_
  refine lv_aload_n hx hb dX2_addRow_14 rfl (lv_at hl 0 rfl) ?_
  refine g_X2_66 Cx hW (k := 135) (by decide) rfl (v := (S.1 135 14) + 1) uF_on dX2_addRow_15 ?_
  refine lv_aload_n hx hb dX2_addRow_18 rfl (lv_at hl 0 rfl) ?_
  have q_4 : 0 ≤ S.1 135 13 ∧ S.1 135 13 ≤ 12 := hI.fi 135 13 2 (by decide) rfl
  refine g_X2_62 Cx hW (k := 135) (by decide) rfl (v := S.1 135 13) (uF_ne (fun h => absurd h.2 (by decide))) dX2_addRow_19 ?_
  refine lv_aload_n hx hb dX2_addRow_22 rfl (lv_at hl 0 rfl) ?_
  refine g_X2_66 Cx hW (k := 135) (by decide) rfl (v := (S.1 135 14) + 1) uF_on dX2_addRow_23 ?_
  refine r_iadd hx hb dX2_addRow_26 ?_
  refine rIast Cx hW hL (k := 138) (by decide) rfl (by decide) (by omega) (by omega) dX2_addRow_27 (fun H locs hW hL => ?_)
  have F_5 : Fr S (uA (uF S 135 14 ((S.1 135 14) + 1)) 138 ((S.1 135 14) + 1) ((S.1 135 13) + ((S.1 135 14) + 1))) pX := F_2.A rfl
  have i_6 : cX G (uA (uF S 135 14 ((S.1 135 14) + 1)) 138 ((S.1 135 14) + 1) ((S.1 135 13) + ((S.1 135 14) + 1))) 0 0 0 := i_3.A (by decide) (by decide) (by decide) (show (-2147483648) ≤ (S.1 135 13) + ((S.1 135 14) + 1) ∧ (S.1 135 13) + ((S.1 135 14) + 1) ≤ 2147483647 from ⟨by omega, by omega⟩)
  exact sVret Cx hr hlk hW hL ⟨i_6, F_5⟩ dX2_addRow_28
