def pX (k : Nat) : Bool := pN k || rgB 135 140 k
def pY (k : Nat) : Bool := pN k || rgB 138 139 k
def pZ (k : Nat) : Bool := rgB 136 137 k || rgB 145 156 k
theorem pZ_N : ∀ k, pZ k = true → pN k = true := fun k h => by
  rw [pZ, Bool.or_eq_true] at h
  rcases h with h | h <;> simp [pN, h]
  have := rgB_t h
  exact Or.inl (Or.inl (Or.inl (Or.inr (rgB_i ⟨by omega, by omega⟩))))
theorem pN_Y : ∀ k, pN k = true → pY k = true := fun k h => by simp [pY, h]
theorem pY_X : ∀ k, pY k = true → pX k = true := fun k h => by
  rw [pY, Bool.or_eq_true] at h
  rcases h with h | h
  · simp [pX, h]
  · have := rgB_t h
    simp [pX, rgB_i (a := 135) (b := 140) (k := k) ⟨by omega, by omega⟩]
theorem pX_C : ∀ k, pX k = true → pC k = true := fun k h => by
  rw [pX, Bool.or_eq_true] at h
  rcases h with h | h
  · exact pN_C k h
  · have := rgB_t h
    simp [pC, rgB_i (a := 3) (b := 230) (k := k) ⟨by omega, by omega⟩]
theorem dic_k {o : Nat} (m : dc o) : o < 231 := by rcases m with rfl | rfl <;> decide
theorem dic_z {o : Nat} (m : dc o) : pZ o = true := by rcases m with rfl | rfl <;> rfl
theorem cX.kend0 {G : sG} {S : sS} {x y : Nat} {b : Int} (h : cX G S x y b) : cX G (uF S 135 19 0) x y b := by
  refine ⟨⟨h.fi.put (ci := 2) rfl ⟨by decide, by decide⟩, h.ai, h.li⟩, h.2.1, ?_, h.ns, ?_, ?_⟩
  · intro o ho hx
    rw [uF_ne (fun q => by rw [q.1] at ho; cases ho)]; exact h.nb o ho hx
  · intro q
    rw [uF_ne (by decide)] at q
    rw [uF_ne (by decide)]; exact h.ub q
  · exact ⟨⟨0, uF_on⟩, h.ko.2⟩
/-- the two rows of cells -/
def dcs (G : sG) (S : sS) (oc od : Nat) : Prop := dc oc ∧ dc od ∧ Hd (oc ≠ od) ∧ S.2.2.2 135 0 = .ref (G.2.2.1 + oc) ∧ S.2.2.2 135 1 = .ref (G.2.2.1 + od)
def pD4 (v k : Nat) : Bool := pB v k || rgB 143 144 k || rgB 153 156 k
theorem pD4_sub {P : pS} {v : Nat} (h1 : P v = true) (h2 : P (v + 1) = true) (a1 : P 143 = true) (a2 : P 144 = true) (a3 : P 153 = true) (a4 : P 154 = true) (a5 : P 155 = true) (a6 : P 156 = true) : ∀ k, pD4 v k = true → P k = true := fun k e => by
  simp only [pD4, Bool.or_eq_true] at e
  rcases e with (e | e) | e
  · exact pB_sub h1 h2 k e
  · have := rgB_t e
    rcases (by omega : k = 143 ∨ k = 144) with q | q <;> rw [q] <;> assumption
  · have := rgB_t e
    rcases (by omega : k = 153 ∨ k = 154 ∨ k = 155 ∨ k = 156) with q | q | q | q <;> rw [q] <;> assumption
def pF (k : Nat) : Bool := pZ k || Nat.beq k 135
theorem pF_X : ∀ k, pF k = true → pX k = true := fun k h => by
  rw [pF, Bool.or_eq_true] at h
  rcases h with h | h
  · simp [pX, pZ_N k h]
  · rw [Nat.eq_of_beq_eq_true h]; rfl
theorem pZ_F : ∀ k, pZ k = true → pF k = true := fun k h => by simp [pF, h]
set_option maxRecDepth 100000 in
set_option maxHeartbeats 4000000 in
theorem s_X2_at (l : Launch) (G : sG) (S : sS) {i j : Int} (hi : -2 ≤ i ∧ i ≤ 41) (hj : 0 ≤ j ∧ j ≤ 13) : Met l yX2_at (.code yX2_at cX2_at 2 (some .int) :: tb) (rmk 1 0 0) (sPc G 294 S [.int (iv i), .int (iv j)]) (sQi G 294 (fun r u => u = S ∧ (r = (i + 2) * 112 + j * 8))) 0 0 (sF G) := by
  refine sEnter (by decide) (Nat.le_of_ble_eq_true rfl) ?_
  intro p e s m args below meth c Cx hr hlk hnm hW ls hl
  have Cx : sC G p m c cX2_at 2 s args RX2 := Cx
  obtain ⟨hx, hb, hml, hown, hts⟩ := id Cx.1
  have hL : sL G [] := sL_nil
  have hl : lv_has ls 2 [(0, .int (iv i)), (1, .int (iv j))] := hl
  have hW0 := hW
  refine lv_iload_n hx hb dX2_at_0 rfl (lv_at hl 0 rfl) ?_
  refine lv_iconst (v := iv 2) hx hb dX2_at_1 (by decide) ?_
  refine r_iadd hx hb dX2_at_2 ?_
  refine lv_bipush (v := iv 112) hx hb dX2_at_3 (by decide) ?_
  refine r_imul hx hb dX2_at_5 ?_
  refine lv_iload_n hx hb dX2_at_6 rfl (lv_at hl 1 rfl) ?_
  refine lv_bipush (v := iv 8) hx hb dX2_at_7 (by decide) ?_
  refine r_imul hx hb dX2_at_9 ?_
  refine r_iadd hx hb dX2_at_10 ?_
  exact sIret Cx hr hlk hW hL ⟨rfl, (by omega)⟩ dX2_at_11

set_option maxRecDepth 100000 in
set_option maxHeartbeats 4000000 in
theorem s_X2_hasHelper (l : Launch) (G : sG) (S : sS)  (hI : cX G S 0 0 0) : Met l yX2_hasHelper (.code yX2_hasHelper cX2_hasHelper 1 (some .boolean) :: tb) (rmk 1 0 0) (sPc G 294 S [.ref (G.2.2.1 + 135)]) (sQi G 294 (fun r u => u = S ∧ (r = S.1 135 16 ∧ 0 ≤ r ∧ r ≤ 1))) 0 0 (sF G) := by
  refine sEnter (by decide) (Nat.le_of_ble_eq_true rfl) ?_
  intro p e s m args below meth c Cx hr hlk hnm hW ls hl
  have Cx : sC G p m c cX2_hasHelper 1 s args RX2 := Cx
  obtain ⟨hx, hb, hml, hown, hts⟩ := id Cx.1
  have hL : sL G [] := sL_nil
  have hl : lv_has ls 1 [(0, .ref (G.2.2.1 + 135))] := hl
  have hW0 := hW
  refine lv_aload_n hx hb dX2_hasHelper_0 rfl (lv_at hl 0 rfl) ?_
  have q_1 : 0 ≤ S.1 135 16 ∧ S.1 135 16 ≤ 1 := hI.fi 135 16 2 (by decide) rfl
  refine g_X2_70 Cx hW (k := 135) (by decide) rfl (v := S.1 135 16) rfl dX2_hasHelper_1 ?_
  exact sZret Cx hr hlk hW hL (by omega) ⟨rfl, (by omega)⟩ dX2_hasHelper_4

set_option maxRecDepth 100000 in
set_option maxHeartbeats 4000000 in
theorem s_X2_rowCount (l : Launch) (G : sG) (S : sS)  (hI : cX G S 0 0 0) : Met l yX2_rowCount (.code yX2_rowCount cX2_rowCount 1 (some .int) :: tb) (rmk 1 0 0) (sPc G 294 S [.ref (G.2.2.1 + 135)]) (sQi G 294 (fun r u => u = S ∧ (r = S.1 135 14 ∧ 0 ≤ r ∧ r ≤ 40))) 0 0 (sF G) := by
  refine sEnter (by decide) (Nat.le_of_ble_eq_true rfl) ?_
  intro p e s m args below meth c Cx hr hlk hnm hW ls hl
  have Cx : sC G p m c cX2_rowCount 1 s args RX2 := Cx
  obtain ⟨hx, hb, hml, hown, hts⟩ := id Cx.1
  have hL : sL G [] := sL_nil
  have hl : lv_has ls 1 [(0, .ref (G.2.2.1 + 135))] := hl
  have hW0 := hW
  refine lv_aload_n hx hb dX2_rowCount_0 rfl (lv_at hl 0 rfl) ?_
  have q_1 : 0 ≤ S.1 135 14 ∧ S.1 135 14 ≤ 40 := hI.fi 135 14 2 (by decide) rfl
  refine g_X2_66 Cx hW (k := 135) (by decide) rfl (v := S.1 135 14) rfl dX2_rowCount_1 ?_
  exact sIret Cx hr hlk hW hL ⟨rfl, (by omega)⟩ dX2_rowCount_4

set_option maxRecDepth 100000 in
set_option maxHeartbeats 4000000 in
theorem s_X2_stuckRow (l : Launch) (G : sG) (S : sS)  (hI : cX G S 0 0 0) : Met l yX2_stuckRow (.code yX2_stuckRow cX2_stuckRow 1 (some .int) :: tb) (rmk 1 0 0) (sPc G 294 S [.ref (G.2.2.1 + 135)]) (sQi G 294 (fun r u => u = S ∧ (r = S.1 135 17 ∧ -1 ≤ r ∧ r ≤ 40))) 0 0 (sF G) := by
  refine sEnter (by decide) (Nat.le_of_ble_eq_true rfl) ?_
  intro p e s m args below meth c Cx hr hlk hnm hW ls hl
  have Cx : sC G p m c cX2_stuckRow 1 s args RX2 := Cx
  obtain ⟨hx, hb, hml, hown, hts⟩ := id Cx.1
  have hL : sL G [] := sL_nil
  have hl : lv_has ls 1 [(0, .ref (G.2.2.1 + 135))] := hl
  have hW0 := hW
  refine lv_aload_n hx hb dX2_stuckRow_0 rfl (lv_at hl 0 rfl) ?_
  have q_1 : (-1) ≤ S.1 135 17 ∧ S.1 135 17 ≤ 40 := hI.fi 135 17 2 (by decide) rfl
  refine g_X2_147 Cx hW (k := 135) (by decide) rfl (v := S.1 135 17) rfl dX2_stuckRow_1 ?_
  exact sIret Cx hr hlk hW hL ⟨rfl, (by omega)⟩ dX2_stuckRow_4

set_option maxRecDepth 100000 in
set_option maxHeartbeats 4000000 in
theorem s_X2_numberAt (l : Launch) (G : sG) (S : sS) {i : Int} (hI : cX G S 0 0 0) (hi : -2147483648 ≤ i ∧ i ≤ 2147483647) : Met l yX2_numberAt (.code yX2_numberAt cX2_numberAt 2 (some .int) :: tb) (rmk 1 0 0) (sPc G 294 S [.ref (G.2.2.1 + 135), .int (iv i)]) (sQi G 294 (fun r u => u = S ∧ (-2147483648 ≤ r ∧ r ≤ 2147483647))) 0 0 (sF G) := by
  refine sEnter (by decide) (Nat.le_of_ble_eq_true rfl) ?_
  intro p e s m args below meth c Cx hr hlk hnm hW ls hl
  have Cx : sC G p m c cX2_numberAt 2 s args RX2 := Cx
  obtain ⟨hx, hb, hml, hown, hts⟩ := id Cx.1
  have hL : sL G [] := sL_nil
  have hl : lv_has ls 2 [(0, .ref (G.2.2.1 + 135)), (1, .int (iv i))] := hl
  have hW0 := hW
  refine lv_iload_n hx hb dX2_numberAt_0 rfl (lv_at hl 1 rfl) ?_
  refine lv_iconst (v := iv 1) hx hb dX2_numberAt_1 (by decide) ?_
  refine r_icmp_lt (tgt := 20) hx hb ⟨(by omega), (by omega)⟩ ⟨(by omega), (by omega)⟩ dX2_numberAt_2 (by decide) (fun c_1 => ?_) (fun c_1 => ?_)
  · refine lv_iload_n hx hb dX2_numberAt_20 rfl (lv_at hl 1 rfl) ?_
    refine lv_iconst (v := iv (-1)) hx hb dX2_numberAt_21 (by decide) ?_
    refine r_icmp_gt (tgt := 44) hx hb ⟨(by omega), (by omega)⟩ ⟨(by omega), (by omega)⟩ dX2_numberAt_22 (by decide) (fun c_2 => ?_) (fun c_2 => ?_)
    · refine lv_iconst (v := iv (-1)) hx hb dX2_numberAt_44 (by decide) ?_
      exact sIret Cx hr hlk hW hL ⟨rfl, (by omega)⟩ dX2_numberAt_45
    · refine lv_iload_n hx hb dX2_numberAt_25 rfl (lv_at hl 1 rfl) ?_
      refine lv_aload_n hx hb dX2_numberAt_26 rfl (lv_at hl 0 rfl) ?_
      have q_3 : 0 ≤ S.1 135 15 ∧ S.1 135 15 ≤ 13 := hI.fi 135 15 2 (by decide) rfl
      refine g_X2_67 Cx hW (k := 135) (by decide) rfl (v := S.1 135 15) rfl dX2_numberAt_27 ?_
      refine r_ineg hx hb dX2_numberAt_30 ?_
      refine r_icmp_lt (tgt := 44) hx hb ⟨(by omega), (by omega)⟩ ⟨(by omega), (by omega)⟩ dX2_numberAt_31 (by decide) (fun c_4 => ?_) (fun c_4 => ?_)
      · refine lv_iconst (v := iv (-1)) hx hb dX2_numberAt_44 (by decide) ?_
        exact sIret Cx hr hlk hW hL ⟨rfl, (by omega)⟩ dX2_numberAt_45
      · refine lv_aload_n hx hb dX2_numberAt_34 rfl (lv_at hl 0 rfl) ?_
        refine g_X2_23 Cx hW (k := 135) (by decide) rfl (v := .ref (G.2.2.1 + 139)) (rf_135_3 hI) dX2_numberAt_35 ?_
        refine lv_iload_n hx hb dX2_numberAt_38 rfl (lv_at hl 1 rfl) ?_
        refine r_ineg hx hb dX2_numberAt_39 ?_
        refine rIald Cx hW (k := 139) (by decide) rfl (by decide) (by omega) (by omega) dX2_numberAt_40 ?_
        have q_5 : (-2147483648) ≤ S.2.1 139 (-i) ∧ S.2.1 139 (-i) ≤ 2147483647 := hI.ai 139 (-i) (by decide)
        refine r_i (b := S.2.1 139 (-i)) rfl ?_
        refine lv_goto (tgt := 45) hx hb dX2_numberAt_41 (by decide) ?_
        exact sIret Cx hr hlk hW hL ⟨rfl, (by omega)⟩ dX2_numberAt_45
  · refine lv_iload_n hx hb dX2_numberAt_5 rfl (lv_at hl 1 rfl) ?_
    refine lv_aload_n hx hb dX2_numberAt_6 rfl (lv_at hl 0 rfl) ?_
    have q_6 : 0 ≤ S.1 135 14 ∧ S.1 135 14 ≤ 40 := hI.fi 135 14 2 (by decide) rfl
    refine g_X2_66 Cx hW (k := 135) (by decide) rfl (v := S.1 135 14) rfl dX2_numberAt_7 ?_
    refine r_icmp_gt (tgt := 20) hx hb ⟨(by omega), (by omega)⟩ ⟨(by omega), (by omega)⟩ dX2_numberAt_10 (by decide) (fun c_7 => ?_) (fun c_7 => ?_)
    · refine lv_iload_n hx hb dX2_numberAt_20 rfl (lv_at hl 1 rfl) ?_
      refine lv_iconst (v := iv (-1)) hx hb dX2_numberAt_21 (by decide) ?_
      refine r_icmp_gt (tgt := 44) hx hb ⟨(by omega), (by omega)⟩ ⟨(by omega), (by omega)⟩ dX2_numberAt_22 (by decide) (fun c_8 => ?_) (fun c_8 => ?_)
      · refine lv_iconst (v := iv (-1)) hx hb dX2_numberAt_44 (by decide) ?_
        exact sIret Cx hr hlk hW hL ⟨rfl, (by omega)⟩ dX2_numberAt_45
      · refine lv_iload_n hx hb dX2_numberAt_25 rfl (lv_at hl 1 rfl) ?_
        refine lv_aload_n hx hb dX2_numberAt_26 rfl (lv_at hl 0 rfl) ?_
        have q_9 : 0 ≤ S.1 135 15 ∧ S.1 135 15 ≤ 13 := hI.fi 135 15 2 (by decide) rfl
        refine g_X2_67 Cx hW (k := 135) (by decide) rfl (v := S.1 135 15) rfl dX2_numberAt_27 ?_
        refine r_ineg hx hb dX2_numberAt_30 ?_
        refine r_icmp_lt (tgt := 44) hx hb ⟨(by omega), (by omega)⟩ ⟨(by omega), (by omega)⟩ dX2_numberAt_31 (by decide) (fun c_10 => ?_) (fun c_10 => ?_)
        · refine lv_iconst (v := iv (-1)) hx hb dX2_numberAt_44 (by decide) ?_
          exact sIret Cx hr hlk hW hL ⟨rfl, (by omega)⟩ dX2_numberAt_45
        · refine lv_aload_n hx hb dX2_numberAt_34 rfl (lv_at hl 0 rfl) ?_
          refine g_X2_23 Cx hW (k := 135) (by decide) rfl (v := .ref (G.2.2.1 + 139)) (rf_135_3 hI) dX2_numberAt_35 ?_
          refine lv_iload_n hx hb dX2_numberAt_38 rfl (lv_at hl 1 rfl) ?_
          refine r_ineg hx hb dX2_numberAt_39 ?_
          refine rIald Cx hW (k := 139) (by decide) rfl (by decide) (by omega) (by omega) dX2_numberAt_40 ?_
          have q_11 : (-2147483648) ≤ S.2.1 139 (-i) ∧ S.2.1 139 (-i) ≤ 2147483647 := hI.ai 139 (-i) (by decide)
          refine r_i (b := S.2.1 139 (-i)) rfl ?_
          refine lv_goto (tgt := 45) hx hb dX2_numberAt_41 (by decide) ?_
          exact sIret Cx hr hlk hW hL ⟨rfl, (by omega)⟩ dX2_numberAt_45
    · refine lv_aload_n hx hb dX2_numberAt_13 rfl (lv_at hl 0 rfl) ?_
      refine g_X2_20 Cx hW (k := 135) (by decide) rfl (v := .ref (G.2.2.1 + 138)) (rf_135_2 hI) dX2_numberAt_14 ?_
      refine lv_iload_n hx hb dX2_numberAt_17 rfl (lv_at hl 1 rfl) ?_
      refine rIald Cx hW (k := 138) (by decide) rfl (by decide) (by omega) (by omega) dX2_numberAt_18 ?_
      have q_12 : (-2147483648) ≤ S.2.1 138 i ∧ S.2.1 138 i ≤ 2147483647 := hI.ai 138 i (by decide)
      refine r_i (b := S.2.1 138 i) rfl ?_
      exact sIret Cx hr hlk hW hL ⟨rfl, (by omega)⟩ dX2_numberAt_19

set_option maxRecDepth 100000 in
set_option maxHeartbeats 4000000 in
theorem s_X2_placeOf (l : Launch) (G : sG) (S : sS) {k : Int} (hI : cX G S 0 0 0) (hk : -2147483648 ≤ k ∧ k ≤ 2147483647) : Met l yX2_placeOf (.code yX2_placeOf cX2_placeOf 3 (some .int) :: tb) (rmk 1 0 0) (sPc G 294 S [.ref (G.2.2.1 + 135), .int (iv k)]) (sQi G 294 (fun r u => u = S ∧ (-1 ≤ r ∧ r ≤ S.1 135 15 ∧ r ≠ 0))) 0 0 (sF G) := by
  refine sEnter (by decide) (Nat.le_of_ble_eq_true rfl) ?_
  intro p e s m args below meth c Cx hr hlk hnm hW ls hl
  have Cx : sC G p m c cX2_placeOf 3 s args RX2 := Cx
  obtain ⟨hx, hb, hml, hown, hts⟩ := id Cx.1
  have hL : sL G [] := sL_nil
  have hl : lv_has ls 3 [(0, .ref (G.2.2.1 + 135)), (1, .int (iv k))] := hl
  have hW0 := hW
  refine lv_iconst (v := iv 1) hx hb dX2_placeOf_0 (by decide) ?_
  refine lv_istore_n (lv' := [(2, .int (iv 1)), (0, .ref (G.2.2.1 + 135)), (1, .int (iv k))]) hx hb dX2_placeOf_1 rfl hl (by decide) rfl (fun ls hl => ?_)
  have loop_2 : ∀ (fuel : Nat) (i : Int) (H : Heap) (locs : List Loc) (ls : Array Slot), (14 - i).toNat < fuel → (1 ≤ i ∧ i ≤ 14) → sW G 294 S H → sL G locs → lv_has ls 3 [(2, .int (iv i)), (0, .ref (G.2.2.1 + 135)), (1, .int (iv k))] → W p l e (rmk 1 0 0) s m args below meth c H locs 0 0 (MQ below (sQi G 294 (fun r u => u = S ∧ (-1 ≤ r ∧ r ≤ S.1 135 15 ∧ r ≠ 0))) args s 0 0 (sF G)) (F0 m 2 ls []) := by
    intro fuel
    induction fuel with
    | zero => intro i H locs ls hmeas hi hW hL hl; exact absurd hmeas (Nat.not_lt_zero _)
    | succ fuel ih_2 =>
      intro i H locs ls hmeas hi hW hL hl
      refine lv_iload_n hx hb dX2_placeOf_2 rfl (lv_at hl 0 rfl) ?_
      refine lv_aload_n hx hb dX2_placeOf_3 rfl (lv_at hl 1 rfl) ?_
      have q_1 : 0 ≤ S.1 135 15 ∧ S.1 135 15 ≤ 13 := hI.fi 135 15 2 (by decide) rfl
      refine g_X2_67 Cx hW (k := 135) (by decide) rfl (v := S.1 135 15) rfl dX2_placeOf_4 ?_
      refine r_icmp_gt (tgt := 28) hx hb ⟨(by omega), (by omega)⟩ ⟨(by omega), (by omega)⟩ dX2_placeOf_7 (by decide) (fun c_2 => ?_) (fun c_2 => ?_)
      · refine lv_iconst (v := iv (-1)) hx hb dX2_placeOf_28 (by decide) ?_
        exact sIret Cx hr hlk hW hL ⟨rfl, (by omega)⟩ dX2_placeOf_29
      · refine lv_aload_n hx hb dX2_placeOf_10 rfl (lv_at hl 1 rfl) ?_
        refine g_X2_23 Cx hW (k := 135) (by decide) rfl (v := .ref (G.2.2.1 + 139)) (rf_135_3 hI) dX2_placeOf_11 ?_
        refine lv_iload_n hx hb dX2_placeOf_14 rfl (lv_at hl 0 rfl) ?_
        refine rIald Cx hW (k := 139) (by decide) rfl (by decide) (by omega) (by omega) dX2_placeOf_15 ?_
        have q_3 : (-2147483648) ≤ S.2.1 139 i ∧ S.2.1 139 i ≤ 2147483647 := hI.ai 139 i (by decide)
        refine r_i (b := S.2.1 139 i) rfl ?_
        refine lv_iload_n hx hb dX2_placeOf_16 rfl (lv_at hl 2 rfl) ?_
        refine r_icmp_ne (tgt := 22) hx hb ⟨(by omega), (by omega)⟩ ⟨(by omega), (by omega)⟩ dX2_placeOf_17 (by decide) (fun c_4 => ?_) (fun c_4 => ?_)
        · refine lv_iinc (v := iv (i + 1)) (lv' := [(2, .int (iv (i + 1))), (0, .ref (G.2.2.1 + 135)), (1, .int (iv k))]) hx hb dX2_placeOf_22 hl (k := 0) rfl ((Int32.ofInt_add _ _).symm) (by decide) rfl (fun ls hl => ?_)
          refine lv_goto (tgt := 2) hx hb dX2_placeOf_25 (by decide) ?_
          exact ih_2 (i + 1) _ _ _ (by omega) (by omega) hW hL (lv_sub hl [0, 1, 2] rfl)
        · refine lv_iload_n hx hb dX2_placeOf_20 rfl (lv_at hl 0 rfl) ?_
          exact sIret Cx hr hlk hW hL ⟨rfl, (by omega)⟩ dX2_placeOf_21
  exact loop_2 (_ + 1) 1 _ _ _ (Nat.lt_succ_self _) (by omega) hW hL (lv_sub hl [0, 1, 2] rfl)

set_option maxRecDepth 100000 in
set_option maxHeartbeats 4000000 in
theorem s_X2_denominator (l : Launch) (G : sG) (S : sS) {v : Nat} (hI : cX G S 0 0 0) (hv : tau v = .inl 0) : Met l yX2_denominator (.code yX2_denominator cX2_denominator 2 none :: tb) (rmk 3 0 0) (sPc G 294 S [.ref (G.2.2.1 + 135), .ref (G.2.2.1 + v)]) (sQv G 294 (fun u => cX G u 0 0 0 ∧ Fr S u (pB v) ∧ (u.1 v 1 ≤ 6 ∧ 0 ≤ u.1 v 2 ∧ (0 < u.1 v 2 → 1 ≤ u.1 v 1)))) 0 0 (sF G) := by
  refine sEnter (by decide) (Nat.le_of_ble_eq_true rfl) ?_
  intro p e s m args below meth c Cx hr hlk hnm hW ls hl
  have Cx : sC G p m c cX2_denominator 2 s args RX2 := Cx
  obtain ⟨hx, hb, hml, hown, hts⟩ := id Cx.1
  have hL : sL G [] := sL_nil
  have hl : lv_has ls 2 [(0, .ref (G.2.2.1 + 135)), (1, .ref (G.2.2.1 + v))] := hl
  have hW0 := hW
  refine lv_aload_n hx hb dX2_denominator_0 rfl (lv_at hl 1 rfl) ?_
  refine lv_aload_n hx hb dX2_denominator_1 rfl (lv_at hl 0 rfl) ?_
  obtain ⟨o_1, o_2, mo_1, mo_2, no_1, eo_1, eo_2⟩ := rm_135 hI
  refine g_X2_13 Cx hW (k := 135) (by decide) rfl (v := .ref (G.2.2.1 + o_1)) eo_1 dX2_denominator_2 ?_
  refine lv_bipush (v := iv (-2)) hx hb dX2_denominator_5 (by decide) ?_
  refine lv_iconst (v := iv 0) hx hb dX2_denominator_7 (by decide) ?_
  refine sBi (sSt (As := [.int (iv ((-2))), .int (iv 0)]) (rest := [.ref (G.2.2.1 + o_1), .ref (G.2.2.1 + v)]) Cx (s_X2_at l G S (i := (-2)) (j := 0) (by omega) (by omega)) (c_X2_77 Cx rfl rfl (rmk_ok (by omega) (by decide))) hW rfl hl.1 rfl (Nat.le_of_ble_eq_true rfl) dX2_denominator_8 ⟨Nat.le_of_ble_eq_true rfl, Nat.le_of_ble_eq_true rfl⟩) hL (fun r_5 u_3 H locs k_4 hW hL => ?_)
  obtain ⟨eu_3, xu_3⟩ := k_4
  rw [eu_3] at hW
  refine sBv (sV (As := [.ref (G.2.2.1 + o_1), .int (iv r_5)]) (rest := []) (k := v) Cx (s_X0_load l G S (o := v) (k := o_1) (a := r_5) (N := 4816) hI hv (dic_a mo_1) (by omega)) (c_X2_106 Cx rfl rfl (rmk_ok (by omega) (by decide))) hW (big_l hv) hv rfl rfl hl.1 rfl (Nat.le_of_ble_eq_true rfl) dX2_denominator_11 ⟨Nat.le_of_ble_eq_true rfl, Nat.le_of_ble_eq_true rfl⟩) hL (fun u_6 H locs k_7 hW hL => ?_)
  obtain ⟨iu_6, fu_6, xu_6⟩ := k_7
  have F_8 := (Fr.rf : Fr S S (pB v)).trans fu_6
  have yu_6 : u_6.1 v 1 ≤ 6 := by have e := xu_6.1; rw [dic_L mo_1] at e; exact e
  have hd00 := dicD hI mo_1
  have hr0 : r_5 = 0 := by omega
  rw [hr0] at xu_6
  have q_9 : 0 ≤ u_6.1 v 1 ∧ u_6.1 v 1 ≤ 32 := iu_6.fi v 1 0 (big_lt hv) hv
  have q_10 : (-1) ≤ u_6.1 v 2 ∧ u_6.1 v 2 ≤ 1 := iu_6.fi v 2 0 (big_lt hv) hv
  exact sVret Cx hr hlk hW hL ⟨iu_6, F_8, (by omega)⟩ dX2_denominator_14

set_option maxRecDepth 100000 in
set_option maxHeartbeats 4000000 in
theorem s_X2_multiplier (l : Launch) (G : sG) (S : sS) {v : Nat} {i k : Int} (hI : cX G S 0 0 0) (hv : tau v = .inl 0) (hi : -1 ≤ i ∧ i ≤ 40) (hk : -2147483648 ≤ k ∧ k ≤ 2147483647) : Met l yX2_multiplier (.code yX2_multiplier cX2_multiplier 5 none :: tb) (rmk 4 0 0) (sPc G 294 S [.ref (G.2.2.1 + 135), .int (iv i), .int (iv k), .ref (G.2.2.1 + v)]) (sQv G 294 (fun u => cX G u 0 0 0 ∧ Fr S u (pB v) ∧ (u.1 v 1 ≤ 6))) 0 0 (sF G) := by
  refine sEnter (by decide) (Nat.le_of_ble_eq_true rfl) ?_
  intro p e s m args below meth c Cx hr hlk hnm hW ls hl
  have Cx : sC G p m c cX2_multiplier 5 s args RX2 := Cx
  obtain ⟨hx, hb, hml, hown, hts⟩ := id Cx.1
  have hL : sL G [] := sL_nil
  have hl : lv_has ls 5 [(0, .ref (G.2.2.1 + 135)), (1, .int (iv i)), (2, .int (iv k)), (3, .ref (G.2.2.1 + v))] := hl
  have hW0 := hW
  refine lv_aload_n hx hb dX2_multiplier_0 rfl (lv_at hl 0 rfl) ?_
  refine lv_iload_n hx hb dX2_multiplier_1 rfl (lv_at hl 2 rfl) ?_
  have q_1 : 0 ≤ S.1 135 15 ∧ S.1 135 15 ≤ 13 := hI.fi 135 15 2 (by decide) rfl
  refine sBi (sV (As := [.int (iv k)]) (rest := []) (k := 135) Cx (s_X2_placeOf l G S (k := k) hI (by omega)) (c_X2_118 Cx rfl rfl (rmk_ok (by omega) (by decide))) hW (by decide) rfl rfl rfl hl.1 rfl (Nat.le_of_ble_eq_true rfl) dX2_multiplier_2 ⟨Nat.le_of_ble_eq_true rfl, Nat.le_of_ble_eq_true rfl⟩) hL (fun r_4 u_2 H locs k_3 hW hL => ?_)
  obtain ⟨eu_2, xu_2⟩ := k_3
  rw [eu_2] at hW
  refine lv_istore (lv' := [(4, .int (iv r_4)), (0, .ref (G.2.2.1 + 135)), (1, .int (iv i)), (2, .int (iv k)), (3, .ref (G.2.2.1 + v))]) hx hb dX2_multiplier_5 hl (by decide) rfl (fun ls hl => ?_)
  refine lv_iload hx hb dX2_multiplier_7 (lv_at hl 0 rfl) ?_
  refine r_if_le (tgt := 29) hx hb ⟨(by omega), (by omega)⟩ dX2_multiplier_9 (by decide) (fun c_5 => ?_) (fun c_5 => ?_)
  · refine lv_iload_n hx hb dX2_multiplier_29 rfl (lv_at hl 2 rfl) ?_
    refine lv_iconst (v := iv 1) hx hb dX2_multiplier_30 (by decide) ?_
    refine r_icmp_lt (tgt := 52) hx hb ⟨(by omega), (by omega)⟩ ⟨(by omega), (by omega)⟩ dX2_multiplier_31 (by decide) (fun c_6 => ?_) (fun c_6 => ?_)
    · refine lv_aload_n hx hb dX2_multiplier_52 rfl (lv_at hl 4 rfl) ?_
      refine lv_lconst (v := jv 0) hx hb dX2_multiplier_53 (by decide) ?_
      refine sBv (sV (As := [.long (jv 0)]) (rest := []) (k := v) Cx (s_X0_put l G S (o := v) (v := 0) hI hv (by omega)) (c_X2_124 Cx rfl rfl (rmk_ok (by omega) (by decide))) hW (big_l hv) hv rfl rfl hl.1 rfl (Nat.le_of_ble_eq_true rfl) dX2_multiplier_54 ⟨Nat.le_of_ble_eq_true rfl, Nat.le_of_ble_eq_true rfl⟩) hL (fun u_7 H locs k_8 hW hL => ?_)
      obtain ⟨iu_7, fu_7, xu_7⟩ := k_8
      have F_9 := (Fr.rf : Fr S S (pB v)).trans fu_7
      have q_10 : 0 ≤ u_7.1 v 1 ∧ u_7.1 v 1 ≤ 32 := iu_7.fi v 1 0 (big_lt hv) hv
      exact sVret Cx hr hlk hW hL ⟨iu_7, F_9, (by omega)⟩ dX2_multiplier_57
    · refine lv_aload_n hx hb dX2_multiplier_34 rfl (lv_at hl 1 rfl) ?_
      refine g_X2_20 Cx hW (k := 135) (by decide) rfl (v := .ref (G.2.2.1 + 138)) (rf_135_2 hI) dX2_multiplier_35 ?_
      refine lv_iload_n hx hb dX2_multiplier_38 rfl (lv_at hl 2 rfl) ?_
      refine rIald Cx hW (k := 138) (by decide) rfl (by decide) (by omega) (by omega) dX2_multiplier_39 ?_
      have q_11 : (-2147483648) ≤ S.2.1 138 i ∧ S.2.1 138 i ≤ 2147483647 := hI.ai 138 i (by decide)
      refine r_i (b := S.2.1 138 i) rfl ?_
      refine lv_iload_n hx hb dX2_multiplier_40 rfl (lv_at hl 3 rfl) ?_
      refine r_icmp_ne (tgt := 52) hx hb ⟨(by omega), (by omega)⟩ ⟨(by omega), (by omega)⟩ dX2_multiplier_41 (by decide) (fun c_12 => ?_) (fun c_12 => ?_)
      · refine lv_aload_n hx hb dX2_multiplier_52 rfl (lv_at hl 4 rfl) ?_
        refine lv_lconst (v := jv 0) hx hb dX2_multiplier_53 (by decide) ?_
        refine sBv (sV (As := [.long (jv 0)]) (rest := []) (k := v) Cx (s_X0_put l G S (o := v) (v := 0) hI hv (by omega)) (c_X2_124 Cx rfl rfl (rmk_ok (by omega) (by decide))) hW (big_l hv) hv rfl rfl hl.1 rfl (Nat.le_of_ble_eq_true rfl) dX2_multiplier_54 ⟨Nat.le_of_ble_eq_true rfl, Nat.le_of_ble_eq_true rfl⟩) hL (fun u_13 H locs k_14 hW hL => ?_)
        obtain ⟨iu_13, fu_13, xu_13⟩ := k_14
        have F_15 := (Fr.rf : Fr S S (pB v)).trans fu_13
        have q_16 : 0 ≤ u_13.1 v 1 ∧ u_13.1 v 1 ≤ 32 := iu_13.fi v 1 0 (big_lt hv) hv
        exact sVret Cx hr hlk hW hL ⟨iu_13, F_15, (by omega)⟩ dX2_multiplier_57
      · refine lv_aload_n hx hb dX2_multiplier_44 rfl (lv_at hl 1 rfl) ?_
        refine lv_aload_n hx hb dX2_multiplier_45 rfl (lv_at hl 4 rfl) ?_
        refine sBv (sV (As := [.ref (G.2.2.1 + v)]) (rest := []) (k := 135) Cx (s_X2_denominator l G S (v := v) hI hv) (c_X2_121 Cx rfl rfl (rmk_ok (by omega) (by decide))) hW (by decide) rfl rfl rfl hl.1 rfl (Nat.le_of_ble_eq_true rfl) dX2_multiplier_46 ⟨Nat.le_of_ble_eq_true rfl, Nat.le_of_ble_eq_true rfl⟩) hL (fun u_17 H locs k_18 hW hL => ?_)
        obtain ⟨iu_17, fu_17, xu_17⟩ := k_18
        have F_19 := (Fr.rf : Fr S S (pB v)).trans fu_17
        refine lv_goto (tgt := 57) hx hb dX2_multiplier_49 (by decide) ?_
        have q_20 : 0 ≤ u_17.1 v 1 ∧ u_17.1 v 1 ≤ 32 := iu_17.fi v 1 0 (big_lt hv) hv
        exact sVret Cx hr hlk hW hL ⟨iu_17, F_19, (by omega)⟩ dX2_multiplier_57
  · refine lv_aload_n hx hb dX2_multiplier_12 rfl (lv_at hl 4 rfl) ?_
    refine lv_aload_n hx hb dX2_multiplier_13 rfl (lv_at hl 1 rfl) ?_
    obtain ⟨o_21, o_22, mo_21, mo_22, no_21, eo_21, eo_22⟩ := rm_135 hI
    refine g_X2_13 Cx hW (k := 135) (by decide) rfl (v := .ref (G.2.2.1 + o_21)) eo_21 dX2_multiplier_14 ?_
    refine lv_iload_n hx hb dX2_multiplier_17 rfl (lv_at hl 2 rfl) ?_
    refine lv_iload hx hb dX2_multiplier_18 (lv_at hl 0 rfl) ?_
    refine sBi (sSt (As := [.int (iv i), .int (iv r_4)]) (rest := [.ref (G.2.2.1 + o_21), .ref (G.2.2.1 + v)]) Cx (s_X2_at l G S (i := i) (j := r_4) (by omega) (by omega)) (c_X2_77 Cx rfl rfl (rmk_ok (by omega) (by decide))) hW rfl hl.1 rfl (Nat.le_of_ble_eq_true rfl) dX2_multiplier_20 ⟨Nat.le_of_ble_eq_true rfl, Nat.le_of_ble_eq_true rfl⟩) hL (fun r_25 u_23 H locs k_24 hW hL => ?_)
    obtain ⟨eu_23, xu_23⟩ := k_24
    rw [eu_23] at hW
    refine sBv (sV (As := [.ref (G.2.2.1 + o_21), .int (iv r_25)]) (rest := []) (k := v) Cx (s_X0_load l G S (o := v) (k := o_21) (a := r_25) (N := 4816) hI hv (dic_a mo_21) (by omega)) (c_X2_106 Cx rfl rfl (rmk_ok (by omega) (by decide))) hW (big_l hv) hv rfl rfl hl.1 rfl (Nat.le_of_ble_eq_true rfl) dX2_multiplier_23 ⟨Nat.le_of_ble_eq_true rfl, Nat.le_of_ble_eq_true rfl⟩) hL (fun u_26 H locs k_27 hW hL => ?_)
    obtain ⟨iu_26, fu_26, xu_26⟩ := k_27
    have F_28 := (Fr.rf : Fr S S (pB v)).trans fu_26
    have yu_26 : u_26.1 v 1 ≤ 6 := by have e := xu_26.1; rw [dic_L mo_21] at e; exact e
    refine lv_goto (tgt := 57) hx hb dX2_multiplier_26 (by decide) ?_
    have q_29 : 0 ≤ u_26.1 v 1 ∧ u_26.1 v 1 ≤ 32 := iu_26.fi v 1 0 (big_lt hv) hv
    exact sVret Cx hr hlk hW hL ⟨iu_26, F_28, (by omega)⟩ dX2_multiplier_57
