set_option maxRecDepth 100000 in
set_option maxHeartbeats 4000000 in
theorem s_X0_compareSize (l : Launch) (G : sG) (S : sS) {o a : Nat} (hI : cX G S 0 0 0) (ho : tau o = .inl 0) (ha : tau a = .inl 0) : Met l yX0_compareSize (.code yX0_compareSize cX0_compareSize 3 (some .int) :: tb) (rmk 2 0 0) (sPc G 294 S [.ref (G.2.2.1 + o), .ref (G.2.2.1 + a)]) (sQi G 294 (fun r u => u = S ∧ (-1 ≤ r ∧ r ≤ 1 ∧ (0 ≤ r → S.1 a 1 ≤ S.1 o 1) ∧ (r < 0 → S.1 o 1 ≤ S.1 a 1) ∧ Hd (0 ≤ r → VR S a ≤ VR S o) ∧ Hd (r < 0 → VR S o < VR S a)))) 0 0 (sF G) := by
  refine sEnter (by decide) (Nat.le_of_ble_eq_true rfl) ?_
  intro p e s m args below meth c Cx hr hlk hnm hW ls hl
  have Cx : sC G p m c cX0_compareSize 3 s args RX0 := Cx
  obtain ⟨hx, hb, hml, hown, hts⟩ := id Cx.1
  have hL : sL G [] := sL_nil
  have hl : lv_has ls 3 [(0, .ref (G.2.2.1 + o)), (1, .ref (G.2.2.1 + a))] := hl
  have hW0 := hW
  refine lv_aload_n hx hb dX0_compareSize_0 rfl (lv_at hl 0 rfl) ?_
  have q_1 : 0 ≤ S.1 o 1 ∧ S.1 o 1 ≤ 32 := hI.fi o 1 0 (big_lt ho) ho
  refine g_X0_24 Cx hW (k := o) (big_l ho) ho (v := S.1 o 1) rfl dX0_compareSize_1 ?_
  refine lv_aload_n hx hb dX0_compareSize_4 rfl (lv_at hl 1 rfl) ?_
  have q_2 : 0 ≤ S.1 a 1 ∧ S.1 a 1 ≤ 32 := hI.fi a 1 0 (big_lt ha) ha
  refine g_X0_24 Cx hW (k := a) (big_l ha) ha (v := S.1 a 1) rfl dX0_compareSize_5 ?_
  refine r_icmp_eq (tgt := 23) hx hb ⟨(by omega), (by omega)⟩ ⟨(by omega), (by omega)⟩ dX0_compareSize_8 (by decide) (fun c_3 => ?_) (fun c_3 => ?_)
  · refine lv_aload_n hx hb dX0_compareSize_23 rfl (lv_at hl 0 rfl) ?_
    refine g_X0_24 Cx hW (k := o) (big_l ho) ho (v := S.1 o 1) rfl dX0_compareSize_24 ?_
    refine lv_iconst (v := iv 1) hx hb dX0_compareSize_27 (by decide) ?_
    refine r_isub hx hb dX0_compareSize_28 ?_
    refine lv_istore_n (lv' := [(2, .int (iv ((S.1 o 1) - 1))), (0, .ref (G.2.2.1 + o)), (1, .ref (G.2.2.1 + a))]) hx hb dX0_compareSize_29 rfl hl (by decide) rfl (fun ls hl => ?_)
    have loop_30 : ∀ (fuel : Nat) (i : Int) (H : Heap) (locs : List Loc) (ls : Array Slot), (i + 1).toNat < fuel → (-1 ≤ i ∧ i < S.1 o 1) → (∀ j, i < j → j < S.1 o 1 → S.2.1 (o + 1) j = S.2.1 (a + 1) j) → sW G 294 S H → sL G locs → lv_has ls 3 [(2, .int (iv i)), (0, .ref (G.2.2.1 + o)), (1, .ref (G.2.2.1 + a))] → W p l e (rmk 2 0 0) s m args below meth c H locs 0 0 (MQ below (sQi G 294 (fun r u => u = S ∧ (-1 ≤ r ∧ r ≤ 1 ∧ (0 ≤ r → S.1 a 1 ≤ S.1 o 1) ∧ (r < 0 → S.1 o 1 ≤ S.1 a 1) ∧ Hd (0 ≤ r → VR S a ≤ VR S o) ∧ Hd (r < 0 → VR S o < VR S a)))) args s 0 0 (sF G)) (F0 m 30 ls []) := by
      intro fuel
      induction fuel with
      | zero => intro i H locs ls hmeas hi heq hW hL hl; exact absurd hmeas (Nat.not_lt_zero _)
      | succ fuel ih_30 =>
        intro i H locs ls hmeas hi heq hW hL hl
        refine lv_iload_n hx hb dX0_compareSize_30 rfl (lv_at hl 0 rfl) ?_
        refine r_if_lt (tgt := 71) hx hb ⟨(by omega), (by omega)⟩ dX0_compareSize_31 (by decide) (fun c_4 => ?_) (fun c_4 => ?_)
        · refine lv_iconst (v := iv 0) hx hb dX0_compareSize_71 (by decide) ?_
          exact sIret Cx hr hlk hW hL ⟨rfl, ⟨by omega, by omega, by omega, by omega, fun q => by first | exact Int.le_of_lt (cmp_cnt hI ho ha (by omega) (by omega)) | exact Int.le_of_lt (cmp_limb hI ho ha (by omega) (by omega) (by omega) heq (by omega)) | exact cmp_eq (by omega) (fun j j0 j1 => heq j (by omega) j1), fun q => by first | (exfalso; omega) | exact cmp_cnt hI ha ho (by omega) (by omega) | exact cmp_limb hI ha ho (by omega) (by omega) (by omega) (fun j j0 j1 => (heq j j0 (by omega)).symm) (by omega)⟩⟩ dX0_compareSize_72
        · refine lv_aload_n hx hb dX0_compareSize_34 rfl (lv_at hl 1 rfl) ?_
          refine g_X0_9 Cx hW (k := o) (big_l ho) ho (v := .ref (G.2.2.1 + (o + 1))) (hI.rq.1 o ho) dX0_compareSize_35 ?_
          refine lv_iload_n hx hb dX0_compareSize_38 rfl (lv_at hl 0 rfl) ?_
          refine rIald Cx hW (k := o + 1) (big_l1 ho) (big_row ho).1 (by decide) (by omega) (by omega) dX0_compareSize_39 ?_
          have q_5 := limbR hI ho i
          refine r_i (b := S.2.1 (o + 1) i) rfl ?_
          refine lv_aload_n hx hb dX0_compareSize_40 rfl (lv_at hl 2 rfl) ?_
          refine g_X0_9 Cx hW (k := a) (big_l ha) ha (v := .ref (G.2.2.1 + (a + 1))) (hI.rq.1 a ha) dX0_compareSize_41 ?_
          refine lv_iload_n hx hb dX0_compareSize_44 rfl (lv_at hl 0 rfl) ?_
          refine rIald Cx hW (k := a + 1) (big_l1 ha) (big_row ha).1 (by decide) (by omega) (by omega) dX0_compareSize_45 ?_
          have q_6 := limbR hI ha i
          refine r_i (b := S.2.1 (a + 1) i) rfl ?_
          refine r_icmp_eq (tgt := 65) hx hb ⟨(by omega), (by omega)⟩ ⟨(by omega), (by omega)⟩ dX0_compareSize_46 (by decide) (fun c_7 => ?_) (fun c_7 => ?_)
          · refine lv_iinc (v := iv (i + (-1))) (lv' := [(2, .int (iv (i + (-1)))), (0, .ref (G.2.2.1 + o)), (1, .ref (G.2.2.1 + a))]) hx hb dX0_compareSize_65 hl (k := 0) rfl ((Int32.ofInt_add _ _).symm) (by decide) rfl (fun ls hl => ?_)
            refine lv_goto (tgt := 30) hx hb dX0_compareSize_68 (by decide) ?_
            exact ih_30 (i + (-1)) _ _ _ (by omega) (by omega) (fun j j0 j1 => by rcases (by omega : j = i ∨ i < j) with q | q; rw [q]; assumption; exact heq j q j1) hW hL (lv_sub hl [0, 1, 2] rfl)
          · refine lv_aload_n hx hb dX0_compareSize_49 rfl (lv_at hl 1 rfl) ?_
            refine g_X0_9 Cx hW (k := o) (big_l ho) ho (v := .ref (G.2.2.1 + (o + 1))) (hI.rq.1 o ho) dX0_compareSize_50 ?_
            refine lv_iload_n hx hb dX0_compareSize_53 rfl (lv_at hl 0 rfl) ?_
            refine rIald Cx hW (k := o + 1) (big_l1 ho) (big_row ho).1 (by decide) (by omega) (by omega) dX0_compareSize_54 ?_
            refine r_i (b := S.2.1 (o + 1) i) rfl ?_
            refine lv_aload_n hx hb dX0_compareSize_55 rfl (lv_at hl 2 rfl) ?_
            refine g_X0_9 Cx hW (k := a) (big_l ha) ha (v := .ref (G.2.2.1 + (a + 1))) (hI.rq.1 a ha) dX0_compareSize_56 ?_
            refine lv_iload_n hx hb dX0_compareSize_59 rfl (lv_at hl 0 rfl) ?_
            refine rIald Cx hW (k := a + 1) (big_l1 ha) (big_row ha).1 (by decide) (by omega) (by omega) dX0_compareSize_60 ?_
            refine r_i (b := S.2.1 (a + 1) i) rfl ?_
            refine sBi (sSt (As := [.int (iv (S.2.1 (o + 1) i)), .int (iv (S.2.1 (a + 1) i))]) (rest := []) Cx (t_J6_compare_7cf53 l G S (a := S.2.1 (o + 1) i) (b := S.2.1 (a + 1) i) (by omega) (by omega)) (c_X0_88 Cx rfl rfl (rmk_ok (by omega) (by decide))) hW rfl hl.1 rfl (Nat.le_of_ble_eq_true rfl) dX0_compareSize_61 ⟨Nat.le_of_ble_eq_true rfl, Nat.le_of_ble_eq_true rfl⟩) hL (fun r_10 u_8 H locs k_9 hW hL => ?_)
            obtain ⟨eu_8, xu_8⟩ := k_9
            rw [eu_8] at hW
            exact sIret Cx hr hlk hW hL ⟨rfl, ⟨by omega, by omega, by omega, by omega, fun q => by first | exact Int.le_of_lt (cmp_cnt hI ho ha (by omega) (by omega)) | exact Int.le_of_lt (cmp_limb hI ho ha (by omega) (by omega) (by omega) heq (by omega)) | exact cmp_eq (by omega) (fun j j0 j1 => heq j (by omega) j1), fun q => by first | (exfalso; omega) | exact cmp_cnt hI ha ho (by omega) (by omega) | exact cmp_limb hI ha ho (by omega) (by omega) (by omega) (fun j j0 j1 => (heq j j0 (by omega)).symm) (by omega)⟩⟩ dX0_compareSize_64
    exact loop_30 (_ + 1) ((S.1 o 1) - 1) _ _ _ (Nat.lt_succ_self _) (by omega) (fun j j0 j1 => absurd j1 (by omega)) hW hL (lv_sub hl [0, 1, 2] rfl)
  · refine lv_aload_n hx hb dX0_compareSize_11 rfl (lv_at hl 0 rfl) ?_
    refine g_X0_24 Cx hW (k := o) (big_l ho) ho (v := S.1 o 1) rfl dX0_compareSize_12 ?_
    refine lv_aload_n hx hb dX0_compareSize_15 rfl (lv_at hl 1 rfl) ?_
    refine g_X0_24 Cx hW (k := a) (big_l ha) ha (v := S.1 a 1) rfl dX0_compareSize_16 ?_
    refine sBi (sSt (As := [.int (iv (S.1 o 1)), .int (iv (S.1 a 1))]) (rest := []) Cx (t_J6_compare_7cf53 l G S (a := S.1 o 1) (b := S.1 a 1) (by omega) (by omega)) (c_X0_88 Cx rfl rfl (rmk_ok (by omega) (by decide))) hW rfl hl.1 rfl (Nat.le_of_ble_eq_true rfl) dX0_compareSize_19 ⟨Nat.le_of_ble_eq_true rfl, Nat.le_of_ble_eq_true rfl⟩) hL (fun r_13 u_11 H locs k_12 hW hL => ?_)
    obtain ⟨eu_11, xu_11⟩ := k_12
    rw [eu_11] at hW
    exact sIret Cx hr hlk hW hL ⟨rfl, ⟨by omega, by omega, by omega, by omega, fun q => by first | exact Int.le_of_lt (cmp_cnt hI ho ha (by omega) (by omega)) | exact Int.le_of_lt (cmp_limb hI ho ha (by omega) (by omega) (by omega) heq (by omega)) | exact cmp_eq (by omega) (fun j j0 j1 => heq j (by omega) j1), fun q => by first | (exfalso; omega) | exact cmp_cnt hI ha ho (by omega) (by omega) | exact cmp_limb hI ha ho (by omega) (by omega) (by omega) (fun j j0 j1 => (heq j j0 (by omega)).symm) (by omega)⟩⟩ dX0_compareSize_22

set_option maxRecDepth 100000 in
set_option maxHeartbeats 4000000 in
theorem s_X0_compareWith (l : Launch) (G : sG) (S : sS) {o a : Nat} (hI : cX G S 0 0 0) (ho : tau o = .inl 0) (ha : tau a = .inl 0) : Met l yX0_compareWith (.code yX0_compareWith cX0_compareWith 2 (some .int) :: tb) (rmk 3 0 0) (sPc G 294 S [.ref (G.2.2.1 + o), .ref (G.2.2.1 + a)]) (sQi G 294 (fun r u => u = S ∧ (-1 ≤ r ∧ r ≤ 1))) 0 0 (sF G) := by
  refine sEnter (by decide) (Nat.le_of_ble_eq_true rfl) ?_
  intro p e s m args below meth c Cx hr hlk hnm hW ls hl
  have Cx : sC G p m c cX0_compareWith 2 s args RX0 := Cx
  obtain ⟨hx, hb, hml, hown, hts⟩ := id Cx.1
  have hL : sL G [] := sL_nil
  have hl : lv_has ls 2 [(0, .ref (G.2.2.1 + o)), (1, .ref (G.2.2.1 + a))] := hl
  have hW0 := hW
  refine lv_aload_n hx hb dX0_compareWith_0 rfl (lv_at hl 0 rfl) ?_
  have q_1 : (-1) ≤ S.1 o 2 ∧ S.1 o 2 ≤ 1 := hI.fi o 2 0 (big_lt ho) ho
  refine g_X0_34 Cx hW (k := o) (big_l ho) ho (v := S.1 o 2) rfl dX0_compareWith_1 ?_
  refine lv_aload_n hx hb dX0_compareWith_4 rfl (lv_at hl 1 rfl) ?_
  have q_2 : (-1) ≤ S.1 a 2 ∧ S.1 a 2 ≤ 1 := hI.fi a 2 0 (big_lt ha) ha
  refine g_X0_34 Cx hW (k := a) (big_l ha) ha (v := S.1 a 2) rfl dX0_compareWith_5 ?_
  refine r_icmp_eq (tgt := 23) hx hb ⟨(by omega), (by omega)⟩ ⟨(by omega), (by omega)⟩ dX0_compareWith_8 (by decide) (fun c_3 => ?_) (fun c_3 => ?_)
  · refine lv_aload_n hx hb dX0_compareWith_23 rfl (lv_at hl 0 rfl) ?_
    refine g_X0_34 Cx hW (k := o) (big_l ho) ho (v := S.1 o 2) rfl dX0_compareWith_24 ?_
    refine lv_aload_n hx hb dX0_compareWith_27 rfl (lv_at hl 0 rfl) ?_
    refine lv_aload_n hx hb dX0_compareWith_28 rfl (lv_at hl 1 rfl) ?_
    have q_4 : 0 ≤ S.1 a 1 ∧ S.1 a 1 ≤ 32 := hI.fi a 1 0 (big_lt ha) ha
    have q_5 : 0 ≤ S.1 o 1 ∧ S.1 o 1 ≤ 32 := hI.fi o 1 0 (big_lt ho) ho
    refine sBi (sV (As := [.ref (G.2.2.1 + a)]) (rest := [.int (iv (S.1 o 2))]) (k := o) Cx (s_X0_compareSize l G S (o := o) (a := a) hI ho ha) (c_X0_79 Cx rfl rfl (rmk_ok (by omega) (by decide))) hW (big_l ho) ho rfl rfl hl.1 rfl (Nat.le_of_ble_eq_true rfl) dX0_compareWith_29 ⟨Nat.le_of_ble_eq_true rfl, Nat.le_of_ble_eq_true rfl⟩) hL (fun r_8 u_6 H locs k_7 hW hL => ?_)
    obtain ⟨eu_6, xu_6⟩ := k_7
    rw [eu_6] at hW
    refine r_imul hx hb dX0_compareWith_32 ?_
    obtain ⟨zz, ezz⟩ : ∃ z : Int, z = (S.1 o 2) * r_8 := ⟨_, rfl⟩
    refine r_i (b := zz) ezz.symm ?_
    have hzz : -1 ≤ zz ∧ zz ≤ 1 := by rw [ezz]; exact mul_s (by omega) (by omega)
    exact sIret Cx hr hlk hW hL ⟨rfl, (by omega)⟩ dX0_compareWith_33
  · refine lv_aload_n hx hb dX0_compareWith_11 rfl (lv_at hl 0 rfl) ?_
    refine g_X0_34 Cx hW (k := o) (big_l ho) ho (v := S.1 o 2) rfl dX0_compareWith_12 ?_
    refine lv_aload_n hx hb dX0_compareWith_15 rfl (lv_at hl 1 rfl) ?_
    refine g_X0_34 Cx hW (k := a) (big_l ha) ha (v := S.1 a 2) rfl dX0_compareWith_16 ?_
    refine sBi (sSt (As := [.int (iv (S.1 o 2)), .int (iv (S.1 a 2))]) (rest := []) Cx (t_J6_compare_7cf53 l G S (a := S.1 o 2) (b := S.1 a 2) (by omega) (by omega)) (c_X0_88 Cx rfl rfl (rmk_ok (by omega) (by decide))) hW rfl hl.1 rfl (Nat.le_of_ble_eq_true rfl) dX0_compareWith_19 ⟨Nat.le_of_ble_eq_true rfl, Nat.le_of_ble_eq_true rfl⟩) hL (fun r_11 u_9 H locs k_10 hW hL => ?_)
    obtain ⟨eu_9, xu_9⟩ := k_10
    rw [eu_9] at hW
    exact sIret Cx hr hlk hW hL ⟨rfl, (by omega)⟩ dX0_compareWith_22

set_option maxRecDepth 100000 in
set_option maxHeartbeats 4000000 in
theorem s_X0_lowBits (l : Launch) (G : sG) (S : sS) {o : Nat} (hI : cX G S 0 0 0) (ho : tau o = .inl 0) : Met l yX0_lowBits (.code yX0_lowBits cX0_lowBits 4 (some .long) :: tb) (rmk 1 0 0) (sPc G 294 S [.ref (G.2.2.1 + o)]) (sQl G 294 (fun r u => u = S ∧ (-9223372036854775808 ≤ r ∧ r ≤ 9223372036854775807))) 0 0 (sF G) := by
  refine sEnter (by decide) (Nat.le_of_ble_eq_true rfl) ?_
  intro p e s m args below meth c Cx hr hlk hnm hW ls hl
  have Cx : sC G p m c cX0_lowBits 4 s args RX0 := Cx
  obtain ⟨hx, hb, hml, hown, hts⟩ := id Cx.1
  have hL : sL G [] := sL_nil
  have hl : lv_has ls 4 [(0, .ref (G.2.2.1 + o))] := hl
  have hW0 := hW
  refine lv_lconst (v := jv 0) hx hb dX0_lowBits_0 (by decide) ?_
  refine lv_lstore_n (lv' := [(1, .long (jv 0)), (0, .ref (G.2.2.1 + o))]) hx hb dX0_lowBits_1 rfl hl (by decide) rfl (fun ls hl => ?_)
  refine lv_aload_n hx hb dX0_lowBits_2 rfl (lv_at hl 1 rfl) ?_
  have q_1 : 0 ≤ S.1 o 1 ∧ S.1 o 1 ≤ 32 := hI.fi o 1 0 (big_lt ho) ho
  refine g_X0_24 Cx hW (k := o) (big_l ho) ho (v := S.1 o 1) rfl dX0_lowBits_3 ?_
  refine lv_iconst (v := iv 1) hx hb dX0_lowBits_6 (by decide) ?_
  refine r_isub hx hb dX0_lowBits_7 ?_
  refine lv_istore_n (lv' := [(3, .int (iv ((S.1 o 1) - 1))), (1, .long (jv 0)), (0, .ref (G.2.2.1 + o))]) hx hb dX0_lowBits_8 rfl hl (by decide) rfl (fun ls hl => ?_)
  have loop_9 : ∀ (fuel : Nat) (i : Int) (v : Int) (H : Heap) (locs : List Loc) (ls : Array Slot), (i + 1).toNat < fuel → (-1 ≤ i ∧ i < S.1 o 1) → (-9223372036854775808 ≤ v ∧ v ≤ 9223372036854775807) → sW G 294 S H → sL G locs → lv_has ls 4 [(3, .int (iv i)), (1, .long (jv v)), (0, .ref (G.2.2.1 + o))] → W p l e (rmk 1 0 0) s m args below meth c H locs 0 0 (MQ below (sQl G 294 (fun r u => u = S ∧ (-9223372036854775808 ≤ r ∧ r ≤ 9223372036854775807))) args s 0 0 (sF G)) (F0 m 9 ls []) := by
    intro fuel
    induction fuel with
    | zero => intro i v H locs ls hmeas hi hv hW hL hl; exact absurd hmeas (Nat.not_lt_zero _)
    | succ fuel ih_9 =>
      intro i v H locs ls hmeas hi hv hW hL hl
      refine lv_iload_n hx hb dX0_lowBits_9 rfl (lv_at hl 0 rfl) ?_
      refine r_if_lt (tgt := 33) hx hb ⟨(by omega), (by omega)⟩ dX0_lowBits_10 (by decide) (fun c_2 => ?_) (fun c_2 => ?_)
      · refine lv_aload_n hx hb dX0_lowBits_33 rfl (lv_at hl 2 rfl) ?_
        have q_3 : (-1) ≤ S.1 o 2 ∧ S.1 o 2 ≤ 1 := hI.fi o 2 0 (big_lt ho) ho
        refine g_X0_34 Cx hW (k := o) (big_l ho) ho (v := S.1 o 2) rfl dX0_lowBits_34 ?_
        refine r_if_ge (tgt := 45) hx hb ⟨(by omega), (by omega)⟩ dX0_lowBits_37 (by decide) (fun c_4 => ?_) (fun c_4 => ?_)
        · refine lv_lload_n hx hb dX0_lowBits_45 rfl (lv_at hl 1 rfl) ?_
          exact sLret Cx hr hlk hW hL ⟨rfl, (by omega)⟩ dX0_lowBits_46
        · refine lv_lload_n hx hb dX0_lowBits_40 rfl (lv_at hl 1 rfl) ?_
          refine r_lneg hx hb dX0_lowBits_41 ?_
          obtain ⟨z_5, ez_5, hz_5, kz_5⟩ := jv_of (jv (-v))
          rw [ez_5]
          refine lv_goto (tgt := 46) hx hb dX0_lowBits_42 (by decide) ?_
          exact sLret Cx hr hlk hW hL ⟨rfl, (by omega)⟩ dX0_lowBits_46
      · refine lv_lload_n hx hb dX0_lowBits_13 rfl (lv_at hl 1 rfl) ?_
        refine lv_ldc2 hx hb hown (hts _ w_1163) dX0_lowBits_14 ?_
        refine r_lmul hx hb dX0_lowBits_17 ?_
        refine lv_aload_n hx hb dX0_lowBits_18 rfl (lv_at hl 2 rfl) ?_
        refine g_X0_9 Cx hW (k := o) (big_l ho) ho (v := .ref (G.2.2.1 + (o + 1))) (hI.rq.1 o ho) dX0_lowBits_19 ?_
        refine lv_iload_n hx hb dX0_lowBits_22 rfl (lv_at hl 0 rfl) ?_
        refine rIald Cx hW (k := o + 1) (big_l1 ho) (big_row ho).1 (by decide) (by omega) (by omega) dX0_lowBits_23 ?_
        have q_6 := limbR hI ho i
        refine r_i (b := S.2.1 (o + 1) i) rfl ?_
        refine r_i2l hx hb ⟨(by omega), (by omega)⟩ dX0_lowBits_24 ?_
        refine r_ladd hx hb dX0_lowBits_25 ?_
        obtain ⟨z_7, ez_7, hz_7, kz_7⟩ := jv_of (jv ((v * 1000000000) + (S.2.1 (o + 1) i)))
        rw [ez_7]
        refine lv_lstore_n (lv' := [(1, .long (jv z_7)), (3, .int (iv i)), (0, .ref (G.2.2.1 + o))]) hx hb dX0_lowBits_26 rfl hl (by decide) rfl (fun ls hl => ?_)
        refine lv_iinc (v := iv (i + (-1))) (lv' := [(3, .int (iv (i + (-1)))), (1, .long (jv z_7)), (0, .ref (G.2.2.1 + o))]) hx hb dX0_lowBits_27 hl (k := 1) rfl ((Int32.ofInt_add _ _).symm) (by decide) rfl (fun ls hl => ?_)
        refine lv_goto (tgt := 9) hx hb dX0_lowBits_30 (by decide) ?_
        exact ih_9 (i + (-1)) z_7 _ _ _ (by omega) (by omega) (by omega) hW hL (lv_sub hl [0, 1, 2] rfl)
  exact loop_9 (_ + 1) ((S.1 o 1) - 1) 0 _ _ _ (Nat.lt_succ_self _) (by omega) (by omega) hW hL (lv_sub hl [0, 1, 2] rfl)

set_option maxRecDepth 100000 in
set_option maxHeartbeats 4000000 in
theorem s_X0_digitCount (l : Launch) (G : sG) (S : sS) {o : Nat} (hI : cX G S 0 0 0) (ho : tau o = .inl 0) : Met l yX0_digitCount (.code yX0_digitCount cX0_digitCount 3 (some .int) :: tb) (rmk 1 0 0) (sPc G 294 S [.ref (G.2.2.1 + o)]) (sQi G 294 (fun r u => u = S ∧ (1 ≤ r ∧ r ≤ 1000000300 ∧ (r ≤ 60 → S.1 o 1 ≤ 7)))) 0 0 (sF G) := by
  refine sEnter (by decide) (Nat.le_of_ble_eq_true rfl) ?_
  intro p e s m args below meth c Cx hr hlk hnm hW ls hl
  have Cx : sC G p m c cX0_digitCount 3 s args RX0 := Cx
  obtain ⟨hx, hb, hml, hown, hts⟩ := id Cx.1
  have hL : sL G [] := sL_nil
  have hl : lv_has ls 3 [(0, .ref (G.2.2.1 + o))] := hl
  have hW0 := hW
  have hnb := nbH hI ho
  refine lv_aload_n hx hb dX0_digitCount_0 rfl (lv_at hl 0 rfl) ?_
  have q_1 : 0 ≤ S.1 o 1 ∧ S.1 o 1 ≤ 32 := hI.fi o 1 0 (big_lt ho) ho
  refine g_X0_24 Cx hW (k := o) (big_l ho) ho (v := S.1 o 1) rfl dX0_digitCount_1 ?_
  refine r_if_ne (tgt := 9) hx hb ⟨(by omega), (by omega)⟩ dX0_digitCount_4 (by decide) (fun c_2 => ?_) (fun c_2 => ?_)
  · refine lv_bipush (v := iv 9) hx hb dX0_digitCount_9 (by decide) ?_
    refine lv_aload_n hx hb dX0_digitCount_11 rfl (lv_at hl 0 rfl) ?_
    refine g_X0_24 Cx hW (k := o) (big_l ho) ho (v := S.1 o 1) rfl dX0_digitCount_12 ?_
    refine lv_iconst (v := iv 1) hx hb dX0_digitCount_15 (by decide) ?_
    refine r_isub hx hb dX0_digitCount_16 ?_
    refine r_imul hx hb dX0_digitCount_17 ?_
    refine lv_istore_n (lv' := [(1, .int (iv (9 * ((S.1 o 1) - 1)))), (0, .ref (G.2.2.1 + o))]) hx hb dX0_digitCount_18 rfl hl (by decide) rfl (fun ls hl => ?_)
    refine lv_aload_n hx hb dX0_digitCount_19 rfl (lv_at hl 1 rfl) ?_
    refine g_X0_9 Cx hW (k := o) (big_l ho) ho (v := .ref (G.2.2.1 + (o + 1))) (hI.rq.1 o ho) dX0_digitCount_20 ?_
    refine lv_aload_n hx hb dX0_digitCount_23 rfl (lv_at hl 1 rfl) ?_
    refine g_X0_24 Cx hW (k := o) (big_l ho) ho (v := S.1 o 1) rfl dX0_digitCount_24 ?_
    refine lv_iconst (v := iv 1) hx hb dX0_digitCount_27 (by decide) ?_
    refine r_isub hx hb dX0_digitCount_28 ?_
    refine rIald Cx hW (k := o + 1) (big_l1 ho) (big_row ho).1 (by decide) (by omega) (by omega) dX0_digitCount_29 ?_
    have q_3 := limbR hI ho ((S.1 o 1) - 1)
    refine r_i (b := S.2.1 (o + 1) ((S.1 o 1) - 1)) rfl ?_
    refine lv_istore_n (lv' := [(2, .int (iv (S.2.1 (o + 1) ((S.1 o 1) - 1)))), (1, .int (iv (9 * ((S.1 o 1) - 1)))), (0, .ref (G.2.2.1 + o))]) hx hb dX0_digitCount_30 rfl hl (by decide) rfl (fun ls hl => ?_)
    have loop_31 : ∀ (fuel : Nat) (x : Int) (d : Int) (H : Heap) (locs : List Loc) (ls : Array Slot), x.toNat < fuel → (0 ≤ x ∧ x ≤ 999999999) → (9 * (S.1 o 1 - 1) ≤ d ∧ d + x ≤ 9 * (S.1 o 1 - 1) + 999999999 ∧ (x = 0 → 9 * (S.1 o 1 - 1) + 1 ≤ d)) → sW G 294 S H → sL G locs → lv_has ls 3 [(2, .int (iv x)), (1, .int (iv d)), (0, .ref (G.2.2.1 + o))] → W p l e (rmk 1 0 0) s m args below meth c H locs 0 0 (MQ below (sQi G 294 (fun r u => u = S ∧ (1 ≤ r ∧ r ≤ 1000000300 ∧ (r ≤ 60 → S.1 o 1 ≤ 7)))) args s 0 0 (sF G)) (F0 m 31 ls []) := by
      intro fuel
      induction fuel with
      | zero => intro x d H locs ls hmeas hxx hd hW hL hl; exact absurd hmeas (Nat.not_lt_zero _)
      | succ fuel ih_31 =>
        intro x d H locs ls hmeas hxx hd hW hL hl
        refine lv_iload_n hx hb dX0_digitCount_31 rfl (lv_at hl 0 rfl) ?_
        refine r_if_le (tgt := 46) hx hb ⟨(by omega), (by omega)⟩ dX0_digitCount_32 (by decide) (fun c_4 => ?_) (fun c_4 => ?_)
        · refine lv_iload_n hx hb dX0_digitCount_46 rfl (lv_at hl 1 rfl) ?_
          exact sIret Cx hr hlk hW hL ⟨rfl, (by omega)⟩ dX0_digitCount_47
        · refine lv_iinc (v := iv (d + 1)) (lv' := [(1, .int (iv (d + 1))), (2, .int (iv x)), (0, .ref (G.2.2.1 + o))]) hx hb dX0_digitCount_35 hl (k := 1) rfl ((Int32.ofInt_add _ _).symm) (by decide) rfl (fun ls hl => ?_)
          refine lv_iload_n hx hb dX0_digitCount_38 rfl (lv_at hl 1 rfl) ?_
          refine lv_bipush (v := iv 10) hx hb dX0_digitCount_39 (by decide) ?_
          refine r_idiv hx hb ⟨(by omega), (by omega)⟩ ⟨(by omega), (by omega)⟩ (by omega) dX0_digitCount_41 ?_
          obtain ⟨z_5, ez_5⟩ : ∃ z : Int, z = x.tdiv 10 := ⟨_, rfl⟩
          have hz_5 := tdivL (a := x) (b := 10) (by omega)
          rw [← ez_5] at hz_5
          refine r_i (b := z_5) ez_5.symm ?_
          clear ez_5
          refine lv_istore_n (lv' := [(2, .int (iv z_5)), (1, .int (iv (d + 1))), (0, .ref (G.2.2.1 + o))]) hx hb dX0_digitCount_42 rfl hl (by decide) rfl (fun ls hl => ?_)
          refine lv_goto (tgt := 31) hx hb dX0_digitCount_43 (by decide) ?_
          exact ih_31 z_5 (d + 1) _ _ _ (by omega) (by omega) (by omega) hW hL (lv_sub hl [0, 1, 2] rfl)
    have hnb2 := hnb (by omega)
    exact loop_31 (_ + 1) (S.2.1 (o + 1) ((S.1 o 1) - 1)) (9 * ((S.1 o 1) - 1)) _ _ _ (Nat.lt_succ_self _) (by omega) (by omega) hW hL (lv_sub hl [0, 1, 2] rfl)
  · refine lv_iconst (v := iv 1) hx hb dX0_digitCount_7 (by decide) ?_
    exact sIret Cx hr hlk hW hL ⟨rfl, (by omega)⟩ dX0_digitCount_8

set_option maxRecDepth 100000 in
set_option maxHeartbeats 4000000 in
theorem s_X0_addSize (l : Launch) (G : sG) (S : sS) {o a : Nat} {n t : Int} (hI : cX G S 0 0 0) (ho : tau o = .inl 0) (ha : tau a = .inl 0) (noa : Hd (o ≠ a)) (hnt : (0 ≤ n ∧ n ≤ 30) ∧ (0 ≤ t ∧ t ≤ 999999990) ∧ S.1 a 1 ≤ n ∧ S.1 o 1 ≤ n + 1) (hnt2 : Hd (S.1 o 1 = n + 1 → S.2.1 (o + 1) n ≤ t)) : Met l yX0_addSize (.code yX0_addSize cX0_addSize 6 none :: tb) (rmk 2 0 0) (sPc G 294 S [.ref (G.2.2.1 + o), .ref (G.2.2.1 + a)]) (sQv G 294 (fun u => cX G u 0 0 0 ∧ Fr S u (pB o) ∧ (u.1 o 1 ≤ n + 1 ∧ (u.1 o 1 = n + 1 → u.2.1 (o + 1) n ≤ t + 1) ∧ u.1 o 2 = S.1 o 2))) 0 0 (sF G) := by
  refine sEnter (by decide) (Nat.le_of_ble_eq_true rfl) ?_
  intro p e s m args below meth c Cx hr hlk hnm hW ls hl
  have Cx : sC G p m c cX0_addSize 6 s args RX0 := Cx
  obtain ⟨hx, hb, hml, hown, hts⟩ := id Cx.1
  have hL : sL G [] := sL_nil
  have hl : lv_has ls 6 [(0, .ref (G.2.2.1 + o)), (1, .ref (G.2.2.1 + a))] := hl
  have hW0 := hW
  have hnb := nbH hI ho
  have hna := nbH hI ha
  have j_1 := hI.exB o
  refine lv_aload_n hx hb dX0_addSize_0 rfl (lv_at hl 0 rfl) ?_
  have q_2 : 0 ≤ S.1 o 1 ∧ S.1 o 1 ≤ 32 := j_1.fi o 1 0 (big_lt ho) ho
  refine g_X0_24 Cx hW (k := o) (big_l ho) ho (v := S.1 o 1) rfl dX0_addSize_1 ?_
  refine lv_aload_n hx hb dX0_addSize_4 rfl (lv_at hl 1 rfl) ?_
  have q_3 : 0 ≤ S.1 a 1 ∧ S.1 a 1 ≤ 32 := j_1.fi a 1 0 (big_lt ha) ha
  refine g_X0_24 Cx hW (k := a) (big_l ha) ha (v := S.1 a 1) rfl dX0_addSize_5 ?_
  refine r_max hx hb (hml.trans hl.1.symm) hown (hts _ w_1292) (hts _ w_242) (hts _ w_206) (hts _ w_243) (rmk_f (by omega)) (rmk_l (by omega) (Nat.le_of_ble_eq_true rfl)) (Nat.le_of_ble_eq_true rfl) (Nat.le_of_ble_eq_true rfl) ⟨(by omega), (by omega)⟩ ⟨(by omega), (by omega)⟩ dX0_addSize_8 (fun z_4 hz_4 => ?_)
  refine lv_istore_n (lv' := [(2, .int (iv z_4)), (0, .ref (G.2.2.1 + o)), (1, .ref (G.2.2.1 + a))]) hx hb dX0_addSize_11 rfl hl (by decide) rfl (fun ls hl => ?_)
  refine lv_iconst (v := iv 0) hx hb dX0_addSize_12 (by decide) ?_
  refine lv_istore_n (lv' := [(3, .int (iv 0)), (2, .int (iv z_4)), (0, .ref (G.2.2.1 + o)), (1, .ref (G.2.2.1 + a))]) hx hb dX0_addSize_13 rfl hl (by decide) rfl (fun ls hl => ?_)
  refine lv_iconst (v := iv 0) hx hb dX0_addSize_14 (by decide) ?_
  refine lv_istore (lv' := [(4, .int (iv 0)), (3, .int (iv 0)), (2, .int (iv z_4)), (0, .ref (G.2.2.1 + o)), (1, .ref (G.2.2.1 + a))]) hx hb dX0_addSize_15 hl (by decide) rfl (fun ls hl => ?_)
  have loop_17 : ∀ (fuel : Nat) (S17 : sS) (i : Int) (cy : Int) (H : Heap) (locs : List Loc) (ls : Array Slot), (33 - i).toNat < fuel → (cX G S17 o 0 0) → (Fr S S17 (pB o)) → (Fr S S17 (pB o)) → (0 ≤ cy ∧ cy ≤ 1) → (0 ≤ i ∧ i ≤ S.1 o 1 ∨ 0 ≤ i ∧ i ≤ S.1 a 1) → (S17.1 o 1 = S.1 o 1 ∧ S17.1 o 2 = S.1 o 2) → (∀ j, i ≤ j → S17.2.1 (o + 1) j = S.2.1 (o + 1) j) → (Hd ((i = S.1 o 1 ∧ S.1 a 1 ≤ i ∨ i = S.1 a 1 ∧ S.1 o 1 ≤ i) → (0 < i ∧ cy = 0) → S17.2.1 (o + 1) (i - 1) ≠ 0)) → (Hd ((i = n + 1 ∧ S.1 o 1 = n + 1) → cy = 0 ∧ S17.2.1 (o + 1) n ≤ t + 1)) → sW G 294 S17 H → sL G locs → lv_has ls 6 [(4, .int (iv i)), (3, .int (iv cy)), (2, .int (iv z_4)), (0, .ref (G.2.2.1 + o)), (1, .ref (G.2.2.1 + a))] → W p l e (rmk 2 0 0) s m args below meth c H locs 0 0 (MQ below (sQv G 294 (fun u => cX G u 0 0 0 ∧ Fr S u (pB o) ∧ (u.1 o 1 ≤ n + 1 ∧ (u.1 o 1 = n + 1 → u.2.1 (o + 1) n ≤ t + 1) ∧ u.1 o 2 = S.1 o 2))) args s 0 0 (sF G)) (F0 m 17 ls []) := by
    intro fuel
    induction fuel with
    | zero => intro S17 i cy H locs ls hmeas hI17 hFm17 hL17_ hcy hi hc hun htop hgr hW hL hl; exact absurd hmeas (Nat.not_lt_zero _)
    | succ fuel ih_17 =>
      intro S17 i cy H locs ls hmeas hI17 hFm17 hL17_ hcy hi hc hun htop hgr hW hL hl
      refine lv_iload hx hb dX0_addSize_17 (lv_at hl 0 rfl) ?_
      refine lv_iload_n hx hb dX0_addSize_19 rfl (lv_at hl 2 rfl) ?_
      refine r_icmp_ge (tgt := 101) hx hb ⟨(by omega), (by omega)⟩ ⟨(by omega), (by omega)⟩ dX0_addSize_20 (by decide) (fun c_5 => ?_) (fun c_5 => ?_)
      · refine lv_iload_n hx hb dX0_addSize_101 rfl (lv_at hl 1 rfl) ?_
        refine r_if_le (tgt := 121) hx hb ⟨(by omega), (by omega)⟩ dX0_addSize_102 (by decide) (fun c_6 => ?_) (fun c_6 => ?_)
        · refine lv_aload_n hx hb dX0_addSize_121 rfl (lv_at hl 3 rfl) ?_
          refine lv_iload_n hx hb dX0_addSize_122 rfl (lv_at hl 2 rfl) ?_
          refine p_X0_24 Cx hW hL (k := o) (big_l ho) ho dX0_addSize_123 (fun H locs hW hL => ?_)
          have F_7 : Fr S (uF S17 o 1 z_4) (pB o) := hFm17.F pB_0
          have F_8 : Fr S (uF S17 o 1 z_4) (pB o) := hL17_.F pB_0
          have i_9 : cX G (uF S17 o 1 z_4) o 0 0 := hI17.cnt (exq_s ho) ho ⟨by omega, by omega⟩
          have j_10 : cX G (uF S17 o 1 z_4) 0 0 0 := i_9.inB ho (by intro q; rw [uF_on] at q ⊢; show S17.2.1 (o + 1) (z_4 - 1) ≠ 0; rw [show z_4 = i by omega]; exact htop (by omega) (by omega))
          have lk_11 : (uF S17 o 1 z_4).1 o 1 = z_4 := uF_on
          have q_12 : (-1) ≤ S17.1 o 2 ∧ S17.1 o 2 ≤ 1 := hI17.fi o 2 0 (big_lt ho) ho
          have lk_13 : (uF S17 o 1 z_4).1 o 2 = S17.1 o 2 := uF_ne (fun h => absurd h.2 (by decide))
          exact sVret Cx hr hlk hW hL ⟨j_10, F_7, ⟨by rw [uF_on]; omega, by rw [uF_on]; intro q; show S17.2.1 (o + 1) n ≤ t + 1; exact (hgr ⟨by omega, by omega⟩).2, by rw [uF_i (by decide)]; exact hc.2⟩⟩ dX0_addSize_126
        · refine lv_iload_n hx hb dX0_addSize_105 rfl (lv_at hl 2 rfl) ?_
          refine lv_bipush (v := iv 32) hx hb dX0_addSize_106 (by decide) ?_
          refine r_icmp_ge (tgt := 121) hx hb ⟨(by omega), (by omega)⟩ ⟨(by omega), (by omega)⟩ dX0_addSize_108 (by decide) (fun c_14 => ?_) (fun c_14 => ?_)
          · refine lv_aload_n hx hb dX0_addSize_121 rfl (lv_at hl 3 rfl) ?_
            refine lv_iload_n hx hb dX0_addSize_122 rfl (lv_at hl 2 rfl) ?_
            refine p_X0_24 Cx hW hL (k := o) (big_l ho) ho dX0_addSize_123 (fun H locs hW hL => ?_)
            have F_15 : Fr S (uF S17 o 1 z_4) (pB o) := hFm17.F pB_0
            have F_16 : Fr S (uF S17 o 1 z_4) (pB o) := hL17_.F pB_0
            have i_17 : cX G (uF S17 o 1 z_4) o 0 0 := hI17.cnt (exq_s ho) ho ⟨by omega, by omega⟩
            have j_18 : cX G (uF S17 o 1 z_4) 0 0 0 := i_17.inB ho (by intro q; rw [uF_on] at q ⊢; show S17.2.1 (o + 1) (z_4 - 1) ≠ 0; rw [show z_4 = i by omega]; exact htop (by omega) (by omega))
            have lk_19 : (uF S17 o 1 z_4).1 o 1 = z_4 := uF_on
            have q_20 : (-1) ≤ S17.1 o 2 ∧ S17.1 o 2 ≤ 1 := hI17.fi o 2 0 (big_lt ho) ho
            have lk_21 : (uF S17 o 1 z_4).1 o 2 = S17.1 o 2 := uF_ne (fun h => absurd h.2 (by decide))
            exact sVret Cx hr hlk hW hL ⟨j_18, F_15, ⟨by rw [uF_on]; omega, by rw [uF_on]; intro q; show S17.2.1 (o + 1) n ≤ t + 1; exact (hgr ⟨by omega, by omega⟩).2, by rw [uF_i (by decide)]; exact hc.2⟩⟩ dX0_addSize_126
          · refine lv_aload_n hx hb dX0_addSize_111 rfl (lv_at hl 3 rfl) ?_
            refine g_X0_9 Cx hW (k := o) (big_l ho) ho (v := .ref (G.2.2.1 + (o + 1))) (hI17.rq.1 o ho) dX0_addSize_112 ?_
            refine lv_iload_n hx hb dX0_addSize_115 rfl (lv_at hl 2 rfl) ?_
            refine lv_iload_n hx hb dX0_addSize_116 rfl (lv_at hl 1 rfl) ?_
            refine rIast Cx hW hL (k := o + 1) (big_l1 ho) (big_row ho).1 (by decide) (by omega) (by omega) dX0_addSize_117 (fun H locs hW hL => ?_)
            have F_22 : Fr S (uA S17 (o + 1) z_4 cy) (pB o) := hFm17.A pB_1
            have F_23 : Fr S (uA S17 (o + 1) z_4 cy) (pB o) := hL17_.A pB_1
            have i_24 : cX G (uA S17 (o + 1) z_4 cy) o 0 0 := hI17.limb (Or.inl (exq_s ho)) ho ⟨(by omega), (by omega)⟩
            refine lv_iinc (v := iv (z_4 + 1)) (lv' := [(2, .int (iv (z_4 + 1))), (4, .int (iv i)), (3, .int (iv cy)), (0, .ref (G.2.2.1 + o)), (1, .ref (G.2.2.1 + a))]) hx hb dX0_addSize_118 hl (k := 2) rfl ((Int32.ofInt_add _ _).symm) (by decide) rfl (fun ls hl => ?_)
            refine lv_aload_n hx hb dX0_addSize_121 rfl (lv_at hl 3 rfl) ?_
            refine lv_iload_n hx hb dX0_addSize_122 rfl (lv_at hl 0 rfl) ?_
            refine p_X0_24 Cx hW hL (k := o) (big_l ho) ho dX0_addSize_123 (fun H locs hW hL => ?_)
            have F_25 : Fr S (uF (uA S17 (o + 1) z_4 cy) o 1 (z_4 + 1)) (pB o) := F_22.F pB_0
            have F_26 : Fr S (uF (uA S17 (o + 1) z_4 cy) o 1 (z_4 + 1)) (pB o) := F_23.F pB_0
            have i_27 : cX G (uF (uA S17 (o + 1) z_4 cy) o 1 (z_4 + 1)) o 0 0 := i_24.cnt (exq_s ho) ho ⟨by omega, by omega⟩
            have j_28 : cX G (uF (uA S17 (o + 1) z_4 cy) o 1 (z_4 + 1)) 0 0 0 := i_27.inB ho (by intro q; rw [uF_on] at q ⊢; show (uA S17 (o + 1) z_4 cy).2.1 (o + 1) (z_4 + 1 - 1) ≠ 0; rw [show z_4 + 1 - 1 = z_4 by omega, uA_on]; omega)
            have lk_29 : (uF (uA S17 (o + 1) z_4 cy) o 1 (z_4 + 1)).1 o 1 = z_4 + 1 := uF_on
            have q_30 : (-1) ≤ S17.1 o 2 ∧ S17.1 o 2 ≤ 1 := hI17.fi o 2 0 (big_lt ho) ho
            have lk_31 : (uF (uA S17 (o + 1) z_4 cy) o 1 (z_4 + 1)).1 o 2 = S17.1 o 2 := (uF_ne (fun h => absurd h.2 (by decide))).trans (uA_f)
            exact sVret Cx hr hlk hW hL ⟨j_28, F_25, ⟨by rw [uF_on]; by_cases e : S.1 o 1 = n + 1; exact absurd (hgr ⟨by omega, e⟩).1 (by omega); omega, by rw [uF_on]; intro q; show (uA S17 (o + 1) z_4 cy).2.1 (o + 1) n ≤ t + 1; rw [show n = z_4 by omega, uA_on]; omega, by rw [uF_i (by decide)]; exact hc.2⟩⟩ dX0_addSize_126
      · refine lv_iload_n hx hb dX0_addSize_23 rfl (lv_at hl 1 rfl) ?_
        refine lv_iload hx hb dX0_addSize_24 (lv_at hl 0 rfl) ?_
        refine lv_aload_n hx hb dX0_addSize_26 rfl (lv_at hl 3 rfl) ?_
        have q_32 : 0 ≤ S17.1 o 1 ∧ S17.1 o 1 ≤ 32 := hI17.fi o 1 0 (big_lt ho) ho
        refine g_X0_24 Cx hW (k := o) (big_l ho) ho (v := S17.1 o 1) rfl dX0_addSize_27 ?_
        refine r_icmp_ge (tgt := 43) hx hb ⟨(by omega), (by omega)⟩ ⟨(by omega), (by omega)⟩ dX0_addSize_30 (by decide) (fun c_33 => ?_) (fun c_33 => ?_)
        · refine lv_iconst (v := iv 0) hx hb dX0_addSize_43 (by decide) ?_
          refine r_iadd hx hb dX0_addSize_44 ?_
          refine lv_iload hx hb dX0_addSize_45 (lv_at hl 0 rfl) ?_
          refine lv_aload_n hx hb dX0_addSize_47 rfl (lv_at hl 4 rfl) ?_
          refine g_X0_24 Cx hW (k := a) (big_l ha) ha (v := S.1 a 1) ((hL17_ a (pB_no (neS noa) (tau_ne ha (big_row ho).1 (fun h => by cases h)))).1 1) dX0_addSize_48 ?_
          refine r_icmp_ge (tgt := 64) hx hb ⟨(by omega), (by omega)⟩ ⟨(by omega), (by omega)⟩ dX0_addSize_51 (by decide) (fun c_34 => ?_) (fun c_34 => ?_)
          · refine lv_iconst (v := iv 0) hx hb dX0_addSize_64 (by decide) ?_
            refine r_iadd hx hb dX0_addSize_65 ?_
            refine lv_istore (lv' := [(5, .int (iv ((cy + 0) + 0))), (4, .int (iv i)), (3, .int (iv cy)), (2, .int (iv z_4)), (0, .ref (G.2.2.1 + o)), (1, .ref (G.2.2.1 + a))]) hx hb dX0_addSize_66 hl (by decide) rfl (fun ls hl => ?_)
            refine lv_iload hx hb dX0_addSize_68 (lv_at hl 0 rfl) ?_
            refine lv_ldc hx hb hown (hts _ w_1293) dX0_addSize_70 ?_
            refine r_icmp_lt (tgt := 79) hx hb ⟨(by omega), (by omega)⟩ ⟨(by omega), (by omega)⟩ dX0_addSize_72 (by decide) (fun c_35 => ?_) (fun c_35 => ?_)
            · refine lv_iconst (v := iv 0) hx hb dX0_addSize_79 (by decide) ?_
              refine lv_istore_n (lv' := [(3, .int (iv 0)), (5, .int (iv ((cy + 0) + 0))), (4, .int (iv i)), (2, .int (iv z_4)), (0, .ref (G.2.2.1 + o)), (1, .ref (G.2.2.1 + a))]) hx hb dX0_addSize_80 rfl hl (by decide) rfl (fun ls hl => ?_)
              refine lv_aload_n hx hb dX0_addSize_81 rfl (lv_at hl 4 rfl) ?_
              refine g_X0_9 Cx hW (k := o) (big_l ho) ho (v := .ref (G.2.2.1 + (o + 1))) (hI17.rq.1 o ho) dX0_addSize_82 ?_
              refine lv_iload hx hb dX0_addSize_85 (lv_at hl 2 rfl) ?_
              refine lv_iload hx hb dX0_addSize_87 (lv_at hl 1 rfl) ?_
              refine lv_iload_n hx hb dX0_addSize_89 rfl (lv_at hl 0 rfl) ?_
              refine lv_ldc hx hb hown (hts _ w_1293) dX0_addSize_90 ?_
              refine r_imul hx hb dX0_addSize_92 ?_
              refine r_i (b := 0) (by omega) ?_
              refine r_isub hx hb dX0_addSize_93 ?_
              refine rIast Cx hW hL (k := o + 1) (big_l1 ho) (big_row ho).1 (by decide) (by omega) (by omega) dX0_addSize_94 (fun H locs hW hL => ?_)
              have F_36 : Fr S (uA S17 (o + 1) i (((cy + 0) + 0) - 0)) (pB o) := hFm17.A pB_1
              have F_37 : Fr S (uA S17 (o + 1) i (((cy + 0) + 0) - 0)) (pB o) := hL17_.A pB_1
              have i_38 : cX G (uA S17 (o + 1) i (((cy + 0) + 0) - 0)) o 0 0 := hI17.limb (Or.inl (exq_s ho)) ho ⟨(by omega), (by omega)⟩
              refine lv_iinc (v := iv (i + 1)) (lv' := [(4, .int (iv (i + 1))), (3, .int (iv 0)), (5, .int (iv ((cy + 0) + 0))), (2, .int (iv z_4)), (0, .ref (G.2.2.1 + o)), (1, .ref (G.2.2.1 + a))]) hx hb dX0_addSize_95 hl (k := 2) rfl ((Int32.ofInt_add _ _).symm) (by decide) rfl (fun ls hl => ?_)
              refine lv_goto (tgt := 17) hx hb dX0_addSize_98 (by decide) ?_
              have lk_39 : (uA S17 (o + 1) i (((cy + 0) + 0) - 0)).1 o 1 = S17.1 o 1 := uA_f
              have q_40 : (-1) ≤ S17.1 o 2 ∧ S17.1 o 2 ≤ 1 := hI17.fi o 2 0 (big_lt ho) ho
              have lk_41 : (uA S17 (o + 1) i (((cy + 0) + 0) - 0)).1 o 2 = S17.1 o 2 := uA_f
              exact ih_17 (uA S17 (o + 1) i (((cy + 0) + 0) - 0)) (i + 1) 0 _ _ _ (by omega) i_38 F_36 F_37 (by omega) (by omega) hc (fun j j0 => by rw [uA_ne (by omega)]; exact hun j (by omega)) (by intro q1 q2; rw [show i + 1 - 1 = i by omega, uA_on]; intro q3; have e1 : i = S.1 o 1 - 1 → S.2.1 (o + 1) i ≠ 0 := (fun e => by rw [e]; exact hnb (by omega)); have e2 : i = S.1 a 1 - 1 → S.2.1 (a + 1) i ≠ 0 := (fun e => by rw [e]; exact hna (by omega)); have e3 := hun i (by omega); omega) (by intro q; have e1 : i = n := (by omega); have e3 := hun i (by omega); have e4 := hnt2 q.2; rw [← e1] at e4; rw [← e1, uA_on]; omega) hW hL (lv_sub hl [0, 1, 3, 4, 5] rfl)
            · refine lv_iconst (v := iv 1) hx hb dX0_addSize_75 (by decide) ?_
              refine lv_goto (tgt := 80) hx hb dX0_addSize_76 (by decide) ?_
              refine lv_istore_n (lv' := [(3, .int (iv 1)), (5, .int (iv ((cy + 0) + 0))), (4, .int (iv i)), (2, .int (iv z_4)), (0, .ref (G.2.2.1 + o)), (1, .ref (G.2.2.1 + a))]) hx hb dX0_addSize_80 rfl hl (by decide) rfl (fun ls hl => ?_)
              refine lv_aload_n hx hb dX0_addSize_81 rfl (lv_at hl 4 rfl) ?_
              refine g_X0_9 Cx hW (k := o) (big_l ho) ho (v := .ref (G.2.2.1 + (o + 1))) (hI17.rq.1 o ho) dX0_addSize_82 ?_
              refine lv_iload hx hb dX0_addSize_85 (lv_at hl 2 rfl) ?_
              refine lv_iload hx hb dX0_addSize_87 (lv_at hl 1 rfl) ?_
              refine lv_iload_n hx hb dX0_addSize_89 rfl (lv_at hl 0 rfl) ?_
              refine lv_ldc hx hb hown (hts _ w_1293) dX0_addSize_90 ?_
              refine r_imul hx hb dX0_addSize_92 ?_
              refine r_i (b := 1000000000) (by omega) ?_
              refine r_isub hx hb dX0_addSize_93 ?_
              refine rIast Cx hW hL (k := o + 1) (big_l1 ho) (big_row ho).1 (by decide) (by omega) (by omega) dX0_addSize_94 (fun H locs hW hL => ?_)
              have F_42 : Fr S (uA S17 (o + 1) i (((cy + 0) + 0) - 1000000000)) (pB o) := hFm17.A pB_1
              have F_43 : Fr S (uA S17 (o + 1) i (((cy + 0) + 0) - 1000000000)) (pB o) := hL17_.A pB_1
              have i_44 : cX G (uA S17 (o + 1) i (((cy + 0) + 0) - 1000000000)) o 0 0 := hI17.limb (Or.inl (exq_s ho)) ho ⟨(by omega), (by omega)⟩
              refine lv_iinc (v := iv (i + 1)) (lv' := [(4, .int (iv (i + 1))), (3, .int (iv 1)), (5, .int (iv ((cy + 0) + 0))), (2, .int (iv z_4)), (0, .ref (G.2.2.1 + o)), (1, .ref (G.2.2.1 + a))]) hx hb dX0_addSize_95 hl (k := 2) rfl ((Int32.ofInt_add _ _).symm) (by decide) rfl (fun ls hl => ?_)
              refine lv_goto (tgt := 17) hx hb dX0_addSize_98 (by decide) ?_
              have lk_45 : (uA S17 (o + 1) i (((cy + 0) + 0) - 1000000000)).1 o 1 = S17.1 o 1 := uA_f
              have q_46 : (-1) ≤ S17.1 o 2 ∧ S17.1 o 2 ≤ 1 := hI17.fi o 2 0 (big_lt ho) ho
              have lk_47 : (uA S17 (o + 1) i (((cy + 0) + 0) - 1000000000)).1 o 2 = S17.1 o 2 := uA_f
              exact ih_17 (uA S17 (o + 1) i (((cy + 0) + 0) - 1000000000)) (i + 1) 1 _ _ _ (by omega) i_44 F_42 F_43 (by omega) (by omega) hc (fun j j0 => by rw [uA_ne (by omega)]; exact hun j (by omega)) (by intro q1 q2; rw [show i + 1 - 1 = i by omega, uA_on]; intro q3; have e1 : i = S.1 o 1 - 1 → S.2.1 (o + 1) i ≠ 0 := (fun e => by rw [e]; exact hnb (by omega)); have e2 : i = S.1 a 1 - 1 → S.2.1 (a + 1) i ≠ 0 := (fun e => by rw [e]; exact hna (by omega)); have e3 := hun i (by omega); omega) (by intro q; have e1 : i = n := (by omega); have e3 := hun i (by omega); have e4 := hnt2 q.2; rw [← e1] at e4; rw [← e1, uA_on]; omega) hW hL (lv_sub hl [0, 1, 3, 4, 5] rfl)
          · refine lv_aload_n hx hb dX0_addSize_54 rfl (lv_at hl 4 rfl) ?_
            refine g_X0_9 Cx hW (k := a) (big_l ha) ha (v := .ref (G.2.2.1 + (a + 1))) (hI17.rq.1 a ha) dX0_addSize_55 ?_
            refine lv_iload hx hb dX0_addSize_58 (lv_at hl 0 rfl) ?_
            refine rIald Cx hW (k := a + 1) (big_l1 ha) (big_row ha).1 (by decide) (by omega) (by omega) dX0_addSize_60 ?_
            have q_48 := limbR j_1 ha i
            refine r_i (b := S.2.1 (a + 1) i) ((hL17_ (a + 1) (pB_no (tau_ne (big_row ha).1 ho (fun h => by cases h)) (ne1S noa))).2.1 i) ?_
            refine lv_goto (tgt := 65) hx hb dX0_addSize_61 (by decide) ?_
            refine r_iadd hx hb dX0_addSize_65 ?_
            refine lv_istore (lv' := [(5, .int (iv ((cy + 0) + (S.2.1 (a + 1) i)))), (4, .int (iv i)), (3, .int (iv cy)), (2, .int (iv z_4)), (0, .ref (G.2.2.1 + o)), (1, .ref (G.2.2.1 + a))]) hx hb dX0_addSize_66 hl (by decide) rfl (fun ls hl => ?_)
            refine lv_iload hx hb dX0_addSize_68 (lv_at hl 0 rfl) ?_
            refine lv_ldc hx hb hown (hts _ w_1293) dX0_addSize_70 ?_
            refine r_icmp_lt (tgt := 79) hx hb ⟨(by omega), (by omega)⟩ ⟨(by omega), (by omega)⟩ dX0_addSize_72 (by decide) (fun c_49 => ?_) (fun c_49 => ?_)
            · refine lv_iconst (v := iv 0) hx hb dX0_addSize_79 (by decide) ?_
              refine lv_istore_n (lv' := [(3, .int (iv 0)), (5, .int (iv ((cy + 0) + (S.2.1 (a + 1) i)))), (4, .int (iv i)), (2, .int (iv z_4)), (0, .ref (G.2.2.1 + o)), (1, .ref (G.2.2.1 + a))]) hx hb dX0_addSize_80 rfl hl (by decide) rfl (fun ls hl => ?_)
              refine lv_aload_n hx hb dX0_addSize_81 rfl (lv_at hl 4 rfl) ?_
              refine g_X0_9 Cx hW (k := o) (big_l ho) ho (v := .ref (G.2.2.1 + (o + 1))) (hI17.rq.1 o ho) dX0_addSize_82 ?_
              refine lv_iload hx hb dX0_addSize_85 (lv_at hl 2 rfl) ?_
              refine lv_iload hx hb dX0_addSize_87 (lv_at hl 1 rfl) ?_
              refine lv_iload_n hx hb dX0_addSize_89 rfl (lv_at hl 0 rfl) ?_
              refine lv_ldc hx hb hown (hts _ w_1293) dX0_addSize_90 ?_
              refine r_imul hx hb dX0_addSize_92 ?_
              refine r_i (b := 0) (by omega) ?_
              refine r_isub hx hb dX0_addSize_93 ?_
              refine rIast Cx hW hL (k := o + 1) (big_l1 ho) (big_row ho).1 (by decide) (by omega) (by omega) dX0_addSize_94 (fun H locs hW hL => ?_)
              have F_50 : Fr S (uA S17 (o + 1) i (((cy + 0) + (S.2.1 (a + 1) i)) - 0)) (pB o) := hFm17.A pB_1
              have F_51 : Fr S (uA S17 (o + 1) i (((cy + 0) + (S.2.1 (a + 1) i)) - 0)) (pB o) := hL17_.A pB_1
              have i_52 : cX G (uA S17 (o + 1) i (((cy + 0) + (S.2.1 (a + 1) i)) - 0)) o 0 0 := hI17.limb (Or.inl (exq_s ho)) ho ⟨(by omega), (by omega)⟩
              refine lv_iinc (v := iv (i + 1)) (lv' := [(4, .int (iv (i + 1))), (3, .int (iv 0)), (5, .int (iv ((cy + 0) + (S.2.1 (a + 1) i)))), (2, .int (iv z_4)), (0, .ref (G.2.2.1 + o)), (1, .ref (G.2.2.1 + a))]) hx hb dX0_addSize_95 hl (k := 2) rfl ((Int32.ofInt_add _ _).symm) (by decide) rfl (fun ls hl => ?_)
              refine lv_goto (tgt := 17) hx hb dX0_addSize_98 (by decide) ?_
              have lk_53 : (uA S17 (o + 1) i (((cy + 0) + (S.2.1 (a + 1) i)) - 0)).1 o 1 = S17.1 o 1 := uA_f
              have q_54 : (-1) ≤ S17.1 o 2 ∧ S17.1 o 2 ≤ 1 := hI17.fi o 2 0 (big_lt ho) ho
              have lk_55 : (uA S17 (o + 1) i (((cy + 0) + (S.2.1 (a + 1) i)) - 0)).1 o 2 = S17.1 o 2 := uA_f
              exact ih_17 (uA S17 (o + 1) i (((cy + 0) + (S.2.1 (a + 1) i)) - 0)) (i + 1) 0 _ _ _ (by omega) i_52 F_50 F_51 (by omega) (by omega) hc (fun j j0 => by rw [uA_ne (by omega)]; exact hun j (by omega)) (by intro q1 q2; rw [show i + 1 - 1 = i by omega, uA_on]; intro q3; have e1 : i = S.1 o 1 - 1 → S.2.1 (o + 1) i ≠ 0 := (fun e => by rw [e]; exact hnb (by omega)); have e2 : i = S.1 a 1 - 1 → S.2.1 (a + 1) i ≠ 0 := (fun e => by rw [e]; exact hna (by omega)); have e3 := hun i (by omega); omega) (by intro q; have e1 : i = n := (by omega); have e3 := hun i (by omega); have e4 := hnt2 q.2; rw [← e1] at e4; rw [← e1, uA_on]; omega) hW hL (lv_sub hl [0, 1, 3, 4, 5] rfl)
            · refine lv_iconst (v := iv 1) hx hb dX0_addSize_75 (by decide) ?_
              refine lv_goto (tgt := 80) hx hb dX0_addSize_76 (by decide) ?_
              refine lv_istore_n (lv' := [(3, .int (iv 1)), (5, .int (iv ((cy + 0) + (S.2.1 (a + 1) i)))), (4, .int (iv i)), (2, .int (iv z_4)), (0, .ref (G.2.2.1 + o)), (1, .ref (G.2.2.1 + a))]) hx hb dX0_addSize_80 rfl hl (by decide) rfl (fun ls hl => ?_)
              refine lv_aload_n hx hb dX0_addSize_81 rfl (lv_at hl 4 rfl) ?_
              refine g_X0_9 Cx hW (k := o) (big_l ho) ho (v := .ref (G.2.2.1 + (o + 1))) (hI17.rq.1 o ho) dX0_addSize_82 ?_
              refine lv_iload hx hb dX0_addSize_85 (lv_at hl 2 rfl) ?_
              refine lv_iload hx hb dX0_addSize_87 (lv_at hl 1 rfl) ?_
              refine lv_iload_n hx hb dX0_addSize_89 rfl (lv_at hl 0 rfl) ?_
              refine lv_ldc hx hb hown (hts _ w_1293) dX0_addSize_90 ?_
              refine r_imul hx hb dX0_addSize_92 ?_
              refine r_i (b := 1000000000) (by omega) ?_
              refine r_isub hx hb dX0_addSize_93 ?_
              refine rIast Cx hW hL (k := o + 1) (big_l1 ho) (big_row ho).1 (by decide) (by omega) (by omega) dX0_addSize_94 (fun H locs hW hL => ?_)
              have F_56 : Fr S (uA S17 (o + 1) i (((cy + 0) + (S.2.1 (a + 1) i)) - 1000000000)) (pB o) := hFm17.A pB_1
              have F_57 : Fr S (uA S17 (o + 1) i (((cy + 0) + (S.2.1 (a + 1) i)) - 1000000000)) (pB o) := hL17_.A pB_1
              have i_58 : cX G (uA S17 (o + 1) i (((cy + 0) + (S.2.1 (a + 1) i)) - 1000000000)) o 0 0 := hI17.limb (Or.inl (exq_s ho)) ho ⟨(by omega), (by omega)⟩
              refine lv_iinc (v := iv (i + 1)) (lv' := [(4, .int (iv (i + 1))), (3, .int (iv 1)), (5, .int (iv ((cy + 0) + (S.2.1 (a + 1) i)))), (2, .int (iv z_4)), (0, .ref (G.2.2.1 + o)), (1, .ref (G.2.2.1 + a))]) hx hb dX0_addSize_95 hl (k := 2) rfl ((Int32.ofInt_add _ _).symm) (by decide) rfl (fun ls hl => ?_)
              refine lv_goto (tgt := 17) hx hb dX0_addSize_98 (by decide) ?_
              have lk_59 : (uA S17 (o + 1) i (((cy + 0) + (S.2.1 (a + 1) i)) - 1000000000)).1 o 1 = S17.1 o 1 := uA_f
              have q_60 : (-1) ≤ S17.1 o 2 ∧ S17.1 o 2 ≤ 1 := hI17.fi o 2 0 (big_lt ho) ho
              have lk_61 : (uA S17 (o + 1) i (((cy + 0) + (S.2.1 (a + 1) i)) - 1000000000)).1 o 2 = S17.1 o 2 := uA_f
              exact ih_17 (uA S17 (o + 1) i (((cy + 0) + (S.2.1 (a + 1) i)) - 1000000000)) (i + 1) 1 _ _ _ (by omega) i_58 F_56 F_57 (by omega) (by omega) hc (fun j j0 => by rw [uA_ne (by omega)]; exact hun j (by omega)) (by intro q1 q2; rw [show i + 1 - 1 = i by omega, uA_on]; intro q3; have e1 : i = S.1 o 1 - 1 → S.2.1 (o + 1) i ≠ 0 := (fun e => by rw [e]; exact hnb (by omega)); have e2 : i = S.1 a 1 - 1 → S.2.1 (a + 1) i ≠ 0 := (fun e => by rw [e]; exact hna (by omega)); have e3 := hun i (by omega); omega) (by intro q; have e1 : i = n := (by omega); have e3 := hun i (by omega); have e4 := hnt2 q.2; rw [← e1] at e4; rw [← e1, uA_on]; omega) hW hL (lv_sub hl [0, 1, 3, 4, 5] rfl)
        · refine lv_aload_n hx hb dX0_addSize_33 rfl (lv_at hl 3 rfl) ?_
          refine g_X0_9 Cx hW (k := o) (big_l ho) ho (v := .ref (G.2.2.1 + (o + 1))) (hI17.rq.1 o ho) dX0_addSize_34 ?_
          refine lv_iload hx hb dX0_addSize_37 (lv_at hl 0 rfl) ?_
          refine rIald Cx hW (k := o + 1) (big_l1 ho) (big_row ho).1 (by decide) (by omega) (by omega) dX0_addSize_39 ?_
          have q_62 := limbR hI17 ho i
          refine r_i (b := S17.2.1 (o + 1) i) rfl ?_
          refine lv_goto (tgt := 44) hx hb dX0_addSize_40 (by decide) ?_
          refine r_iadd hx hb dX0_addSize_44 ?_
          refine lv_iload hx hb dX0_addSize_45 (lv_at hl 0 rfl) ?_
          refine lv_aload_n hx hb dX0_addSize_47 rfl (lv_at hl 4 rfl) ?_
          refine g_X0_24 Cx hW (k := a) (big_l ha) ha (v := S.1 a 1) ((hL17_ a (pB_no (neS noa) (tau_ne ha (big_row ho).1 (fun h => by cases h)))).1 1) dX0_addSize_48 ?_
          refine r_icmp_ge (tgt := 64) hx hb ⟨(by omega), (by omega)⟩ ⟨(by omega), (by omega)⟩ dX0_addSize_51 (by decide) (fun c_63 => ?_) (fun c_63 => ?_)
          · refine lv_iconst (v := iv 0) hx hb dX0_addSize_64 (by decide) ?_
            refine r_iadd hx hb dX0_addSize_65 ?_
            refine lv_istore (lv' := [(5, .int (iv ((cy + (S17.2.1 (o + 1) i)) + 0))), (4, .int (iv i)), (3, .int (iv cy)), (2, .int (iv z_4)), (0, .ref (G.2.2.1 + o)), (1, .ref (G.2.2.1 + a))]) hx hb dX0_addSize_66 hl (by decide) rfl (fun ls hl => ?_)
            refine lv_iload hx hb dX0_addSize_68 (lv_at hl 0 rfl) ?_
            refine lv_ldc hx hb hown (hts _ w_1293) dX0_addSize_70 ?_
            refine r_icmp_lt (tgt := 79) hx hb ⟨(by omega), (by omega)⟩ ⟨(by omega), (by omega)⟩ dX0_addSize_72 (by decide) (fun c_64 => ?_) (fun c_64 => ?_)
            · refine lv_iconst (v := iv 0) hx hb dX0_addSize_79 (by decide) ?_
              refine lv_istore_n (lv' := [(3, .int (iv 0)), (5, .int (iv ((cy + (S17.2.1 (o + 1) i)) + 0))), (4, .int (iv i)), (2, .int (iv z_4)), (0, .ref (G.2.2.1 + o)), (1, .ref (G.2.2.1 + a))]) hx hb dX0_addSize_80 rfl hl (by decide) rfl (fun ls hl => ?_)
              refine lv_aload_n hx hb dX0_addSize_81 rfl (lv_at hl 4 rfl) ?_
              refine g_X0_9 Cx hW (k := o) (big_l ho) ho (v := .ref (G.2.2.1 + (o + 1))) (hI17.rq.1 o ho) dX0_addSize_82 ?_
              refine lv_iload hx hb dX0_addSize_85 (lv_at hl 2 rfl) ?_
              refine lv_iload hx hb dX0_addSize_87 (lv_at hl 1 rfl) ?_
              refine lv_iload_n hx hb dX0_addSize_89 rfl (lv_at hl 0 rfl) ?_
              refine lv_ldc hx hb hown (hts _ w_1293) dX0_addSize_90 ?_
              refine r_imul hx hb dX0_addSize_92 ?_
              refine r_i (b := 0) (by omega) ?_
              refine r_isub hx hb dX0_addSize_93 ?_
              refine rIast Cx hW hL (k := o + 1) (big_l1 ho) (big_row ho).1 (by decide) (by omega) (by omega) dX0_addSize_94 (fun H locs hW hL => ?_)
              have F_65 : Fr S (uA S17 (o + 1) i (((cy + (S17.2.1 (o + 1) i)) + 0) - 0)) (pB o) := hFm17.A pB_1
              have F_66 : Fr S (uA S17 (o + 1) i (((cy + (S17.2.1 (o + 1) i)) + 0) - 0)) (pB o) := hL17_.A pB_1
              have i_67 : cX G (uA S17 (o + 1) i (((cy + (S17.2.1 (o + 1) i)) + 0) - 0)) o 0 0 := hI17.limb (Or.inl (exq_s ho)) ho ⟨(by omega), (by omega)⟩
              refine lv_iinc (v := iv (i + 1)) (lv' := [(4, .int (iv (i + 1))), (3, .int (iv 0)), (5, .int (iv ((cy + (S17.2.1 (o + 1) i)) + 0))), (2, .int (iv z_4)), (0, .ref (G.2.2.1 + o)), (1, .ref (G.2.2.1 + a))]) hx hb dX0_addSize_95 hl (k := 2) rfl ((Int32.ofInt_add _ _).symm) (by decide) rfl (fun ls hl => ?_)
              refine lv_goto (tgt := 17) hx hb dX0_addSize_98 (by decide) ?_
              have lk_68 : (uA S17 (o + 1) i (((cy + (S17.2.1 (o + 1) i)) + 0) - 0)).1 o 1 = S17.1 o 1 := uA_f
              have q_69 : (-1) ≤ S17.1 o 2 ∧ S17.1 o 2 ≤ 1 := hI17.fi o 2 0 (big_lt ho) ho
              have lk_70 : (uA S17 (o + 1) i (((cy + (S17.2.1 (o + 1) i)) + 0) - 0)).1 o 2 = S17.1 o 2 := uA_f
              exact ih_17 (uA S17 (o + 1) i (((cy + (S17.2.1 (o + 1) i)) + 0) - 0)) (i + 1) 0 _ _ _ (by omega) i_67 F_65 F_66 (by omega) (by omega) hc (fun j j0 => by rw [uA_ne (by omega)]; exact hun j (by omega)) (by intro q1 q2; rw [show i + 1 - 1 = i by omega, uA_on]; intro q3; have e1 : i = S.1 o 1 - 1 → S.2.1 (o + 1) i ≠ 0 := (fun e => by rw [e]; exact hnb (by omega)); have e2 : i = S.1 a 1 - 1 → S.2.1 (a + 1) i ≠ 0 := (fun e => by rw [e]; exact hna (by omega)); have e3 := hun i (by omega); omega) (by intro q; have e1 : i = n := (by omega); have e3 := hun i (by omega); have e4 := hnt2 q.2; rw [← e1] at e4; rw [← e1, uA_on]; omega) hW hL (lv_sub hl [0, 1, 3, 4, 5] rfl)
            · refine lv_iconst (v := iv 1) hx hb dX0_addSize_75 (by decide) ?_
              refine lv_goto (tgt := 80) hx hb dX0_addSize_76 (by decide) ?_
              refine lv_istore_n (lv' := [(3, .int (iv 1)), (5, .int (iv ((cy + (S17.2.1 (o + 1) i)) + 0))), (4, .int (iv i)), (2, .int (iv z_4)), (0, .ref (G.2.2.1 + o)), (1, .ref (G.2.2.1 + a))]) hx hb dX0_addSize_80 rfl hl (by decide) rfl (fun ls hl => ?_)
              refine lv_aload_n hx hb dX0_addSize_81 rfl (lv_at hl 4 rfl) ?_
              refine g_X0_9 Cx hW (k := o) (big_l ho) ho (v := .ref (G.2.2.1 + (o + 1))) (hI17.rq.1 o ho) dX0_addSize_82 ?_
              refine lv_iload hx hb dX0_addSize_85 (lv_at hl 2 rfl) ?_
              refine lv_iload hx hb dX0_addSize_87 (lv_at hl 1 rfl) ?_
              refine lv_iload_n hx hb dX0_addSize_89 rfl (lv_at hl 0 rfl) ?_
              refine lv_ldc hx hb hown (hts _ w_1293) dX0_addSize_90 ?_
              refine r_imul hx hb dX0_addSize_92 ?_
              refine r_i (b := 1000000000) (by omega) ?_
              refine r_isub hx hb dX0_addSize_93 ?_
              refine rIast Cx hW hL (k := o + 1) (big_l1 ho) (big_row ho).1 (by decide) (by omega) (by omega) dX0_addSize_94 (fun H locs hW hL => ?_)
              have F_71 : Fr S (uA S17 (o + 1) i (((cy + (S17.2.1 (o + 1) i)) + 0) - 1000000000)) (pB o) := hFm17.A pB_1
              have F_72 : Fr S (uA S17 (o + 1) i (((cy + (S17.2.1 (o + 1) i)) + 0) - 1000000000)) (pB o) := hL17_.A pB_1
              have i_73 : cX G (uA S17 (o + 1) i (((cy + (S17.2.1 (o + 1) i)) + 0) - 1000000000)) o 0 0 := hI17.limb (Or.inl (exq_s ho)) ho ⟨(by omega), (by omega)⟩
              refine lv_iinc (v := iv (i + 1)) (lv' := [(4, .int (iv (i + 1))), (3, .int (iv 1)), (5, .int (iv ((cy + (S17.2.1 (o + 1) i)) + 0))), (2, .int (iv z_4)), (0, .ref (G.2.2.1 + o)), (1, .ref (G.2.2.1 + a))]) hx hb dX0_addSize_95 hl (k := 2) rfl ((Int32.ofInt_add _ _).symm) (by decide) rfl (fun ls hl => ?_)
              refine lv_goto (tgt := 17) hx hb dX0_addSize_98 (by decide) ?_
              have lk_74 : (uA S17 (o + 1) i (((cy + (S17.2.1 (o + 1) i)) + 0) - 1000000000)).1 o 1 = S17.1 o 1 := uA_f
              have q_75 : (-1) ≤ S17.1 o 2 ∧ S17.1 o 2 ≤ 1 := hI17.fi o 2 0 (big_lt ho) ho
              have lk_76 : (uA S17 (o + 1) i (((cy + (S17.2.1 (o + 1) i)) + 0) - 1000000000)).1 o 2 = S17.1 o 2 := uA_f
              exact ih_17 (uA S17 (o + 1) i (((cy + (S17.2.1 (o + 1) i)) + 0) - 1000000000)) (i + 1) 1 _ _ _ (by omega) i_73 F_71 F_72 (by omega) (by omega) hc (fun j j0 => by rw [uA_ne (by omega)]; exact hun j (by omega)) (by intro q1 q2; rw [show i + 1 - 1 = i by omega, uA_on]; intro q3; have e1 : i = S.1 o 1 - 1 → S.2.1 (o + 1) i ≠ 0 := (fun e => by rw [e]; exact hnb (by omega)); have e2 : i = S.1 a 1 - 1 → S.2.1 (a + 1) i ≠ 0 := (fun e => by rw [e]; exact hna (by omega)); have e3 := hun i (by omega); omega) (by intro q; have e1 : i = n := (by omega); have e3 := hun i (by omega); have e4 := hnt2 q.2; rw [← e1] at e4; rw [← e1, uA_on]; omega) hW hL (lv_sub hl [0, 1, 3, 4, 5] rfl)
          · refine lv_aload_n hx hb dX0_addSize_54 rfl (lv_at hl 4 rfl) ?_
            refine g_X0_9 Cx hW (k := a) (big_l ha) ha (v := .ref (G.2.2.1 + (a + 1))) (hI17.rq.1 a ha) dX0_addSize_55 ?_
            refine lv_iload hx hb dX0_addSize_58 (lv_at hl 0 rfl) ?_
            refine rIald Cx hW (k := a + 1) (big_l1 ha) (big_row ha).1 (by decide) (by omega) (by omega) dX0_addSize_60 ?_
            have q_77 := limbR j_1 ha i
            refine r_i (b := S.2.1 (a + 1) i) ((hL17_ (a + 1) (pB_no (tau_ne (big_row ha).1 ho (fun h => by cases h)) (ne1S noa))).2.1 i) ?_
            refine lv_goto (tgt := 65) hx hb dX0_addSize_61 (by decide) ?_
            refine r_iadd hx hb dX0_addSize_65 ?_
            refine lv_istore (lv' := [(5, .int (iv ((cy + (S17.2.1 (o + 1) i)) + (S.2.1 (a + 1) i)))), (4, .int (iv i)), (3, .int (iv cy)), (2, .int (iv z_4)), (0, .ref (G.2.2.1 + o)), (1, .ref (G.2.2.1 + a))]) hx hb dX0_addSize_66 hl (by decide) rfl (fun ls hl => ?_)
            refine lv_iload hx hb dX0_addSize_68 (lv_at hl 0 rfl) ?_
            refine lv_ldc hx hb hown (hts _ w_1293) dX0_addSize_70 ?_
            refine r_icmp_lt (tgt := 79) hx hb ⟨(by omega), (by omega)⟩ ⟨(by omega), (by omega)⟩ dX0_addSize_72 (by decide) (fun c_78 => ?_) (fun c_78 => ?_)
            · refine lv_iconst (v := iv 0) hx hb dX0_addSize_79 (by decide) ?_
              refine lv_istore_n (lv' := [(3, .int (iv 0)), (5, .int (iv ((cy + (S17.2.1 (o + 1) i)) + (S.2.1 (a + 1) i)))), (4, .int (iv i)), (2, .int (iv z_4)), (0, .ref (G.2.2.1 + o)), (1, .ref (G.2.2.1 + a))]) hx hb dX0_addSize_80 rfl hl (by decide) rfl (fun ls hl => ?_)
              refine lv_aload_n hx hb dX0_addSize_81 rfl (lv_at hl 4 rfl) ?_
              refine g_X0_9 Cx hW (k := o) (big_l ho) ho (v := .ref (G.2.2.1 + (o + 1))) (hI17.rq.1 o ho) dX0_addSize_82 ?_
              refine lv_iload hx hb dX0_addSize_85 (lv_at hl 2 rfl) ?_
              refine lv_iload hx hb dX0_addSize_87 (lv_at hl 1 rfl) ?_
              refine lv_iload_n hx hb dX0_addSize_89 rfl (lv_at hl 0 rfl) ?_
              refine lv_ldc hx hb hown (hts _ w_1293) dX0_addSize_90 ?_
              refine r_imul hx hb dX0_addSize_92 ?_
              refine r_i (b := 0) (by omega) ?_
              refine r_isub hx hb dX0_addSize_93 ?_
              refine rIast Cx hW hL (k := o + 1) (big_l1 ho) (big_row ho).1 (by decide) (by omega) (by omega) dX0_addSize_94 (fun H locs hW hL => ?_)
              have F_79 : Fr S (uA S17 (o + 1) i (((cy + (S17.2.1 (o + 1) i)) + (S.2.1 (a + 1) i)) - 0)) (pB o) := hFm17.A pB_1
              have F_80 : Fr S (uA S17 (o + 1) i (((cy + (S17.2.1 (o + 1) i)) + (S.2.1 (a + 1) i)) - 0)) (pB o) := hL17_.A pB_1
              have i_81 : cX G (uA S17 (o + 1) i (((cy + (S17.2.1 (o + 1) i)) + (S.2.1 (a + 1) i)) - 0)) o 0 0 := hI17.limb (Or.inl (exq_s ho)) ho ⟨(by omega), (by omega)⟩
              refine lv_iinc (v := iv (i + 1)) (lv' := [(4, .int (iv (i + 1))), (3, .int (iv 0)), (5, .int (iv ((cy + (S17.2.1 (o + 1) i)) + (S.2.1 (a + 1) i)))), (2, .int (iv z_4)), (0, .ref (G.2.2.1 + o)), (1, .ref (G.2.2.1 + a))]) hx hb dX0_addSize_95 hl (k := 2) rfl ((Int32.ofInt_add _ _).symm) (by decide) rfl (fun ls hl => ?_)
              refine lv_goto (tgt := 17) hx hb dX0_addSize_98 (by decide) ?_
              have lk_82 : (uA S17 (o + 1) i (((cy + (S17.2.1 (o + 1) i)) + (S.2.1 (a + 1) i)) - 0)).1 o 1 = S17.1 o 1 := uA_f
              have q_83 : (-1) ≤ S17.1 o 2 ∧ S17.1 o 2 ≤ 1 := hI17.fi o 2 0 (big_lt ho) ho
              have lk_84 : (uA S17 (o + 1) i (((cy + (S17.2.1 (o + 1) i)) + (S.2.1 (a + 1) i)) - 0)).1 o 2 = S17.1 o 2 := uA_f
              exact ih_17 (uA S17 (o + 1) i (((cy + (S17.2.1 (o + 1) i)) + (S.2.1 (a + 1) i)) - 0)) (i + 1) 0 _ _ _ (by omega) i_81 F_79 F_80 (by omega) (by omega) hc (fun j j0 => by rw [uA_ne (by omega)]; exact hun j (by omega)) (by intro q1 q2; rw [show i + 1 - 1 = i by omega, uA_on]; intro q3; have e1 : i = S.1 o 1 - 1 → S.2.1 (o + 1) i ≠ 0 := (fun e => by rw [e]; exact hnb (by omega)); have e2 : i = S.1 a 1 - 1 → S.2.1 (a + 1) i ≠ 0 := (fun e => by rw [e]; exact hna (by omega)); have e3 := hun i (by omega); omega) (by intro q; have e1 : i = n := (by omega); have e3 := hun i (by omega); have e4 := hnt2 q.2; rw [← e1] at e4; rw [← e1, uA_on]; omega) hW hL (lv_sub hl [0, 1, 3, 4, 5] rfl)
            · refine lv_iconst (v := iv 1) hx hb dX0_addSize_75 (by decide) ?_
              refine lv_goto (tgt := 80) hx hb dX0_addSize_76 (by decide) ?_
              refine lv_istore_n (lv' := [(3, .int (iv 1)), (5, .int (iv ((cy + (S17.2.1 (o + 1) i)) + (S.2.1 (a + 1) i)))), (4, .int (iv i)), (2, .int (iv z_4)), (0, .ref (G.2.2.1 + o)), (1, .ref (G.2.2.1 + a))]) hx hb dX0_addSize_80 rfl hl (by decide) rfl (fun ls hl => ?_)
              refine lv_aload_n hx hb dX0_addSize_81 rfl (lv_at hl 4 rfl) ?_
              refine g_X0_9 Cx hW (k := o) (big_l ho) ho (v := .ref (G.2.2.1 + (o + 1))) (hI17.rq.1 o ho) dX0_addSize_82 ?_
              refine lv_iload hx hb dX0_addSize_85 (lv_at hl 2 rfl) ?_
              refine lv_iload hx hb dX0_addSize_87 (lv_at hl 1 rfl) ?_
              refine lv_iload_n hx hb dX0_addSize_89 rfl (lv_at hl 0 rfl) ?_
              refine lv_ldc hx hb hown (hts _ w_1293) dX0_addSize_90 ?_
              refine r_imul hx hb dX0_addSize_92 ?_
              refine r_i (b := 1000000000) (by omega) ?_
              refine r_isub hx hb dX0_addSize_93 ?_
              refine rIast Cx hW hL (k := o + 1) (big_l1 ho) (big_row ho).1 (by decide) (by omega) (by omega) dX0_addSize_94 (fun H locs hW hL => ?_)
              have F_85 : Fr S (uA S17 (o + 1) i (((cy + (S17.2.1 (o + 1) i)) + (S.2.1 (a + 1) i)) - 1000000000)) (pB o) := hFm17.A pB_1
              have F_86 : Fr S (uA S17 (o + 1) i (((cy + (S17.2.1 (o + 1) i)) + (S.2.1 (a + 1) i)) - 1000000000)) (pB o) := hL17_.A pB_1
              have i_87 : cX G (uA S17 (o + 1) i (((cy + (S17.2.1 (o + 1) i)) + (S.2.1 (a + 1) i)) - 1000000000)) o 0 0 := hI17.limb (Or.inl (exq_s ho)) ho ⟨(by omega), (by omega)⟩
              refine lv_iinc (v := iv (i + 1)) (lv' := [(4, .int (iv (i + 1))), (3, .int (iv 1)), (5, .int (iv ((cy + (S17.2.1 (o + 1) i)) + (S.2.1 (a + 1) i)))), (2, .int (iv z_4)), (0, .ref (G.2.2.1 + o)), (1, .ref (G.2.2.1 + a))]) hx hb dX0_addSize_95 hl (k := 2) rfl ((Int32.ofInt_add _ _).symm) (by decide) rfl (fun ls hl => ?_)
              refine lv_goto (tgt := 17) hx hb dX0_addSize_98 (by decide) ?_
              have lk_88 : (uA S17 (o + 1) i (((cy + (S17.2.1 (o + 1) i)) + (S.2.1 (a + 1) i)) - 1000000000)).1 o 1 = S17.1 o 1 := uA_f
              have q_89 : (-1) ≤ S17.1 o 2 ∧ S17.1 o 2 ≤ 1 := hI17.fi o 2 0 (big_lt ho) ho
              have lk_90 : (uA S17 (o + 1) i (((cy + (S17.2.1 (o + 1) i)) + (S.2.1 (a + 1) i)) - 1000000000)).1 o 2 = S17.1 o 2 := uA_f
              exact ih_17 (uA S17 (o + 1) i (((cy + (S17.2.1 (o + 1) i)) + (S.2.1 (a + 1) i)) - 1000000000)) (i + 1) 1 _ _ _ (by omega) i_87 F_85 F_86 (by omega) (by omega) hc (fun j j0 => by rw [uA_ne (by omega)]; exact hun j (by omega)) (by intro q1 q2; rw [show i + 1 - 1 = i by omega, uA_on]; intro q3; have e1 : i = S.1 o 1 - 1 → S.2.1 (o + 1) i ≠ 0 := (fun e => by rw [e]; exact hnb (by omega)); have e2 : i = S.1 a 1 - 1 → S.2.1 (a + 1) i ≠ 0 := (fun e => by rw [e]; exact hna (by omega)); have e3 := hun i (by omega); omega) (by intro q; have e1 : i = n := (by omega); have e3 := hun i (by omega); have e4 := hnt2 q.2; rw [← e1] at e4; rw [← e1, uA_on]; omega) hW hL (lv_sub hl [0, 1, 3, 4, 5] rfl)
  have q_91 : (-1) ≤ S.1 o 2 ∧ S.1 o 2 ≤ 1 := j_1.fi o 2 0 (big_lt ho) ho
  exact loop_17 (_ + 1) S 0 0 _ _ _ (Nat.lt_succ_self _) j_1 (Fr.rf : Fr S S (pB o)) Fr.rf (by omega) (by omega) ⟨rfl, rfl⟩ (fun j _ => rfl) (fun _ q => absurd q.1 (by omega)) (fun q => by omega) hW hL (lv_sub hl [0, 1, 2, 3, 4] rfl)

set_option maxRecDepth 100000 in
set_option maxHeartbeats 4000000 in
theorem t_X0_takeSize_1 (l : Launch) (G : sG) (S : sS) {o a : Nat} (hI : cX G S 0 0 0) (ho : tau o = .inl 0) (ha : tau a = .inl 0) (noa : Hd (o ≠ a)) : Met l yX0_takeSize (.code yX0_takeSize cX0_takeSize 8 none :: tb) (rmk 1 0 0) (sPc G 294 S [.ref (G.2.2.1 + o), .ref (G.2.2.1 + o), .ref (G.2.2.1 + a)]) (sQv G 294 (fun u => cX G u o 0 0 ∧ Fr S u (pB o) ∧ (u.1 o 1 = S.1 o 1 ∧ u.1 o 2 = S.1 o 2 ∧ (S.1 a 1 < S.1 o 1 → u.2.1 (o + 1) (S.1 o 1 - 1) ≤ S.2.1 (o + 1) (S.1 o 1 - 1))))) 0 0 (sF G) := by
  refine sEnter (by decide) (Nat.le_of_ble_eq_true rfl) ?_
  intro p e s m args below meth c Cx hr hlk hnm hW ls hl
  have Cx : sC G p m c cX0_takeSize 8 s args RX0 := Cx
  obtain ⟨hx, hb, hml, hown, hts⟩ := id Cx.1
  have hL : sL G [] := sL_nil
  have hl : lv_has ls 8 [(0, .ref (G.2.2.1 + o)), (1, .ref (G.2.2.1 + o)), (2, .ref (G.2.2.1 + a))] := hl
  have hW0 := hW
  have hnb := nbH hI ho
  have j_1 := hI.exB o
  refine lv_aload_n hx hb dX0_takeSize_0 rfl (lv_at hl 1 rfl) ?_
  have q_2 : 0 ≤ S.1 o 1 ∧ S.1 o 1 ≤ 32 := j_1.fi o 1 0 (big_lt ho) ho
  refine g_X0_24 Cx hW (k := o) (big_l ho) ho (v := S.1 o 1) rfl dX0_takeSize_1 ?_
  refine lv_istore_n (lv' := [(3, .int (iv (S.1 o 1))), (0, .ref (G.2.2.1 + o)), (1, .ref (G.2.2.1 + o)), (2, .ref (G.2.2.1 + a))]) hx hb dX0_takeSize_4 rfl hl (by decide) rfl (fun ls hl => ?_)
  refine lv_aload_n hx hb dX0_takeSize_5 rfl (lv_at hl 3 rfl) ?_
  have q_3 : 0 ≤ S.1 a 1 ∧ S.1 a 1 ≤ 32 := j_1.fi a 1 0 (big_lt ha) ha
  refine g_X0_24 Cx hW (k := a) (big_l ha) ha (v := S.1 a 1) rfl dX0_takeSize_6 ?_
  refine lv_istore (lv' := [(4, .int (iv (S.1 a 1))), (3, .int (iv (S.1 o 1))), (0, .ref (G.2.2.1 + o)), (1, .ref (G.2.2.1 + o)), (2, .ref (G.2.2.1 + a))]) hx hb dX0_takeSize_9 hl (by decide) rfl (fun ls hl => ?_)
  refine lv_iconst (v := iv 0) hx hb dX0_takeSize_11 (by decide) ?_
  refine lv_istore (lv' := [(5, .int (iv 0)), (4, .int (iv (S.1 a 1))), (3, .int (iv (S.1 o 1))), (0, .ref (G.2.2.1 + o)), (1, .ref (G.2.2.1 + o)), (2, .ref (G.2.2.1 + a))]) hx hb dX0_takeSize_12 hl (by decide) rfl (fun ls hl => ?_)
  refine lv_iconst (v := iv 0) hx hb dX0_takeSize_14 (by decide) ?_
  refine lv_istore (lv' := [(6, .int (iv 0)), (5, .int (iv 0)), (4, .int (iv (S.1 a 1))), (3, .int (iv (S.1 o 1))), (0, .ref (G.2.2.1 + o)), (1, .ref (G.2.2.1 + o)), (2, .ref (G.2.2.1 + a))]) hx hb dX0_takeSize_15 hl (by decide) rfl (fun ls hl => ?_)
  have loop_17 : ∀ (fuel : Nat) (S17 : sS) (i : Int) (bo : Int) (H : Heap) (locs : List Loc) (ls : Array Slot), (S.1 o 1 - i).toNat < fuel → (cX G S17 o 0 0) → (Fr S S17 (pB o)) → (Fr S S17 (pB o)) → (0 ≤ bo ∧ bo ≤ 1) → (0 ≤ i ∧ i ≤ S.1 o 1) → (S17.1 o 1 = S.1 o 1 ∧ S17.1 o 2 = S.1 o 2) → (∀ j, i ≤ j → S17.2.1 (o + 1) j = S.2.1 (o + 1) j) → (Hd (i = S.1 o 1 → S.1 a 1 < S.1 o 1 → S17.2.1 (o + 1) (S.1 o 1 - 1) ≤ S.2.1 (o + 1) (S.1 o 1 - 1))) → sW G 294 S17 H → sL G locs → lv_has ls 8 [(6, .int (iv i)), (5, .int (iv bo)), (4, .int (iv (S.1 a 1))), (3, .int (iv (S.1 o 1))), (0, .ref (G.2.2.1 + o)), (1, .ref (G.2.2.1 + o)), (2, .ref (G.2.2.1 + a))] → W p l e (rmk 1 0 0) s m args below meth c H locs 0 0 (MQ below (sQv G 294 (fun u => cX G u o 0 0 ∧ Fr S u (pB o) ∧ (u.1 o 1 = S.1 o 1 ∧ u.1 o 2 = S.1 o 2 ∧ (S.1 a 1 < S.1 o 1 → u.2.1 (o + 1) (S.1 o 1 - 1) ≤ S.2.1 (o + 1) (S.1 o 1 - 1))))) args s 0 0 (sF G)) (F0 m 17 ls []) := by
    intro fuel
    induction fuel with
    | zero => intro S17 i bo H locs ls hmeas hI17 hFm17 hL17_ hbo hi hc hun htp hW hL hl; exact absurd hmeas (Nat.not_lt_zero _)
    | succ fuel ih_17 =>
      intro S17 i bo H locs ls hmeas hI17 hFm17 hL17_ hbo hi hc hun htp hW hL hl
      have hui := hun i (Int.le_refl _)
      refine lv_iload hx hb dX0_takeSize_17 (lv_at hl 0 rfl) ?_
      refine lv_iload_n hx hb dX0_takeSize_19 rfl (lv_at hl 3 rfl) ?_
      refine r_icmp_ge (tgt := 87) hx hb ⟨(by omega), (by omega)⟩ ⟨(by omega), (by omega)⟩ dX0_takeSize_20 (by decide) (fun c_4 => ?_) (fun c_4 => ?_)
      · refine lv_aload_n hx hb dX0_takeSize_87 rfl (lv_at hl 4 rfl) ?_
        refine lv_iload_n hx hb dX0_takeSize_88 rfl (lv_at hl 3 rfl) ?_
        refine p_X0_24 Cx hW hL (k := o) (big_l ho) ho dX0_takeSize_89 (fun H locs hW hL => ?_)
        have F_5 : Fr S (uF S17 o 1 (S.1 o 1)) (pB o) := hFm17.F pB_0
        have F_6 : Fr S (uF S17 o 1 (S.1 o 1)) (pB o) := hL17_.F pB_0
        have i_7 : cX G (uF S17 o 1 (S.1 o 1)) o 0 0 := hI17.cnt (exq_s ho) ho ⟨by omega, by omega⟩
        have lk_8 : (uF S17 o 1 (S.1 o 1)).1 o 1 = S.1 o 1 := uF_on
        have q_9 : (-1) ≤ S17.1 o 2 ∧ S17.1 o 2 ≤ 1 := hI17.fi o 2 0 (big_lt ho) ho
        have lk_10 : (uF S17 o 1 (S.1 o 1)).1 o 2 = S17.1 o 2 := uF_ne (fun h => absurd h.2 (by decide))
        exact sVret Cx hr hlk hW hL ⟨i_7, F_5, ⟨uF_on, by rw [uF_i (by decide)]; exact hc.2, fun q => htp (by omega) q⟩⟩ dX0_takeSize_92
      · refine lv_aload_n hx hb dX0_takeSize_23 rfl (lv_at hl 5 rfl) ?_
        refine g_X0_9 Cx hW (k := o) (big_l ho) ho (v := .ref (G.2.2.1 + (o + 1))) (hI17.rq.1 o ho) dX0_takeSize_24 ?_
        refine lv_iload hx hb dX0_takeSize_27 (lv_at hl 0 rfl) ?_
        refine rIald Cx hW (k := o + 1) (big_l1 ho) (big_row ho).1 (by decide) (by omega) (by omega) dX0_takeSize_29 ?_
        have q_11 := limbR hI17 ho i
        refine r_i (b := S17.2.1 (o + 1) i) rfl ?_
        refine lv_iload hx hb dX0_takeSize_30 (lv_at hl 1 rfl) ?_
        refine r_isub hx hb dX0_takeSize_32 ?_
        refine lv_iload hx hb dX0_takeSize_33 (lv_at hl 0 rfl) ?_
        refine lv_iload hx hb dX0_takeSize_35 (lv_at hl 2 rfl) ?_
        refine r_icmp_ge (tgt := 50) hx hb ⟨(by omega), (by omega)⟩ ⟨(by omega), (by omega)⟩ dX0_takeSize_37 (by decide) (fun c_12 => ?_) (fun c_12 => ?_)
        · refine lv_iconst (v := iv 0) hx hb dX0_takeSize_50 (by decide) ?_
          refine r_isub hx hb dX0_takeSize_51 ?_
          refine lv_istore (lv' := [(7, .int (iv (((S17.2.1 (o + 1) i) - bo) - 0))), (6, .int (iv i)), (5, .int (iv bo)), (4, .int (iv (S.1 a 1))), (3, .int (iv (S.1 o 1))), (0, .ref (G.2.2.1 + o)), (1, .ref (G.2.2.1 + o)), (2, .ref (G.2.2.1 + a))]) hx hb dX0_takeSize_52 hl (by decide) rfl (fun ls hl => ?_)
          refine lv_iload hx hb dX0_takeSize_54 (lv_at hl 0 rfl) ?_
          refine r_if_ge (tgt := 63) hx hb ⟨(by omega), (by omega)⟩ dX0_takeSize_56 (by decide) (fun c_13 => ?_) (fun c_13 => ?_)
          · refine lv_iconst (v := iv 0) hx hb dX0_takeSize_63 (by decide) ?_
            refine lv_istore (lv' := [(5, .int (iv 0)), (7, .int (iv (((S17.2.1 (o + 1) i) - bo) - 0))), (6, .int (iv i)), (4, .int (iv (S.1 a 1))), (3, .int (iv (S.1 o 1))), (0, .ref (G.2.2.1 + o)), (1, .ref (G.2.2.1 + o)), (2, .ref (G.2.2.1 + a))]) hx hb dX0_takeSize_64 hl (by decide) rfl (fun ls hl => ?_)
            refine lv_aload_n hx hb dX0_takeSize_66 rfl (lv_at hl 5 rfl) ?_
            refine g_X0_9 Cx hW (k := o) (big_l ho) ho (v := .ref (G.2.2.1 + (o + 1))) (hI17.rq.1 o ho) dX0_takeSize_67 ?_
            refine lv_iload hx hb dX0_takeSize_70 (lv_at hl 2 rfl) ?_
            refine lv_iload hx hb dX0_takeSize_72 (lv_at hl 1 rfl) ?_
            refine lv_iload hx hb dX0_takeSize_74 (lv_at hl 0 rfl) ?_
            refine lv_ldc hx hb hown (hts _ w_1293) dX0_takeSize_76 ?_
            refine r_imul hx hb dX0_takeSize_78 ?_
            refine r_i (b := 0) (by omega) ?_
            refine r_iadd hx hb dX0_takeSize_79 ?_
            refine rIast Cx hW hL (k := o + 1) (big_l1 ho) (big_row ho).1 (by decide) (by omega) (by omega) dX0_takeSize_80 (fun H locs hW hL => ?_)
            have F_14 : Fr S (uA S17 (o + 1) i ((((S17.2.1 (o + 1) i) - bo) - 0) + 0)) (pB o) := hFm17.A pB_1
            have F_15 : Fr S (uA S17 (o + 1) i ((((S17.2.1 (o + 1) i) - bo) - 0) + 0)) (pB o) := hL17_.A pB_1
            have i_16 : cX G (uA S17 (o + 1) i ((((S17.2.1 (o + 1) i) - bo) - 0) + 0)) o 0 0 := hI17.limb (Or.inl (exq_s ho)) ho ⟨(by omega), (by omega)⟩
            refine lv_iinc (v := iv (i + 1)) (lv' := [(6, .int (iv (i + 1))), (5, .int (iv 0)), (7, .int (iv (((S17.2.1 (o + 1) i) - bo) - 0))), (4, .int (iv (S.1 a 1))), (3, .int (iv (S.1 o 1))), (0, .ref (G.2.2.1 + o)), (1, .ref (G.2.2.1 + o)), (2, .ref (G.2.2.1 + a))]) hx hb dX0_takeSize_81 hl (k := 2) rfl ((Int32.ofInt_add _ _).symm) (by decide) rfl (fun ls hl => ?_)
            refine lv_goto (tgt := 17) hx hb dX0_takeSize_84 (by decide) ?_
            have q_17 : 0 ≤ S17.1 o 1 ∧ S17.1 o 1 ≤ 32 := hI17.fi o 1 0 (big_lt ho) ho
            have lk_18 : (uA S17 (o + 1) i ((((S17.2.1 (o + 1) i) - bo) - 0) + 0)).1 o 1 = S17.1 o 1 := uA_f
            have q_19 : (-1) ≤ S17.1 o 2 ∧ S17.1 o 2 ≤ 1 := hI17.fi o 2 0 (big_lt ho) ho
            have lk_20 : (uA S17 (o + 1) i ((((S17.2.1 (o + 1) i) - bo) - 0) + 0)).1 o 2 = S17.1 o 2 := uA_f
            exact ih_17 (uA S17 (o + 1) i ((((S17.2.1 (o + 1) i) - bo) - 0) + 0)) (i + 1) 0 _ _ _ (by omega) i_16 F_14 F_15 (by omega) (by omega) hc (fun j j0 => by rw [uA_ne (by omega)]; exact hun j (by omega)) (by intro q1 q2; have e := hnb (by omega); rw [show S.1 o 1 - 1 = i by omega] at e ⊢; rw [uA_on]; omega) hW hL (lv_sub hl [0, 1, 3, 4, 5, 6, 7] rfl)
          · refine lv_iconst (v := iv 1) hx hb dX0_takeSize_59 (by decide) ?_
            refine lv_goto (tgt := 64) hx hb dX0_takeSize_60 (by decide) ?_
            refine lv_istore (lv' := [(5, .int (iv 1)), (7, .int (iv (((S17.2.1 (o + 1) i) - bo) - 0))), (6, .int (iv i)), (4, .int (iv (S.1 a 1))), (3, .int (iv (S.1 o 1))), (0, .ref (G.2.2.1 + o)), (1, .ref (G.2.2.1 + o)), (2, .ref (G.2.2.1 + a))]) hx hb dX0_takeSize_64 hl (by decide) rfl (fun ls hl => ?_)
            refine lv_aload_n hx hb dX0_takeSize_66 rfl (lv_at hl 5 rfl) ?_
            refine g_X0_9 Cx hW (k := o) (big_l ho) ho (v := .ref (G.2.2.1 + (o + 1))) (hI17.rq.1 o ho) dX0_takeSize_67 ?_
            refine lv_iload hx hb dX0_takeSize_70 (lv_at hl 2 rfl) ?_
            refine lv_iload hx hb dX0_takeSize_72 (lv_at hl 1 rfl) ?_
            refine lv_iload hx hb dX0_takeSize_74 (lv_at hl 0 rfl) ?_
            refine lv_ldc hx hb hown (hts _ w_1293) dX0_takeSize_76 ?_
            refine r_imul hx hb dX0_takeSize_78 ?_
            refine r_i (b := 1000000000) (by omega) ?_
            refine r_iadd hx hb dX0_takeSize_79 ?_
            refine rIast Cx hW hL (k := o + 1) (big_l1 ho) (big_row ho).1 (by decide) (by omega) (by omega) dX0_takeSize_80 (fun H locs hW hL => ?_)
            have F_21 : Fr S (uA S17 (o + 1) i ((((S17.2.1 (o + 1) i) - bo) - 0) + 1000000000)) (pB o) := hFm17.A pB_1
            have F_22 : Fr S (uA S17 (o + 1) i ((((S17.2.1 (o + 1) i) - bo) - 0) + 1000000000)) (pB o) := hL17_.A pB_1
            have i_23 : cX G (uA S17 (o + 1) i ((((S17.2.1 (o + 1) i) - bo) - 0) + 1000000000)) o 0 0 := hI17.limb (Or.inl (exq_s ho)) ho ⟨(by omega), (by omega)⟩
            refine lv_iinc (v := iv (i + 1)) (lv' := [(6, .int (iv (i + 1))), (5, .int (iv 1)), (7, .int (iv (((S17.2.1 (o + 1) i) - bo) - 0))), (4, .int (iv (S.1 a 1))), (3, .int (iv (S.1 o 1))), (0, .ref (G.2.2.1 + o)), (1, .ref (G.2.2.1 + o)), (2, .ref (G.2.2.1 + a))]) hx hb dX0_takeSize_81 hl (k := 2) rfl ((Int32.ofInt_add _ _).symm) (by decide) rfl (fun ls hl => ?_)
            refine lv_goto (tgt := 17) hx hb dX0_takeSize_84 (by decide) ?_
            have q_24 : 0 ≤ S17.1 o 1 ∧ S17.1 o 1 ≤ 32 := hI17.fi o 1 0 (big_lt ho) ho
            have lk_25 : (uA S17 (o + 1) i ((((S17.2.1 (o + 1) i) - bo) - 0) + 1000000000)).1 o 1 = S17.1 o 1 := uA_f
            have q_26 : (-1) ≤ S17.1 o 2 ∧ S17.1 o 2 ≤ 1 := hI17.fi o 2 0 (big_lt ho) ho
            have lk_27 : (uA S17 (o + 1) i ((((S17.2.1 (o + 1) i) - bo) - 0) + 1000000000)).1 o 2 = S17.1 o 2 := uA_f
            exact ih_17 (uA S17 (o + 1) i ((((S17.2.1 (o + 1) i) - bo) - 0) + 1000000000)) (i + 1) 1 _ _ _ (by omega) i_23 F_21 F_22 (by omega) (by omega) hc (fun j j0 => by rw [uA_ne (by omega)]; exact hun j (by omega)) (by intro q1 q2; have e := hnb (by omega); rw [show S.1 o 1 - 1 = i by omega] at e ⊢; rw [uA_on]; omega) hW hL (lv_sub hl [0, 1, 3, 4, 5, 6, 7] rfl)
        · refine lv_aload_n hx hb dX0_takeSize_40 rfl (lv_at hl 6 rfl) ?_
          refine g_X0_9 Cx hW (k := a) (big_l ha) ha (v := .ref (G.2.2.1 + (a + 1))) (hI17.rq.1 a ha) dX0_takeSize_41 ?_
          refine lv_iload hx hb dX0_takeSize_44 (lv_at hl 0 rfl) ?_
          refine rIald Cx hW (k := a + 1) (big_l1 ha) (big_row ha).1 (by decide) (by omega) (by omega) dX0_takeSize_46 ?_
          have q_28 := limbR j_1 ha i
          refine r_i (b := S.2.1 (a + 1) i) ((hL17_ (a + 1) (pB_no (tau_ne (big_row ha).1 ho (fun h => by cases h)) (ne1S noa))).2.1 i) ?_
          refine lv_goto (tgt := 51) hx hb dX0_takeSize_47 (by decide) ?_
          refine r_isub hx hb dX0_takeSize_51 ?_
          refine lv_istore (lv' := [(7, .int (iv (((S17.2.1 (o + 1) i) - bo) - (S.2.1 (a + 1) i)))), (6, .int (iv i)), (5, .int (iv bo)), (4, .int (iv (S.1 a 1))), (3, .int (iv (S.1 o 1))), (0, .ref (G.2.2.1 + o)), (1, .ref (G.2.2.1 + o)), (2, .ref (G.2.2.1 + a))]) hx hb dX0_takeSize_52 hl (by decide) rfl (fun ls hl => ?_)
          refine lv_iload hx hb dX0_takeSize_54 (lv_at hl 0 rfl) ?_
          refine r_if_ge (tgt := 63) hx hb ⟨(by omega), (by omega)⟩ dX0_takeSize_56 (by decide) (fun c_29 => ?_) (fun c_29 => ?_)
          · refine lv_iconst (v := iv 0) hx hb dX0_takeSize_63 (by decide) ?_
            refine lv_istore (lv' := [(5, .int (iv 0)), (7, .int (iv (((S17.2.1 (o + 1) i) - bo) - (S.2.1 (a + 1) i)))), (6, .int (iv i)), (4, .int (iv (S.1 a 1))), (3, .int (iv (S.1 o 1))), (0, .ref (G.2.2.1 + o)), (1, .ref (G.2.2.1 + o)), (2, .ref (G.2.2.1 + a))]) hx hb dX0_takeSize_64 hl (by decide) rfl (fun ls hl => ?_)
            refine lv_aload_n hx hb dX0_takeSize_66 rfl (lv_at hl 5 rfl) ?_
            refine g_X0_9 Cx hW (k := o) (big_l ho) ho (v := .ref (G.2.2.1 + (o + 1))) (hI17.rq.1 o ho) dX0_takeSize_67 ?_
            refine lv_iload hx hb dX0_takeSize_70 (lv_at hl 2 rfl) ?_
            refine lv_iload hx hb dX0_takeSize_72 (lv_at hl 1 rfl) ?_
            refine lv_iload hx hb dX0_takeSize_74 (lv_at hl 0 rfl) ?_
            refine lv_ldc hx hb hown (hts _ w_1293) dX0_takeSize_76 ?_
            refine r_imul hx hb dX0_takeSize_78 ?_
            refine r_i (b := 0) (by omega) ?_
            refine r_iadd hx hb dX0_takeSize_79 ?_
            refine rIast Cx hW hL (k := o + 1) (big_l1 ho) (big_row ho).1 (by decide) (by omega) (by omega) dX0_takeSize_80 (fun H locs hW hL => ?_)
            have F_30 : Fr S (uA S17 (o + 1) i ((((S17.2.1 (o + 1) i) - bo) - (S.2.1 (a + 1) i)) + 0)) (pB o) := hFm17.A pB_1
            have F_31 : Fr S (uA S17 (o + 1) i ((((S17.2.1 (o + 1) i) - bo) - (S.2.1 (a + 1) i)) + 0)) (pB o) := hL17_.A pB_1
            have i_32 : cX G (uA S17 (o + 1) i ((((S17.2.1 (o + 1) i) - bo) - (S.2.1 (a + 1) i)) + 0)) o 0 0 := hI17.limb (Or.inl (exq_s ho)) ho ⟨(by omega), (by omega)⟩
            refine lv_iinc (v := iv (i + 1)) (lv' := [(6, .int (iv (i + 1))), (5, .int (iv 0)), (7, .int (iv (((S17.2.1 (o + 1) i) - bo) - (S.2.1 (a + 1) i)))), (4, .int (iv (S.1 a 1))), (3, .int (iv (S.1 o 1))), (0, .ref (G.2.2.1 + o)), (1, .ref (G.2.2.1 + o)), (2, .ref (G.2.2.1 + a))]) hx hb dX0_takeSize_81 hl (k := 2) rfl ((Int32.ofInt_add _ _).symm) (by decide) rfl (fun ls hl => ?_)
            refine lv_goto (tgt := 17) hx hb dX0_takeSize_84 (by decide) ?_
            have q_33 : 0 ≤ S17.1 o 1 ∧ S17.1 o 1 ≤ 32 := hI17.fi o 1 0 (big_lt ho) ho
            have lk_34 : (uA S17 (o + 1) i ((((S17.2.1 (o + 1) i) - bo) - (S.2.1 (a + 1) i)) + 0)).1 o 1 = S17.1 o 1 := uA_f
            have q_35 : (-1) ≤ S17.1 o 2 ∧ S17.1 o 2 ≤ 1 := hI17.fi o 2 0 (big_lt ho) ho
            have lk_36 : (uA S17 (o + 1) i ((((S17.2.1 (o + 1) i) - bo) - (S.2.1 (a + 1) i)) + 0)).1 o 2 = S17.1 o 2 := uA_f
            exact ih_17 (uA S17 (o + 1) i ((((S17.2.1 (o + 1) i) - bo) - (S.2.1 (a + 1) i)) + 0)) (i + 1) 0 _ _ _ (by omega) i_32 F_30 F_31 (by omega) (by omega) hc (fun j j0 => by rw [uA_ne (by omega)]; exact hun j (by omega)) (by intro q1 q2; have e := hnb (by omega); rw [show S.1 o 1 - 1 = i by omega] at e ⊢; rw [uA_on]; omega) hW hL (lv_sub hl [0, 1, 3, 4, 5, 6, 7] rfl)
          · refine lv_iconst (v := iv 1) hx hb dX0_takeSize_59 (by decide) ?_
            refine lv_goto (tgt := 64) hx hb dX0_takeSize_60 (by decide) ?_
            refine lv_istore (lv' := [(5, .int (iv 1)), (7, .int (iv (((S17.2.1 (o + 1) i) - bo) - (S.2.1 (a + 1) i)))), (6, .int (iv i)), (4, .int (iv (S.1 a 1))), (3, .int (iv (S.1 o 1))), (0, .ref (G.2.2.1 + o)), (1, .ref (G.2.2.1 + o)), (2, .ref (G.2.2.1 + a))]) hx hb dX0_takeSize_64 hl (by decide) rfl (fun ls hl => ?_)
            refine lv_aload_n hx hb dX0_takeSize_66 rfl (lv_at hl 5 rfl) ?_
            refine g_X0_9 Cx hW (k := o) (big_l ho) ho (v := .ref (G.2.2.1 + (o + 1))) (hI17.rq.1 o ho) dX0_takeSize_67 ?_
            refine lv_iload hx hb dX0_takeSize_70 (lv_at hl 2 rfl) ?_
            refine lv_iload hx hb dX0_takeSize_72 (lv_at hl 1 rfl) ?_
            refine lv_iload hx hb dX0_takeSize_74 (lv_at hl 0 rfl) ?_
            refine lv_ldc hx hb hown (hts _ w_1293) dX0_takeSize_76 ?_
            refine r_imul hx hb dX0_takeSize_78 ?_
            refine r_i (b := 1000000000) (by omega) ?_
            refine r_iadd hx hb dX0_takeSize_79 ?_
            refine rIast Cx hW hL (k := o + 1) (big_l1 ho) (big_row ho).1 (by decide) (by omega) (by omega) dX0_takeSize_80 (fun H locs hW hL => ?_)
            have F_37 : Fr S (uA S17 (o + 1) i ((((S17.2.1 (o + 1) i) - bo) - (S.2.1 (a + 1) i)) + 1000000000)) (pB o) := hFm17.A pB_1
            have F_38 : Fr S (uA S17 (o + 1) i ((((S17.2.1 (o + 1) i) - bo) - (S.2.1 (a + 1) i)) + 1000000000)) (pB o) := hL17_.A pB_1
            have i_39 : cX G (uA S17 (o + 1) i ((((S17.2.1 (o + 1) i) - bo) - (S.2.1 (a + 1) i)) + 1000000000)) o 0 0 := hI17.limb (Or.inl (exq_s ho)) ho ⟨(by omega), (by omega)⟩
            refine lv_iinc (v := iv (i + 1)) (lv' := [(6, .int (iv (i + 1))), (5, .int (iv 1)), (7, .int (iv (((S17.2.1 (o + 1) i) - bo) - (S.2.1 (a + 1) i)))), (4, .int (iv (S.1 a 1))), (3, .int (iv (S.1 o 1))), (0, .ref (G.2.2.1 + o)), (1, .ref (G.2.2.1 + o)), (2, .ref (G.2.2.1 + a))]) hx hb dX0_takeSize_81 hl (k := 2) rfl ((Int32.ofInt_add _ _).symm) (by decide) rfl (fun ls hl => ?_)
            refine lv_goto (tgt := 17) hx hb dX0_takeSize_84 (by decide) ?_
            have q_40 : 0 ≤ S17.1 o 1 ∧ S17.1 o 1 ≤ 32 := hI17.fi o 1 0 (big_lt ho) ho
            have lk_41 : (uA S17 (o + 1) i ((((S17.2.1 (o + 1) i) - bo) - (S.2.1 (a + 1) i)) + 1000000000)).1 o 1 = S17.1 o 1 := uA_f
            have q_42 : (-1) ≤ S17.1 o 2 ∧ S17.1 o 2 ≤ 1 := hI17.fi o 2 0 (big_lt ho) ho
            have lk_43 : (uA S17 (o + 1) i ((((S17.2.1 (o + 1) i) - bo) - (S.2.1 (a + 1) i)) + 1000000000)).1 o 2 = S17.1 o 2 := uA_f
            exact ih_17 (uA S17 (o + 1) i ((((S17.2.1 (o + 1) i) - bo) - (S.2.1 (a + 1) i)) + 1000000000)) (i + 1) 1 _ _ _ (by omega) i_39 F_37 F_38 (by omega) (by omega) hc (fun j j0 => by rw [uA_ne (by omega)]; exact hun j (by omega)) (by intro q1 q2; have e := hnb (by omega); rw [show S.1 o 1 - 1 = i by omega] at e ⊢; rw [uA_on]; omega) hW hL (lv_sub hl [0, 1, 3, 4, 5, 6, 7] rfl)
  have q_44 : (-1) ≤ S.1 o 2 ∧ S.1 o 2 ≤ 1 := j_1.fi o 2 0 (big_lt ho) ho
  exact loop_17 (_ + 1) S 0 0 _ _ _ (Nat.lt_succ_self _) j_1 (Fr.rf : Fr S S (pB o)) Fr.rf (by omega) (by omega) ⟨rfl, rfl⟩ (fun j _ => rfl) (fun _ _ => Int.le_refl _) hW hL (lv_sub hl [0, 1, 2, 3, 4, 5, 6] rfl)

set_option maxRecDepth 100000 in
set_option maxHeartbeats 4000000 in
theorem t_X0_takeSize_2 (l : Launch) (G : sG) (S : sS) {o a : Nat} (hI : cX G S 0 0 0) (ho : tau o = .inl 0) (ha : tau a = .inl 0) (noa : Hd (o ≠ a)) : Met l yX0_takeSize (.code yX0_takeSize cX0_takeSize 8 none :: tb) (rmk 1 0 0) (sPc G 294 S [.ref (G.2.2.1 + o), .ref (G.2.2.1 + a), .ref (G.2.2.1 + o)]) (sQv G 294 (fun u => cX G u o 0 0 ∧ Fr S u (pB o) ∧ (u.1 o 1 = S.1 a 1 ∧ u.1 o 2 = S.1 o 2))) 0 0 (sF G) := by
  refine sEnter (by decide) (Nat.le_of_ble_eq_true rfl) ?_
  intro p e s m args below meth c Cx hr hlk hnm hW ls hl
  have Cx : sC G p m c cX0_takeSize 8 s args RX0 := Cx
  obtain ⟨hx, hb, hml, hown, hts⟩ := id Cx.1
  have hL : sL G [] := sL_nil
  have hl : lv_has ls 8 [(0, .ref (G.2.2.1 + o)), (1, .ref (G.2.2.1 + a)), (2, .ref (G.2.2.1 + o))] := hl
  have hW0 := hW
  have hnb := nbH hI ho
  have j_1 := hI.exB o
  refine lv_aload_n hx hb dX0_takeSize_0 rfl (lv_at hl 1 rfl) ?_
  have q_2 : 0 ≤ S.1 a 1 ∧ S.1 a 1 ≤ 32 := j_1.fi a 1 0 (big_lt ha) ha
  refine g_X0_24 Cx hW (k := a) (big_l ha) ha (v := S.1 a 1) rfl dX0_takeSize_1 ?_
  refine lv_istore_n (lv' := [(3, .int (iv (S.1 a 1))), (0, .ref (G.2.2.1 + o)), (1, .ref (G.2.2.1 + a)), (2, .ref (G.2.2.1 + o))]) hx hb dX0_takeSize_4 rfl hl (by decide) rfl (fun ls hl => ?_)
  refine lv_aload_n hx hb dX0_takeSize_5 rfl (lv_at hl 3 rfl) ?_
  have q_3 : 0 ≤ S.1 o 1 ∧ S.1 o 1 ≤ 32 := j_1.fi o 1 0 (big_lt ho) ho
  refine g_X0_24 Cx hW (k := o) (big_l ho) ho (v := S.1 o 1) rfl dX0_takeSize_6 ?_
  refine lv_istore (lv' := [(4, .int (iv (S.1 o 1))), (3, .int (iv (S.1 a 1))), (0, .ref (G.2.2.1 + o)), (1, .ref (G.2.2.1 + a)), (2, .ref (G.2.2.1 + o))]) hx hb dX0_takeSize_9 hl (by decide) rfl (fun ls hl => ?_)
  refine lv_iconst (v := iv 0) hx hb dX0_takeSize_11 (by decide) ?_
  refine lv_istore (lv' := [(5, .int (iv 0)), (4, .int (iv (S.1 o 1))), (3, .int (iv (S.1 a 1))), (0, .ref (G.2.2.1 + o)), (1, .ref (G.2.2.1 + a)), (2, .ref (G.2.2.1 + o))]) hx hb dX0_takeSize_12 hl (by decide) rfl (fun ls hl => ?_)
  refine lv_iconst (v := iv 0) hx hb dX0_takeSize_14 (by decide) ?_
  refine lv_istore (lv' := [(6, .int (iv 0)), (5, .int (iv 0)), (4, .int (iv (S.1 o 1))), (3, .int (iv (S.1 a 1))), (0, .ref (G.2.2.1 + o)), (1, .ref (G.2.2.1 + a)), (2, .ref (G.2.2.1 + o))]) hx hb dX0_takeSize_15 hl (by decide) rfl (fun ls hl => ?_)
  have loop_17 : ∀ (fuel : Nat) (S17 : sS) (i : Int) (bo : Int) (H : Heap) (locs : List Loc) (ls : Array Slot), (S.1 a 1 - i).toNat < fuel → (cX G S17 o 0 0) → (Fr S S17 (pB o)) → (Fr S S17 (pB o)) → (0 ≤ bo ∧ bo ≤ 1) → (0 ≤ i ∧ i ≤ S.1 a 1) → (S17.1 o 1 = S.1 o 1 ∧ S17.1 o 2 = S.1 o 2) → (∀ j, i ≤ j → S17.2.1 (o + 1) j = S.2.1 (o + 1) j) → sW G 294 S17 H → sL G locs → lv_has ls 8 [(6, .int (iv i)), (5, .int (iv bo)), (4, .int (iv (S.1 o 1))), (3, .int (iv (S.1 a 1))), (0, .ref (G.2.2.1 + o)), (1, .ref (G.2.2.1 + a)), (2, .ref (G.2.2.1 + o))] → W p l e (rmk 1 0 0) s m args below meth c H locs 0 0 (MQ below (sQv G 294 (fun u => cX G u o 0 0 ∧ Fr S u (pB o) ∧ (u.1 o 1 = S.1 a 1 ∧ u.1 o 2 = S.1 o 2))) args s 0 0 (sF G)) (F0 m 17 ls []) := by
    intro fuel
    induction fuel with
    | zero => intro S17 i bo H locs ls hmeas hI17 hFm17 hL17_ hbo hi hc hun hW hL hl; exact absurd hmeas (Nat.not_lt_zero _)
    | succ fuel ih_17 =>
      intro S17 i bo H locs ls hmeas hI17 hFm17 hL17_ hbo hi hc hun hW hL hl
      have hui := hun i (Int.le_refl _)
      refine lv_iload hx hb dX0_takeSize_17 (lv_at hl 0 rfl) ?_
      refine lv_iload_n hx hb dX0_takeSize_19 rfl (lv_at hl 3 rfl) ?_
      refine r_icmp_ge (tgt := 87) hx hb ⟨(by omega), (by omega)⟩ ⟨(by omega), (by omega)⟩ dX0_takeSize_20 (by decide) (fun c_4 => ?_) (fun c_4 => ?_)
      · refine lv_aload_n hx hb dX0_takeSize_87 rfl (lv_at hl 4 rfl) ?_
        refine lv_iload_n hx hb dX0_takeSize_88 rfl (lv_at hl 3 rfl) ?_
        refine p_X0_24 Cx hW hL (k := o) (big_l ho) ho dX0_takeSize_89 (fun H locs hW hL => ?_)
        have F_5 : Fr S (uF S17 o 1 (S.1 a 1)) (pB o) := hFm17.F pB_0
        have F_6 : Fr S (uF S17 o 1 (S.1 a 1)) (pB o) := hL17_.F pB_0
        have i_7 : cX G (uF S17 o 1 (S.1 a 1)) o 0 0 := hI17.cnt (exq_s ho) ho ⟨by omega, by omega⟩
        have lk_8 : (uF S17 o 1 (S.1 a 1)).1 o 1 = S.1 a 1 := uF_on
        have q_9 : (-1) ≤ S17.1 o 2 ∧ S17.1 o 2 ≤ 1 := hI17.fi o 2 0 (big_lt ho) ho
        have lk_10 : (uF S17 o 1 (S.1 a 1)).1 o 2 = S17.1 o 2 := uF_ne (fun h => absurd h.2 (by decide))
        exact sVret Cx hr hlk hW hL ⟨i_7, F_5, ⟨uF_on, by rw [uF_i (by decide)]; exact hc.2⟩⟩ dX0_takeSize_92
      · refine lv_aload_n hx hb dX0_takeSize_23 rfl (lv_at hl 5 rfl) ?_
        refine g_X0_9 Cx hW (k := a) (big_l ha) ha (v := .ref (G.2.2.1 + (a + 1))) (hI17.rq.1 a ha) dX0_takeSize_24 ?_
        refine lv_iload hx hb dX0_takeSize_27 (lv_at hl 0 rfl) ?_
        refine rIald Cx hW (k := a + 1) (big_l1 ha) (big_row ha).1 (by decide) (by omega) (by omega) dX0_takeSize_29 ?_
        have q_11 := limbR j_1 ha i
        refine r_i (b := S.2.1 (a + 1) i) ((hL17_ (a + 1) (pB_no (tau_ne (big_row ha).1 ho (fun h => by cases h)) (ne1S noa))).2.1 i) ?_
        refine lv_iload hx hb dX0_takeSize_30 (lv_at hl 1 rfl) ?_
        refine r_isub hx hb dX0_takeSize_32 ?_
        refine lv_iload hx hb dX0_takeSize_33 (lv_at hl 0 rfl) ?_
        refine lv_iload hx hb dX0_takeSize_35 (lv_at hl 2 rfl) ?_
        refine r_icmp_ge (tgt := 50) hx hb ⟨(by omega), (by omega)⟩ ⟨(by omega), (by omega)⟩ dX0_takeSize_37 (by decide) (fun c_12 => ?_) (fun c_12 => ?_)
        · refine lv_iconst (v := iv 0) hx hb dX0_takeSize_50 (by decide) ?_
          refine r_isub hx hb dX0_takeSize_51 ?_
          refine lv_istore (lv' := [(7, .int (iv (((S.2.1 (a + 1) i) - bo) - 0))), (6, .int (iv i)), (5, .int (iv bo)), (4, .int (iv (S.1 o 1))), (3, .int (iv (S.1 a 1))), (0, .ref (G.2.2.1 + o)), (1, .ref (G.2.2.1 + a)), (2, .ref (G.2.2.1 + o))]) hx hb dX0_takeSize_52 hl (by decide) rfl (fun ls hl => ?_)
          refine lv_iload hx hb dX0_takeSize_54 (lv_at hl 0 rfl) ?_
          refine r_if_ge (tgt := 63) hx hb ⟨(by omega), (by omega)⟩ dX0_takeSize_56 (by decide) (fun c_13 => ?_) (fun c_13 => ?_)
          · refine lv_iconst (v := iv 0) hx hb dX0_takeSize_63 (by decide) ?_
            refine lv_istore (lv' := [(5, .int (iv 0)), (7, .int (iv (((S.2.1 (a + 1) i) - bo) - 0))), (6, .int (iv i)), (4, .int (iv (S.1 o 1))), (3, .int (iv (S.1 a 1))), (0, .ref (G.2.2.1 + o)), (1, .ref (G.2.2.1 + a)), (2, .ref (G.2.2.1 + o))]) hx hb dX0_takeSize_64 hl (by decide) rfl (fun ls hl => ?_)
            refine lv_aload_n hx hb dX0_takeSize_66 rfl (lv_at hl 5 rfl) ?_
            refine g_X0_9 Cx hW (k := o) (big_l ho) ho (v := .ref (G.2.2.1 + (o + 1))) (hI17.rq.1 o ho) dX0_takeSize_67 ?_
            refine lv_iload hx hb dX0_takeSize_70 (lv_at hl 2 rfl) ?_
            refine lv_iload hx hb dX0_takeSize_72 (lv_at hl 1 rfl) ?_
            refine lv_iload hx hb dX0_takeSize_74 (lv_at hl 0 rfl) ?_
            refine lv_ldc hx hb hown (hts _ w_1293) dX0_takeSize_76 ?_
            refine r_imul hx hb dX0_takeSize_78 ?_
            refine r_i (b := 0) (by omega) ?_
            refine r_iadd hx hb dX0_takeSize_79 ?_
            refine rIast Cx hW hL (k := o + 1) (big_l1 ho) (big_row ho).1 (by decide) (by omega) (by omega) dX0_takeSize_80 (fun H locs hW hL => ?_)
            have F_14 : Fr S (uA S17 (o + 1) i ((((S.2.1 (a + 1) i) - bo) - 0) + 0)) (pB o) := hFm17.A pB_1
            have F_15 : Fr S (uA S17 (o + 1) i ((((S.2.1 (a + 1) i) - bo) - 0) + 0)) (pB o) := hL17_.A pB_1
            have i_16 : cX G (uA S17 (o + 1) i ((((S.2.1 (a + 1) i) - bo) - 0) + 0)) o 0 0 := hI17.limb (Or.inl (exq_s ho)) ho ⟨(by omega), (by omega)⟩
            refine lv_iinc (v := iv (i + 1)) (lv' := [(6, .int (iv (i + 1))), (5, .int (iv 0)), (7, .int (iv (((S.2.1 (a + 1) i) - bo) - 0))), (4, .int (iv (S.1 o 1))), (3, .int (iv (S.1 a 1))), (0, .ref (G.2.2.1 + o)), (1, .ref (G.2.2.1 + a)), (2, .ref (G.2.2.1 + o))]) hx hb dX0_takeSize_81 hl (k := 2) rfl ((Int32.ofInt_add _ _).symm) (by decide) rfl (fun ls hl => ?_)
            refine lv_goto (tgt := 17) hx hb dX0_takeSize_84 (by decide) ?_
            have q_17 : 0 ≤ S17.1 o 1 ∧ S17.1 o 1 ≤ 32 := hI17.fi o 1 0 (big_lt ho) ho
            have lk_18 : (uA S17 (o + 1) i ((((S.2.1 (a + 1) i) - bo) - 0) + 0)).1 o 1 = S17.1 o 1 := uA_f
            have q_19 : (-1) ≤ S17.1 o 2 ∧ S17.1 o 2 ≤ 1 := hI17.fi o 2 0 (big_lt ho) ho
            have lk_20 : (uA S17 (o + 1) i ((((S.2.1 (a + 1) i) - bo) - 0) + 0)).1 o 2 = S17.1 o 2 := uA_f
            exact ih_17 (uA S17 (o + 1) i ((((S.2.1 (a + 1) i) - bo) - 0) + 0)) (i + 1) 0 _ _ _ (by omega) i_16 F_14 F_15 (by omega) (by omega) hc (fun j j0 => by rw [uA_ne (by omega)]; exact hun j (by omega)) hW hL (lv_sub hl [0, 1, 3, 4, 5, 6, 7] rfl)
          · refine lv_iconst (v := iv 1) hx hb dX0_takeSize_59 (by decide) ?_
            refine lv_goto (tgt := 64) hx hb dX0_takeSize_60 (by decide) ?_
            refine lv_istore (lv' := [(5, .int (iv 1)), (7, .int (iv (((S.2.1 (a + 1) i) - bo) - 0))), (6, .int (iv i)), (4, .int (iv (S.1 o 1))), (3, .int (iv (S.1 a 1))), (0, .ref (G.2.2.1 + o)), (1, .ref (G.2.2.1 + a)), (2, .ref (G.2.2.1 + o))]) hx hb dX0_takeSize_64 hl (by decide) rfl (fun ls hl => ?_)
            refine lv_aload_n hx hb dX0_takeSize_66 rfl (lv_at hl 5 rfl) ?_
            refine g_X0_9 Cx hW (k := o) (big_l ho) ho (v := .ref (G.2.2.1 + (o + 1))) (hI17.rq.1 o ho) dX0_takeSize_67 ?_
            refine lv_iload hx hb dX0_takeSize_70 (lv_at hl 2 rfl) ?_
            refine lv_iload hx hb dX0_takeSize_72 (lv_at hl 1 rfl) ?_
            refine lv_iload hx hb dX0_takeSize_74 (lv_at hl 0 rfl) ?_
            refine lv_ldc hx hb hown (hts _ w_1293) dX0_takeSize_76 ?_
            refine r_imul hx hb dX0_takeSize_78 ?_
            refine r_i (b := 1000000000) (by omega) ?_
            refine r_iadd hx hb dX0_takeSize_79 ?_
            refine rIast Cx hW hL (k := o + 1) (big_l1 ho) (big_row ho).1 (by decide) (by omega) (by omega) dX0_takeSize_80 (fun H locs hW hL => ?_)
            have F_21 : Fr S (uA S17 (o + 1) i ((((S.2.1 (a + 1) i) - bo) - 0) + 1000000000)) (pB o) := hFm17.A pB_1
            have F_22 : Fr S (uA S17 (o + 1) i ((((S.2.1 (a + 1) i) - bo) - 0) + 1000000000)) (pB o) := hL17_.A pB_1
            have i_23 : cX G (uA S17 (o + 1) i ((((S.2.1 (a + 1) i) - bo) - 0) + 1000000000)) o 0 0 := hI17.limb (Or.inl (exq_s ho)) ho ⟨(by omega), (by omega)⟩
            refine lv_iinc (v := iv (i + 1)) (lv' := [(6, .int (iv (i + 1))), (5, .int (iv 1)), (7, .int (iv (((S.2.1 (a + 1) i) - bo) - 0))), (4, .int (iv (S.1 o 1))), (3, .int (iv (S.1 a 1))), (0, .ref (G.2.2.1 + o)), (1, .ref (G.2.2.1 + a)), (2, .ref (G.2.2.1 + o))]) hx hb dX0_takeSize_81 hl (k := 2) rfl ((Int32.ofInt_add _ _).symm) (by decide) rfl (fun ls hl => ?_)
            refine lv_goto (tgt := 17) hx hb dX0_takeSize_84 (by decide) ?_
            have q_24 : 0 ≤ S17.1 o 1 ∧ S17.1 o 1 ≤ 32 := hI17.fi o 1 0 (big_lt ho) ho
            have lk_25 : (uA S17 (o + 1) i ((((S.2.1 (a + 1) i) - bo) - 0) + 1000000000)).1 o 1 = S17.1 o 1 := uA_f
            have q_26 : (-1) ≤ S17.1 o 2 ∧ S17.1 o 2 ≤ 1 := hI17.fi o 2 0 (big_lt ho) ho
            have lk_27 : (uA S17 (o + 1) i ((((S.2.1 (a + 1) i) - bo) - 0) + 1000000000)).1 o 2 = S17.1 o 2 := uA_f
            exact ih_17 (uA S17 (o + 1) i ((((S.2.1 (a + 1) i) - bo) - 0) + 1000000000)) (i + 1) 1 _ _ _ (by omega) i_23 F_21 F_22 (by omega) (by omega) hc (fun j j0 => by rw [uA_ne (by omega)]; exact hun j (by omega)) hW hL (lv_sub hl [0, 1, 3, 4, 5, 6, 7] rfl)
        · refine lv_aload_n hx hb dX0_takeSize_40 rfl (lv_at hl 6 rfl) ?_
          refine g_X0_9 Cx hW (k := o) (big_l ho) ho (v := .ref (G.2.2.1 + (o + 1))) (hI17.rq.1 o ho) dX0_takeSize_41 ?_
          refine lv_iload hx hb dX0_takeSize_44 (lv_at hl 0 rfl) ?_
          refine rIald Cx hW (k := o + 1) (big_l1 ho) (big_row ho).1 (by decide) (by omega) (by omega) dX0_takeSize_46 ?_
          have q_28 := limbR hI17 ho i
          refine r_i (b := S17.2.1 (o + 1) i) rfl ?_
          refine lv_goto (tgt := 51) hx hb dX0_takeSize_47 (by decide) ?_
          refine r_isub hx hb dX0_takeSize_51 ?_
          refine lv_istore (lv' := [(7, .int (iv (((S.2.1 (a + 1) i) - bo) - (S17.2.1 (o + 1) i)))), (6, .int (iv i)), (5, .int (iv bo)), (4, .int (iv (S.1 o 1))), (3, .int (iv (S.1 a 1))), (0, .ref (G.2.2.1 + o)), (1, .ref (G.2.2.1 + a)), (2, .ref (G.2.2.1 + o))]) hx hb dX0_takeSize_52 hl (by decide) rfl (fun ls hl => ?_)
          refine lv_iload hx hb dX0_takeSize_54 (lv_at hl 0 rfl) ?_
          refine r_if_ge (tgt := 63) hx hb ⟨(by omega), (by omega)⟩ dX0_takeSize_56 (by decide) (fun c_29 => ?_) (fun c_29 => ?_)
          · refine lv_iconst (v := iv 0) hx hb dX0_takeSize_63 (by decide) ?_
            refine lv_istore (lv' := [(5, .int (iv 0)), (7, .int (iv (((S.2.1 (a + 1) i) - bo) - (S17.2.1 (o + 1) i)))), (6, .int (iv i)), (4, .int (iv (S.1 o 1))), (3, .int (iv (S.1 a 1))), (0, .ref (G.2.2.1 + o)), (1, .ref (G.2.2.1 + a)), (2, .ref (G.2.2.1 + o))]) hx hb dX0_takeSize_64 hl (by decide) rfl (fun ls hl => ?_)
            refine lv_aload_n hx hb dX0_takeSize_66 rfl (lv_at hl 5 rfl) ?_
            refine g_X0_9 Cx hW (k := o) (big_l ho) ho (v := .ref (G.2.2.1 + (o + 1))) (hI17.rq.1 o ho) dX0_takeSize_67 ?_
            refine lv_iload hx hb dX0_takeSize_70 (lv_at hl 2 rfl) ?_
            refine lv_iload hx hb dX0_takeSize_72 (lv_at hl 1 rfl) ?_
            refine lv_iload hx hb dX0_takeSize_74 (lv_at hl 0 rfl) ?_
            refine lv_ldc hx hb hown (hts _ w_1293) dX0_takeSize_76 ?_
            refine r_imul hx hb dX0_takeSize_78 ?_
            refine r_i (b := 0) (by omega) ?_
            refine r_iadd hx hb dX0_takeSize_79 ?_
            refine rIast Cx hW hL (k := o + 1) (big_l1 ho) (big_row ho).1 (by decide) (by omega) (by omega) dX0_takeSize_80 (fun H locs hW hL => ?_)
            have F_30 : Fr S (uA S17 (o + 1) i ((((S.2.1 (a + 1) i) - bo) - (S17.2.1 (o + 1) i)) + 0)) (pB o) := hFm17.A pB_1
            have F_31 : Fr S (uA S17 (o + 1) i ((((S.2.1 (a + 1) i) - bo) - (S17.2.1 (o + 1) i)) + 0)) (pB o) := hL17_.A pB_1
            have i_32 : cX G (uA S17 (o + 1) i ((((S.2.1 (a + 1) i) - bo) - (S17.2.1 (o + 1) i)) + 0)) o 0 0 := hI17.limb (Or.inl (exq_s ho)) ho ⟨(by omega), (by omega)⟩
            refine lv_iinc (v := iv (i + 1)) (lv' := [(6, .int (iv (i + 1))), (5, .int (iv 0)), (7, .int (iv (((S.2.1 (a + 1) i) - bo) - (S17.2.1 (o + 1) i)))), (4, .int (iv (S.1 o 1))), (3, .int (iv (S.1 a 1))), (0, .ref (G.2.2.1 + o)), (1, .ref (G.2.2.1 + a)), (2, .ref (G.2.2.1 + o))]) hx hb dX0_takeSize_81 hl (k := 2) rfl ((Int32.ofInt_add _ _).symm) (by decide) rfl (fun ls hl => ?_)
            refine lv_goto (tgt := 17) hx hb dX0_takeSize_84 (by decide) ?_
            have q_33 : 0 ≤ S17.1 o 1 ∧ S17.1 o 1 ≤ 32 := hI17.fi o 1 0 (big_lt ho) ho
            have lk_34 : (uA S17 (o + 1) i ((((S.2.1 (a + 1) i) - bo) - (S17.2.1 (o + 1) i)) + 0)).1 o 1 = S17.1 o 1 := uA_f
            have q_35 : (-1) ≤ S17.1 o 2 ∧ S17.1 o 2 ≤ 1 := hI17.fi o 2 0 (big_lt ho) ho
            have lk_36 : (uA S17 (o + 1) i ((((S.2.1 (a + 1) i) - bo) - (S17.2.1 (o + 1) i)) + 0)).1 o 2 = S17.1 o 2 := uA_f
            exact ih_17 (uA S17 (o + 1) i ((((S.2.1 (a + 1) i) - bo) - (S17.2.1 (o + 1) i)) + 0)) (i + 1) 0 _ _ _ (by omega) i_32 F_30 F_31 (by omega) (by omega) hc (fun j j0 => by rw [uA_ne (by omega)]; exact hun j (by omega)) hW hL (lv_sub hl [0, 1, 3, 4, 5, 6, 7] rfl)
          · refine lv_iconst (v := iv 1) hx hb dX0_takeSize_59 (by decide) ?_
            refine lv_goto (tgt := 64) hx hb dX0_takeSize_60 (by decide) ?_
            refine lv_istore (lv' := [(5, .int (iv 1)), (7, .int (iv (((S.2.1 (a + 1) i) - bo) - (S17.2.1 (o + 1) i)))), (6, .int (iv i)), (4, .int (iv (S.1 o 1))), (3, .int (iv (S.1 a 1))), (0, .ref (G.2.2.1 + o)), (1, .ref (G.2.2.1 + a)), (2, .ref (G.2.2.1 + o))]) hx hb dX0_takeSize_64 hl (by decide) rfl (fun ls hl => ?_)
            refine lv_aload_n hx hb dX0_takeSize_66 rfl (lv_at hl 5 rfl) ?_
            refine g_X0_9 Cx hW (k := o) (big_l ho) ho (v := .ref (G.2.2.1 + (o + 1))) (hI17.rq.1 o ho) dX0_takeSize_67 ?_
            refine lv_iload hx hb dX0_takeSize_70 (lv_at hl 2 rfl) ?_
            refine lv_iload hx hb dX0_takeSize_72 (lv_at hl 1 rfl) ?_
            refine lv_iload hx hb dX0_takeSize_74 (lv_at hl 0 rfl) ?_
            refine lv_ldc hx hb hown (hts _ w_1293) dX0_takeSize_76 ?_
            refine r_imul hx hb dX0_takeSize_78 ?_
            refine r_i (b := 1000000000) (by omega) ?_
            refine r_iadd hx hb dX0_takeSize_79 ?_
            refine rIast Cx hW hL (k := o + 1) (big_l1 ho) (big_row ho).1 (by decide) (by omega) (by omega) dX0_takeSize_80 (fun H locs hW hL => ?_)
            have F_37 : Fr S (uA S17 (o + 1) i ((((S.2.1 (a + 1) i) - bo) - (S17.2.1 (o + 1) i)) + 1000000000)) (pB o) := hFm17.A pB_1
            have F_38 : Fr S (uA S17 (o + 1) i ((((S.2.1 (a + 1) i) - bo) - (S17.2.1 (o + 1) i)) + 1000000000)) (pB o) := hL17_.A pB_1
            have i_39 : cX G (uA S17 (o + 1) i ((((S.2.1 (a + 1) i) - bo) - (S17.2.1 (o + 1) i)) + 1000000000)) o 0 0 := hI17.limb (Or.inl (exq_s ho)) ho ⟨(by omega), (by omega)⟩
            refine lv_iinc (v := iv (i + 1)) (lv' := [(6, .int (iv (i + 1))), (5, .int (iv 1)), (7, .int (iv (((S.2.1 (a + 1) i) - bo) - (S17.2.1 (o + 1) i)))), (4, .int (iv (S.1 o 1))), (3, .int (iv (S.1 a 1))), (0, .ref (G.2.2.1 + o)), (1, .ref (G.2.2.1 + a)), (2, .ref (G.2.2.1 + o))]) hx hb dX0_takeSize_81 hl (k := 2) rfl ((Int32.ofInt_add _ _).symm) (by decide) rfl (fun ls hl => ?_)
            refine lv_goto (tgt := 17) hx hb dX0_takeSize_84 (by decide) ?_
            have q_40 : 0 ≤ S17.1 o 1 ∧ S17.1 o 1 ≤ 32 := hI17.fi o 1 0 (big_lt ho) ho
            have lk_41 : (uA S17 (o + 1) i ((((S.2.1 (a + 1) i) - bo) - (S17.2.1 (o + 1) i)) + 1000000000)).1 o 1 = S17.1 o 1 := uA_f
            have q_42 : (-1) ≤ S17.1 o 2 ∧ S17.1 o 2 ≤ 1 := hI17.fi o 2 0 (big_lt ho) ho
            have lk_43 : (uA S17 (o + 1) i ((((S.2.1 (a + 1) i) - bo) - (S17.2.1 (o + 1) i)) + 1000000000)).1 o 2 = S17.1 o 2 := uA_f
            exact ih_17 (uA S17 (o + 1) i ((((S.2.1 (a + 1) i) - bo) - (S17.2.1 (o + 1) i)) + 1000000000)) (i + 1) 1 _ _ _ (by omega) i_39 F_37 F_38 (by omega) (by omega) hc (fun j j0 => by rw [uA_ne (by omega)]; exact hun j (by omega)) hW hL (lv_sub hl [0, 1, 3, 4, 5, 6, 7] rfl)
  have q_44 : (-1) ≤ S.1 o 2 ∧ S.1 o 2 ≤ 1 := j_1.fi o 2 0 (big_lt ho) ho
  exact loop_17 (_ + 1) S 0 0 _ _ _ (Nat.lt_succ_self _) j_1 (Fr.rf : Fr S S (pB o)) Fr.rf (by omega) (by omega) ⟨rfl, rfl⟩ (fun j _ => rfl) hW hL (lv_sub hl [0, 1, 2, 3, 4, 5, 6] rfl)

set_option maxRecDepth 100000 in
set_option maxHeartbeats 4000000 in
theorem t_X0_add_p (l : Launch) (G : sG) (S : sS) {o a : Nat} {n t : Int} (hI : cX G S 0 0 0) (ho : tau o = .inl 0) (ha : tau a = .inl 0) (noa : Hd (o ≠ a)) (hnt : (0 ≤ n ∧ n ≤ 30) ∧ (0 ≤ t ∧ t ≤ 999999990) ∧ S.1 a 1 ≤ n ∧ S.1 o 1 ≤ n + 1) (hnt2 : Hd (S.1 o 1 = n + 1 → S.2.1 (o + 1) n ≤ t)) : Met l yX0_add (.code yX0_add cX0_add 5 none :: tb) (rmk 3 0 0) (sPc G 294 S [.ref (G.2.2.1 + o), .ref (G.2.2.1 + a), .int (iv 1)]) (sQv G 294 (fun u => cX G u 0 0 0 ∧ Fr S u (pB o) ∧ (u.1 o 1 ≤ n + 1 ∧ (u.1 o 1 = n + 1 → u.2.1 (o + 1) n ≤ t + 1) ∧ Hd ((S.1 o 2 ≤ 0 ∧ 0 ≤ S.1 a 2 ∨ 0 ≤ S.1 o 2 ∧ S.1 a 2 ≤ 0) → u.1 o 1 ≤ S.1 o 1 ∨ u.1 o 1 ≤ S.1 a 1) ∧ Hd (S.1 o 2 < 0 → 0 < S.1 a 2 → VR S o < VR S a → 0 ≤ u.1 o 2)))) 0 0 (sF G) := by
  refine sEnter (by decide) (Nat.le_of_ble_eq_true rfl) ?_
  intro p e s m args below meth c Cx hr hlk hnm hW ls hl
  have Cx : sC G p m c cX0_add 5 s args RX0 := Cx
  obtain ⟨hx, hb, hml, hown, hts⟩ := id Cx.1
  have hL : sL G [] := sL_nil
  have hl : lv_has ls 5 [(0, .ref (G.2.2.1 + o)), (1, .ref (G.2.2.1 + a)), (2, .int (iv 1))] := hl
  have hW0 := hW
  refine lv_iload_n hx hb dX0_add_0 rfl (lv_at hl 2 rfl) ?_
  refine lv_aload_n hx hb dX0_add_1 rfl (lv_at hl 1 rfl) ?_
  have q_1 : (-1) ≤ S.1 a 2 ∧ S.1 a 2 ≤ 1 := hI.fi a 2 0 (big_lt ha) ha
  refine g_X0_34 Cx hW (k := a) (big_l ha) ha (v := S.1 a 2) rfl dX0_add_2 ?_
  refine r_imul hx hb dX0_add_5 ?_
  refine lv_istore_n (lv' := [(3, .int (iv (1 * (S.1 a 2)))), (0, .ref (G.2.2.1 + o)), (1, .ref (G.2.2.1 + a)), (2, .int (iv 1))]) hx hb dX0_add_6 rfl hl (by decide) rfl (fun ls hl => ?_)
  refine lv_iload_n hx hb dX0_add_7 rfl (lv_at hl 0 rfl) ?_
  refine r_if_ne (tgt := 12) hx hb ⟨(by omega), (by omega)⟩ dX0_add_8 (by decide) (fun c_2 => ?_) (fun c_2 => ?_)
  · refine lv_aload_n hx hb dX0_add_12 rfl (lv_at hl 1 rfl) ?_
    have q_3 : (-1) ≤ S.1 o 2 ∧ S.1 o 2 ≤ 1 := hI.fi o 2 0 (big_lt ho) ho
    refine g_X0_34 Cx hW (k := o) (big_l ho) ho (v := S.1 o 2) rfl dX0_add_13 ?_
    refine r_if_ne (tgt := 32) hx hb ⟨(by omega), (by omega)⟩ dX0_add_16 (by decide) (fun c_4 => ?_) (fun c_4 => ?_)
    · refine lv_aload_n hx hb dX0_add_32 rfl (lv_at hl 1 rfl) ?_
      refine g_X0_34 Cx hW (k := o) (big_l ho) ho (v := S.1 o 2) rfl dX0_add_33 ?_
      refine lv_iload_n hx hb dX0_add_36 rfl (lv_at hl 0 rfl) ?_
      refine r_icmp_ne (tgt := 48) hx hb ⟨(by omega), (by omega)⟩ ⟨(by omega), (by omega)⟩ dX0_add_37 (by decide) (fun c_5 => ?_) (fun c_5 => ?_)
      · refine lv_aload_n hx hb dX0_add_48 rfl (lv_at hl 1 rfl) ?_
        refine lv_aload_n hx hb dX0_add_49 rfl (lv_at hl 2 rfl) ?_
        have q_6 : 0 ≤ S.1 a 1 ∧ S.1 a 1 ≤ 32 := hI.fi a 1 0 (big_lt ha) ha
        have q_7 : 0 ≤ S.1 o 1 ∧ S.1 o 1 ≤ 32 := hI.fi o 1 0 (big_lt ho) ho
        refine sBi (sV (As := [.ref (G.2.2.1 + a)]) (rest := []) (k := o) Cx (s_X0_compareSize l G S (o := o) (a := a) hI ho ha) (c_X0_79 Cx rfl rfl (rmk_ok (by omega) (by decide))) hW (big_l ho) ho rfl rfl hl.1 rfl (Nat.le_of_ble_eq_true rfl) dX0_add_50 ⟨Nat.le_of_ble_eq_true rfl, Nat.le_of_ble_eq_true rfl⟩) hL (fun r_10 u_8 H locs k_9 hW hL => ?_)
        obtain ⟨eu_8, xu_8⟩ := k_9
        rw [eu_8] at hW
        have hcs := xu_8.2.2.2.2.1
        refine lv_istore (lv' := [(4, .int (iv r_10)), (3, .int (iv (1 * (S.1 a 2)))), (0, .ref (G.2.2.1 + o)), (1, .ref (G.2.2.1 + a)), (2, .int (iv 1))]) hx hb dX0_add_53 hl (by decide) rfl (fun ls hl => ?_)
        refine lv_iload hx hb dX0_add_55 (lv_at hl 0 rfl) ?_
        refine r_if_lt (tgt := 69) hx hb ⟨(by omega), (by omega)⟩ dX0_add_57 (by decide) (fun c_11 => ?_) (fun c_11 => ?_)
        · refine lv_aload_n hx hb dX0_add_69 rfl (lv_at hl 2 rfl) ?_
          refine lv_aload_n hx hb dX0_add_70 rfl (lv_at hl 3 rfl) ?_
          refine lv_aload_n hx hb dX0_add_71 rfl (lv_at hl 2 rfl) ?_
          refine sBv (sV (As := [.ref (G.2.2.1 + a), .ref (G.2.2.1 + o)]) (rest := []) (k := o) Cx (t_X0_takeSize_2 l G S (o := o) (a := a) hI ho ha (neD noa)) (c_X0_83 Cx rfl rfl (rmk_ok (by omega) (by decide))) hW (big_l ho) ho rfl rfl hl.1 rfl (Nat.le_of_ble_eq_true rfl) dX0_add_72 ⟨Nat.le_of_ble_eq_true rfl, Nat.le_of_ble_eq_true rfl⟩) hL (fun u_12 H locs k_13 hW hL => ?_)
          obtain ⟨iu_12, fu_12, xu_12⟩ := k_13
          have F_14 := (Fr.rf : Fr S S (pB o)).trans fu_12
          refine lv_aload_n hx hb dX0_add_75 rfl (lv_at hl 2 rfl) ?_
          refine lv_iload_n hx hb dX0_add_76 rfl (lv_at hl 1 rfl) ?_
          refine p_X0_34 Cx hW hL (k := o) (big_l ho) ho dX0_add_77 (fun H locs hW hL => ?_)
          have F_15 : Fr S (uF u_12 o 2 (1 * (S.1 a 2))) (pB o) := F_14.F pB_0
          have i_16 : cX G (uF u_12 o 2 (1 * (S.1 a 2))) o 0 0 := iu_12.F ho rfl (show (-1) ≤ 1 * (S.1 a 2) ∧ 1 * (S.1 a 2) ≤ 1 from ⟨by omega, by omega⟩)
          refine lv_aload_n hx hb dX0_add_80 rfl (lv_at hl 2 rfl) ?_
          have q_17 : 0 ≤ u_12.1 o 1 ∧ u_12.1 o 1 ≤ 32 := iu_12.fi o 1 0 (big_lt ho) ho
          have lk_18 : (uF u_12 o 2 (1 * (S.1 a 2))).1 o 1 = u_12.1 o 1 := uF_ne (fun h => absurd h.2 (by decide))
          have lk_19 : (uF u_12 o 2 (1 * (S.1 a 2))).1 o 2 = 1 * (S.1 a 2) := uF_on
          refine sBv (sV (As := []) (rest := []) (k := o) Cx (s_X0_trim l G (uF u_12 o 2 (1 * (S.1 a 2))) (o := o) i_16 ho) (c_X0_59 Cx rfl rfl (rmk_ok (by omega) (by decide))) hW (big_l ho) ho rfl rfl hl.1 rfl (Nat.le_of_ble_eq_true rfl) dX0_add_81 ⟨Nat.le_of_ble_eq_true rfl, Nat.le_of_ble_eq_true rfl⟩) hL (fun u_20 H locs k_21 hW hL => ?_)
          obtain ⟨iu_20, fu_20, xu_20⟩ := k_21
          have F_22 := F_15.trans fu_20
          have q_23 : 0 ≤ u_20.1 o 1 ∧ u_20.1 o 1 ≤ 32 := iu_20.fi o 1 0 (big_lt ho) ho
          have q_24 : (-1) ≤ u_20.1 o 2 ∧ u_20.1 o 2 ≤ 1 := iu_20.fi o 2 0 (big_lt ho) ho
          exact sVret Cx hr hlk hW hL ⟨iu_20, F_22, ⟨by have := xu_20.1; rw [uF_i (by decide)] at this; omega, fun q => by have := xu_20.1; rw [uF_i (by decide)] at this; omega, fun _ => Or.inr (by have := xu_20.1; rw [uF_i (by decide)] at this; omega), fun q1 q2 _ => by have e := xu_20.2.1; rw [uF_on] at e; omega⟩⟩ dX0_add_84
        · refine lv_aload_n hx hb dX0_add_60 rfl (lv_at hl 2 rfl) ?_
          refine lv_aload_n hx hb dX0_add_61 rfl (lv_at hl 2 rfl) ?_
          refine lv_aload_n hx hb dX0_add_62 rfl (lv_at hl 3 rfl) ?_
          refine sBv (sV (As := [.ref (G.2.2.1 + o), .ref (G.2.2.1 + a)]) (rest := []) (k := o) Cx (t_X0_takeSize_1 l G S (o := o) (a := a) hI ho ha (neD noa)) (c_X0_83 Cx rfl rfl (rmk_ok (by omega) (by decide))) hW (big_l ho) ho rfl rfl hl.1 rfl (Nat.le_of_ble_eq_true rfl) dX0_add_63 ⟨Nat.le_of_ble_eq_true rfl, Nat.le_of_ble_eq_true rfl⟩) hL (fun u_25 H locs k_26 hW hL => ?_)
          obtain ⟨iu_25, fu_25, xu_25⟩ := k_26
          have F_27 := (Fr.rf : Fr S S (pB o)).trans fu_25
          refine lv_goto (tgt := 80) hx hb dX0_add_66 (by decide) ?_
          refine lv_aload_n hx hb dX0_add_80 rfl (lv_at hl 2 rfl) ?_
          have q_28 : 0 ≤ u_25.1 o 1 ∧ u_25.1 o 1 ≤ 32 := iu_25.fi o 1 0 (big_lt ho) ho
          have q_29 : (-1) ≤ u_25.1 o 2 ∧ u_25.1 o 2 ≤ 1 := iu_25.fi o 2 0 (big_lt ho) ho
          refine sBv (sV (As := []) (rest := []) (k := o) Cx (s_X0_trim l G u_25 (o := o) iu_25 ho) (c_X0_59 Cx rfl rfl (rmk_ok (by omega) (by decide))) hW (big_l ho) ho rfl rfl hl.1 rfl (Nat.le_of_ble_eq_true rfl) dX0_add_81 ⟨Nat.le_of_ble_eq_true rfl, Nat.le_of_ble_eq_true rfl⟩) hL (fun u_30 H locs k_31 hW hL => ?_)
          obtain ⟨iu_30, fu_30, xu_30⟩ := k_31
          have F_32 := F_27.trans fu_30
          have q_33 : 0 ≤ u_30.1 o 1 ∧ u_30.1 o 1 ≤ 32 := iu_30.fi o 1 0 (big_lt ho) ho
          have q_34 : (-1) ≤ u_30.1 o 2 ∧ u_30.1 o 2 ≤ 1 := iu_30.fi o 2 0 (big_lt ho) ho
          exact sVret Cx hr hlk hW hL ⟨iu_30, F_32, ⟨by omega, fun q => by have e1 : u_30.1 o 1 = u_25.1 o 1 := (by omega); have e2 := xu_30.2.2.1; show u_30.2.1 (o + 1) n ≤ t + 1; rw [e2]; have e3 := xu_25.2.2 (by omega); have e4 := hnt2 (by omega); rw [show S.1 o 1 - 1 = n by omega] at e3; omega, fun _ => Or.inl (by omega), fun _ _ q => absurd (hcs (by omega)) (Int.not_le.mpr q)⟩⟩ dX0_add_84
      · refine lv_aload_n hx hb dX0_add_40 rfl (lv_at hl 1 rfl) ?_
        refine lv_aload_n hx hb dX0_add_41 rfl (lv_at hl 2 rfl) ?_
        have q_35 : 0 ≤ S.1 a 1 ∧ S.1 a 1 ≤ 32 := hI.fi a 1 0 (big_lt ha) ha
        have q_36 : 0 ≤ S.1 o 1 ∧ S.1 o 1 ≤ 32 := hI.fi o 1 0 (big_lt ho) ho
        refine sBv (sV (As := [.ref (G.2.2.1 + a)]) (rest := []) (k := o) Cx (s_X0_addSize l G S (o := o) (a := a) (n := n) (t := t) hI ho ha (neD noa) (by omega) hnt2) (c_X0_76 Cx rfl rfl (rmk_ok (by omega) (by decide))) hW (big_l ho) ho rfl rfl hl.1 rfl (Nat.le_of_ble_eq_true rfl) dX0_add_42 ⟨Nat.le_of_ble_eq_true rfl, Nat.le_of_ble_eq_true rfl⟩) hL (fun u_37 H locs k_38 hW hL => ?_)
        obtain ⟨iu_37, fu_37, xu_37⟩ := k_38
        have F_39 := (Fr.rf : Fr S S (pB o)).trans fu_37
        refine lv_goto (tgt := 84) hx hb dX0_add_45 (by decide) ?_
        have q_40 : 0 ≤ u_37.1 o 1 ∧ u_37.1 o 1 ≤ 32 := iu_37.fi o 1 0 (big_lt ho) ho
        have q_41 : (-1) ≤ u_37.1 o 2 ∧ u_37.1 o 2 ≤ 1 := iu_37.fi o 2 0 (big_lt ho) ho
        exact sVret Cx hr hlk hW hL ⟨iu_37, F_39, ⟨xu_37.1, xu_37.2.1, fun q => absurd q (by omega), fun q1 q2 _ => absurd q1 (by omega)⟩⟩ dX0_add_84
    · refine lv_aload_n hx hb dX0_add_19 rfl (lv_at hl 1 rfl) ?_
      refine lv_aload_n hx hb dX0_add_20 rfl (lv_at hl 2 rfl) ?_
      have q_42 : 0 ≤ S.1 a 1 ∧ S.1 a 1 ≤ 32 := hI.fi a 1 0 (big_lt ha) ha
      refine sBv (sV (As := [.ref (G.2.2.1 + a)]) (rest := []) (k := o) Cx (s_X0_copy l G S (o := o) (a := a) hI ho ha) (c_X0_72 Cx rfl rfl (rmk_ok (by omega) (by decide))) hW (big_l ho) ho rfl rfl hl.1 rfl (Nat.le_of_ble_eq_true rfl) dX0_add_21 ⟨Nat.le_of_ble_eq_true rfl, Nat.le_of_ble_eq_true rfl⟩) hL (fun u_43 H locs k_44 hW hL => ?_)
      obtain ⟨iu_43, fu_43, xu_43⟩ := k_44
      have F_45 := (Fr.rf : Fr S S (pB o)).trans fu_43
      refine lv_aload_n hx hb dX0_add_24 rfl (lv_at hl 1 rfl) ?_
      refine lv_iload_n hx hb dX0_add_25 rfl (lv_at hl 0 rfl) ?_
      refine p_X0_34 Cx hW hL (k := o) (big_l ho) ho dX0_add_26 (fun H locs hW hL => ?_)
      have F_46 : Fr S (uF u_43 o 2 (1 * (S.1 a 2))) (pB o) := F_45.F pB_0
      have i_47 : cX G (uF u_43 o 2 (1 * (S.1 a 2))) 0 0 0 := iu_43.F ho rfl (show (-1) ≤ 1 * (S.1 a 2) ∧ 1 * (S.1 a 2) ≤ 1 from ⟨by omega, by omega⟩)
      refine lv_goto (tgt := 84) hx hb dX0_add_29 (by decide) ?_
      have q_48 : 0 ≤ u_43.1 o 1 ∧ u_43.1 o 1 ≤ 32 := iu_43.fi o 1 0 (big_lt ho) ho
      have lk_49 : (uF u_43 o 2 (1 * (S.1 a 2))).1 o 1 = u_43.1 o 1 := uF_ne (fun h => absurd h.2 (by decide))
      have lk_50 : (uF u_43 o 2 (1 * (S.1 a 2))).1 o 2 = 1 * (S.1 a 2) := uF_on
      exact sVret Cx hr hlk hW hL ⟨i_47, F_46, ⟨by rw [uF_i (by decide)]; omega, fun q => by rw [uF_i (by decide)] at q; omega, fun _ => Or.inr (by rw [uF_i (by decide)]; omega), fun q _ _ => absurd q (by omega)⟩⟩ dX0_add_84
  · have q_51 : 0 ≤ S.1 o 1 ∧ S.1 o 1 ≤ 32 := hI.fi o 1 0 (big_lt ho) ho
    have q_52 : (-1) ≤ S.1 o 2 ∧ S.1 o 2 ≤ 1 := hI.fi o 2 0 (big_lt ho) ho
    exact sVret Cx hr hlk hW hL ⟨hI, (Fr.rf : Fr S S (pB o)), ⟨by omega, fun q => by have := hnt2 q; omega, fun _ => Or.inl (Int.le_refl _), fun _ q _ => absurd q (by omega)⟩⟩ dX0_add_11

set_option maxRecDepth 100000 in
set_option maxHeartbeats 4000000 in
theorem t_X0_add_m (l : Launch) (G : sG) (S : sS) {o a : Nat} {n t : Int} (hI : cX G S 0 0 0) (ho : tau o = .inl 0) (ha : tau a = .inl 0) (noa : Hd (o ≠ a)) (hnt : (0 ≤ n ∧ n ≤ 30) ∧ (0 ≤ t ∧ t ≤ 999999990) ∧ S.1 a 1 ≤ n ∧ S.1 o 1 ≤ n + 1) (hnt2 : Hd (S.1 o 1 = n + 1 → S.2.1 (o + 1) n ≤ t)) : Met l yX0_add (.code yX0_add cX0_add 5 none :: tb) (rmk 3 0 0) (sPc G 294 S [.ref (G.2.2.1 + o), .ref (G.2.2.1 + a), .int (iv ((-1)))]) (sQv G 294 (fun u => cX G u 0 0 0 ∧ Fr S u (pB o) ∧ (u.1 o 1 ≤ n + 1 ∧ (u.1 o 1 = n + 1 → u.2.1 (o + 1) n ≤ t + 1) ∧ Hd ((S.1 o 2 ≤ 0 ∧ S.1 a 2 ≤ 0 ∨ 0 ≤ S.1 o 2 ∧ 0 ≤ S.1 a 2) → u.1 o 1 ≤ S.1 o 1 ∨ u.1 o 1 ≤ S.1 a 1)))) 0 0 (sF G) := by
  refine sEnter (by decide) (Nat.le_of_ble_eq_true rfl) ?_
  intro p e s m args below meth c Cx hr hlk hnm hW ls hl
  have Cx : sC G p m c cX0_add 5 s args RX0 := Cx
  obtain ⟨hx, hb, hml, hown, hts⟩ := id Cx.1
  have hL : sL G [] := sL_nil
  have hl : lv_has ls 5 [(0, .ref (G.2.2.1 + o)), (1, .ref (G.2.2.1 + a)), (2, .int (iv ((-1))))] := hl
  have hW0 := hW
  refine lv_iload_n hx hb dX0_add_0 rfl (lv_at hl 2 rfl) ?_
  refine lv_aload_n hx hb dX0_add_1 rfl (lv_at hl 1 rfl) ?_
  have q_1 : (-1) ≤ S.1 a 2 ∧ S.1 a 2 ≤ 1 := hI.fi a 2 0 (big_lt ha) ha
  refine g_X0_34 Cx hW (k := a) (big_l ha) ha (v := S.1 a 2) rfl dX0_add_2 ?_
  refine r_imul hx hb dX0_add_5 ?_
  refine lv_istore_n (lv' := [(3, .int (iv (((-1)) * (S.1 a 2)))), (0, .ref (G.2.2.1 + o)), (1, .ref (G.2.2.1 + a)), (2, .int (iv ((-1))))]) hx hb dX0_add_6 rfl hl (by decide) rfl (fun ls hl => ?_)
  refine lv_iload_n hx hb dX0_add_7 rfl (lv_at hl 0 rfl) ?_
  refine r_if_ne (tgt := 12) hx hb ⟨(by omega), (by omega)⟩ dX0_add_8 (by decide) (fun c_2 => ?_) (fun c_2 => ?_)
  · refine lv_aload_n hx hb dX0_add_12 rfl (lv_at hl 1 rfl) ?_
    have q_3 : (-1) ≤ S.1 o 2 ∧ S.1 o 2 ≤ 1 := hI.fi o 2 0 (big_lt ho) ho
    refine g_X0_34 Cx hW (k := o) (big_l ho) ho (v := S.1 o 2) rfl dX0_add_13 ?_
    refine r_if_ne (tgt := 32) hx hb ⟨(by omega), (by omega)⟩ dX0_add_16 (by decide) (fun c_4 => ?_) (fun c_4 => ?_)
    · refine lv_aload_n hx hb dX0_add_32 rfl (lv_at hl 1 rfl) ?_
      refine g_X0_34 Cx hW (k := o) (big_l ho) ho (v := S.1 o 2) rfl dX0_add_33 ?_
      refine lv_iload_n hx hb dX0_add_36 rfl (lv_at hl 0 rfl) ?_
      refine r_icmp_ne (tgt := 48) hx hb ⟨(by omega), (by omega)⟩ ⟨(by omega), (by omega)⟩ dX0_add_37 (by decide) (fun c_5 => ?_) (fun c_5 => ?_)
      · refine lv_aload_n hx hb dX0_add_48 rfl (lv_at hl 1 rfl) ?_
        refine lv_aload_n hx hb dX0_add_49 rfl (lv_at hl 2 rfl) ?_
        have q_6 : 0 ≤ S.1 a 1 ∧ S.1 a 1 ≤ 32 := hI.fi a 1 0 (big_lt ha) ha
        have q_7 : 0 ≤ S.1 o 1 ∧ S.1 o 1 ≤ 32 := hI.fi o 1 0 (big_lt ho) ho
        refine sBi (sV (As := [.ref (G.2.2.1 + a)]) (rest := []) (k := o) Cx (s_X0_compareSize l G S (o := o) (a := a) hI ho ha) (c_X0_79 Cx rfl rfl (rmk_ok (by omega) (by decide))) hW (big_l ho) ho rfl rfl hl.1 rfl (Nat.le_of_ble_eq_true rfl) dX0_add_50 ⟨Nat.le_of_ble_eq_true rfl, Nat.le_of_ble_eq_true rfl⟩) hL (fun r_10 u_8 H locs k_9 hW hL => ?_)
        obtain ⟨eu_8, xu_8⟩ := k_9
        rw [eu_8] at hW
        have hcs := xu_8.2.2.2.2.1
        refine lv_istore (lv' := [(4, .int (iv r_10)), (3, .int (iv (((-1)) * (S.1 a 2)))), (0, .ref (G.2.2.1 + o)), (1, .ref (G.2.2.1 + a)), (2, .int (iv ((-1))))]) hx hb dX0_add_53 hl (by decide) rfl (fun ls hl => ?_)
        refine lv_iload hx hb dX0_add_55 (lv_at hl 0 rfl) ?_
        refine r_if_lt (tgt := 69) hx hb ⟨(by omega), (by omega)⟩ dX0_add_57 (by decide) (fun c_11 => ?_) (fun c_11 => ?_)
        · refine lv_aload_n hx hb dX0_add_69 rfl (lv_at hl 2 rfl) ?_
          refine lv_aload_n hx hb dX0_add_70 rfl (lv_at hl 3 rfl) ?_
          refine lv_aload_n hx hb dX0_add_71 rfl (lv_at hl 2 rfl) ?_
          refine sBv (sV (As := [.ref (G.2.2.1 + a), .ref (G.2.2.1 + o)]) (rest := []) (k := o) Cx (t_X0_takeSize_2 l G S (o := o) (a := a) hI ho ha (neD noa)) (c_X0_83 Cx rfl rfl (rmk_ok (by omega) (by decide))) hW (big_l ho) ho rfl rfl hl.1 rfl (Nat.le_of_ble_eq_true rfl) dX0_add_72 ⟨Nat.le_of_ble_eq_true rfl, Nat.le_of_ble_eq_true rfl⟩) hL (fun u_12 H locs k_13 hW hL => ?_)
          obtain ⟨iu_12, fu_12, xu_12⟩ := k_13
          have F_14 := (Fr.rf : Fr S S (pB o)).trans fu_12
          refine lv_aload_n hx hb dX0_add_75 rfl (lv_at hl 2 rfl) ?_
          refine lv_iload_n hx hb dX0_add_76 rfl (lv_at hl 1 rfl) ?_
          refine p_X0_34 Cx hW hL (k := o) (big_l ho) ho dX0_add_77 (fun H locs hW hL => ?_)
          have F_15 : Fr S (uF u_12 o 2 (((-1)) * (S.1 a 2))) (pB o) := F_14.F pB_0
          have i_16 : cX G (uF u_12 o 2 (((-1)) * (S.1 a 2))) o 0 0 := iu_12.F ho rfl (show (-1) ≤ ((-1)) * (S.1 a 2) ∧ ((-1)) * (S.1 a 2) ≤ 1 from ⟨by omega, by omega⟩)
          refine lv_aload_n hx hb dX0_add_80 rfl (lv_at hl 2 rfl) ?_
          have q_17 : 0 ≤ u_12.1 o 1 ∧ u_12.1 o 1 ≤ 32 := iu_12.fi o 1 0 (big_lt ho) ho
          have lk_18 : (uF u_12 o 2 (((-1)) * (S.1 a 2))).1 o 1 = u_12.1 o 1 := uF_ne (fun h => absurd h.2 (by decide))
          have lk_19 : (uF u_12 o 2 (((-1)) * (S.1 a 2))).1 o 2 = ((-1)) * (S.1 a 2) := uF_on
          refine sBv (sV (As := []) (rest := []) (k := o) Cx (s_X0_trim l G (uF u_12 o 2 (((-1)) * (S.1 a 2))) (o := o) i_16 ho) (c_X0_59 Cx rfl rfl (rmk_ok (by omega) (by decide))) hW (big_l ho) ho rfl rfl hl.1 rfl (Nat.le_of_ble_eq_true rfl) dX0_add_81 ⟨Nat.le_of_ble_eq_true rfl, Nat.le_of_ble_eq_true rfl⟩) hL (fun u_20 H locs k_21 hW hL => ?_)
          obtain ⟨iu_20, fu_20, xu_20⟩ := k_21
          have F_22 := F_15.trans fu_20
          have q_23 : 0 ≤ u_20.1 o 1 ∧ u_20.1 o 1 ≤ 32 := iu_20.fi o 1 0 (big_lt ho) ho
          exact sVret Cx hr hlk hW hL ⟨iu_20, F_22, ⟨by have := xu_20.1; rw [uF_i (by decide)] at this; omega, fun q => by have := xu_20.1; rw [uF_i (by decide)] at this; omega, fun _ => Or.inr (by have := xu_20.1; rw [uF_i (by decide)] at this; omega)⟩⟩ dX0_add_84
        · refine lv_aload_n hx hb dX0_add_60 rfl (lv_at hl 2 rfl) ?_
          refine lv_aload_n hx hb dX0_add_61 rfl (lv_at hl 2 rfl) ?_
          refine lv_aload_n hx hb dX0_add_62 rfl (lv_at hl 3 rfl) ?_
          refine sBv (sV (As := [.ref (G.2.2.1 + o), .ref (G.2.2.1 + a)]) (rest := []) (k := o) Cx (t_X0_takeSize_1 l G S (o := o) (a := a) hI ho ha (neD noa)) (c_X0_83 Cx rfl rfl (rmk_ok (by omega) (by decide))) hW (big_l ho) ho rfl rfl hl.1 rfl (Nat.le_of_ble_eq_true rfl) dX0_add_63 ⟨Nat.le_of_ble_eq_true rfl, Nat.le_of_ble_eq_true rfl⟩) hL (fun u_24 H locs k_25 hW hL => ?_)
          obtain ⟨iu_24, fu_24, xu_24⟩ := k_25
          have F_26 := (Fr.rf : Fr S S (pB o)).trans fu_24
          refine lv_goto (tgt := 80) hx hb dX0_add_66 (by decide) ?_
          refine lv_aload_n hx hb dX0_add_80 rfl (lv_at hl 2 rfl) ?_
          have q_27 : 0 ≤ u_24.1 o 1 ∧ u_24.1 o 1 ≤ 32 := iu_24.fi o 1 0 (big_lt ho) ho
          have q_28 : (-1) ≤ u_24.1 o 2 ∧ u_24.1 o 2 ≤ 1 := iu_24.fi o 2 0 (big_lt ho) ho
          refine sBv (sV (As := []) (rest := []) (k := o) Cx (s_X0_trim l G u_24 (o := o) iu_24 ho) (c_X0_59 Cx rfl rfl (rmk_ok (by omega) (by decide))) hW (big_l ho) ho rfl rfl hl.1 rfl (Nat.le_of_ble_eq_true rfl) dX0_add_81 ⟨Nat.le_of_ble_eq_true rfl, Nat.le_of_ble_eq_true rfl⟩) hL (fun u_29 H locs k_30 hW hL => ?_)
          obtain ⟨iu_29, fu_29, xu_29⟩ := k_30
          have F_31 := F_26.trans fu_29
          have q_32 : 0 ≤ u_29.1 o 1 ∧ u_29.1 o 1 ≤ 32 := iu_29.fi o 1 0 (big_lt ho) ho
          exact sVret Cx hr hlk hW hL ⟨iu_29, F_31, ⟨by omega, fun q => by have e1 : u_29.1 o 1 = u_24.1 o 1 := (by omega); have e2 := xu_29.2.2.1; show u_29.2.1 (o + 1) n ≤ t + 1; rw [e2]; have e3 := xu_24.2.2 (by omega); have e4 := hnt2 (by omega); rw [show S.1 o 1 - 1 = n by omega] at e3; omega, fun _ => Or.inl (by omega)⟩⟩ dX0_add_84
      · refine lv_aload_n hx hb dX0_add_40 rfl (lv_at hl 1 rfl) ?_
        refine lv_aload_n hx hb dX0_add_41 rfl (lv_at hl 2 rfl) ?_
        have q_33 : 0 ≤ S.1 a 1 ∧ S.1 a 1 ≤ 32 := hI.fi a 1 0 (big_lt ha) ha
        have q_34 : 0 ≤ S.1 o 1 ∧ S.1 o 1 ≤ 32 := hI.fi o 1 0 (big_lt ho) ho
        refine sBv (sV (As := [.ref (G.2.2.1 + a)]) (rest := []) (k := o) Cx (s_X0_addSize l G S (o := o) (a := a) (n := n) (t := t) hI ho ha (neD noa) (by omega) hnt2) (c_X0_76 Cx rfl rfl (rmk_ok (by omega) (by decide))) hW (big_l ho) ho rfl rfl hl.1 rfl (Nat.le_of_ble_eq_true rfl) dX0_add_42 ⟨Nat.le_of_ble_eq_true rfl, Nat.le_of_ble_eq_true rfl⟩) hL (fun u_35 H locs k_36 hW hL => ?_)
        obtain ⟨iu_35, fu_35, xu_35⟩ := k_36
        have F_37 := (Fr.rf : Fr S S (pB o)).trans fu_35
        refine lv_goto (tgt := 84) hx hb dX0_add_45 (by decide) ?_
        have q_38 : 0 ≤ u_35.1 o 1 ∧ u_35.1 o 1 ≤ 32 := iu_35.fi o 1 0 (big_lt ho) ho
        exact sVret Cx hr hlk hW hL ⟨iu_35, F_37, ⟨xu_35.1, xu_35.2.1, fun q => absurd q (by omega)⟩⟩ dX0_add_84
    · refine lv_aload_n hx hb dX0_add_19 rfl (lv_at hl 1 rfl) ?_
      refine lv_aload_n hx hb dX0_add_20 rfl (lv_at hl 2 rfl) ?_
      have q_39 : 0 ≤ S.1 a 1 ∧ S.1 a 1 ≤ 32 := hI.fi a 1 0 (big_lt ha) ha
      refine sBv (sV (As := [.ref (G.2.2.1 + a)]) (rest := []) (k := o) Cx (s_X0_copy l G S (o := o) (a := a) hI ho ha) (c_X0_72 Cx rfl rfl (rmk_ok (by omega) (by decide))) hW (big_l ho) ho rfl rfl hl.1 rfl (Nat.le_of_ble_eq_true rfl) dX0_add_21 ⟨Nat.le_of_ble_eq_true rfl, Nat.le_of_ble_eq_true rfl⟩) hL (fun u_40 H locs k_41 hW hL => ?_)
      obtain ⟨iu_40, fu_40, xu_40⟩ := k_41
      have F_42 := (Fr.rf : Fr S S (pB o)).trans fu_40
      refine lv_aload_n hx hb dX0_add_24 rfl (lv_at hl 1 rfl) ?_
      refine lv_iload_n hx hb dX0_add_25 rfl (lv_at hl 0 rfl) ?_
      refine p_X0_34 Cx hW hL (k := o) (big_l ho) ho dX0_add_26 (fun H locs hW hL => ?_)
      have F_43 : Fr S (uF u_40 o 2 (((-1)) * (S.1 a 2))) (pB o) := F_42.F pB_0
      have i_44 : cX G (uF u_40 o 2 (((-1)) * (S.1 a 2))) 0 0 0 := iu_40.F ho rfl (show (-1) ≤ ((-1)) * (S.1 a 2) ∧ ((-1)) * (S.1 a 2) ≤ 1 from ⟨by omega, by omega⟩)
      refine lv_goto (tgt := 84) hx hb dX0_add_29 (by decide) ?_
      have q_45 : 0 ≤ u_40.1 o 1 ∧ u_40.1 o 1 ≤ 32 := iu_40.fi o 1 0 (big_lt ho) ho
      have lk_46 : (uF u_40 o 2 (((-1)) * (S.1 a 2))).1 o 1 = u_40.1 o 1 := uF_ne (fun h => absurd h.2 (by decide))
      exact sVret Cx hr hlk hW hL ⟨i_44, F_43, ⟨by rw [uF_i (by decide)]; omega, fun q => by rw [uF_i (by decide)] at q; omega, fun _ => Or.inr (by rw [uF_i (by decide)]; omega)⟩⟩ dX0_add_84
  · have q_47 : 0 ≤ S.1 o 1 ∧ S.1 o 1 ≤ 32 := hI.fi o 1 0 (big_lt ho) ho
    exact sVret Cx hr hlk hW hL ⟨hI, (Fr.rf : Fr S S (pB o)), ⟨by omega, fun q => by have := hnt2 q; omega, fun _ => Or.inl (Int.le_refl _)⟩⟩ dX0_add_11
