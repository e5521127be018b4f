theorem sg_bv (x : BitVec 32) : (x.sshiftRight 31 ||| (-x) >>> 31) = if x.msb = true then BitVec.allOnes 32 else if x = 0#32 then 0#32 else 1#32 := by
  by_cases h : x.msb = true
  · rw [if_pos h]
    apply BitVec.eq_of_getLsbD_eq
    intro i hi
    have e : (x.sshiftRight 31).getLsbD i = true := by
      rw [BitVec.getLsbD_sshiftRight]
      by_cases h0 : 31 + i < 32
      · have : i = 0 := by omega
        subst this
        have hm : x.getLsbD 31 = true := by rw [← h]; exact (BitVec.msb_eq_getLsbD_last x).symm
        simp [hm]
      · simp [h0, h]; omega
    rw [BitVec.getLsbD_or, e, BitVec.getLsbD_allOnes]
    simp [hi]
  · rw [if_neg h]
    have hf : x.msb = false := by simpa using h
    by_cases h0 : x = 0#32
    · rw [if_pos h0]; subst h0; decide
    · rw [if_neg h0]
      have hn : (-x).msb = true := by
        rw [BitVec.msb_neg]
        have h2 : x ≠ BitVec.intMin 32 := fun e => by rw [e] at hf; revert hf; decide
        simp [hf, h0, h2]
      apply BitVec.eq_of_getLsbD_eq
      intro i hi
      rw [BitVec.getLsbD_or, BitVec.getLsbD_sshiftRight, BitVec.getLsbD_ushiftRight]
      by_cases hi0 : i = 0
      · subst hi0
        have hm : (-x).getLsbD 31 = true := by rw [← hn]; exact (BitVec.msb_eq_getLsbD_last _).symm
        simp [hm]
      · have h1 : ¬ 31 + i < 32 := by omega
        have h2 : (-x).getLsbD (31 + i) = false := BitVec.getLsbD_of_ge _ _ (by omega)
        have h3 : (1#32).getLsbD i = false := by
          rw [BitVec.getLsbD_one]; simp; omega
        simp [h1, hf, h2, h3]
theorem sg32 {a : Int} (ha : -2147483648 ≤ a ∧ a ≤ 2147483647) : (iv a >>> (iv 31 &&& 31)) ||| ((-iv a).toUInt32 >>> ((iv 31).toUInt32 &&& Int32.toUInt32 31)).toInt32 = iv (if a < 0 then -1 else if a = 0 then 0 else 1) := by
  have h := sg_bv (iv a).toBitVec
  have e1 : ((iv a >>> (iv 31 &&& 31)) ||| ((-iv a).toUInt32 >>> ((iv 31).toUInt32 &&& Int32.toUInt32 31)).toInt32).toBitVec = ((iv a).toBitVec.sshiftRight 31 ||| (-(iv a).toBitVec) >>> 31) := rfl
  apply Int32.toBitVec_inj.mp
  rw [e1, h]
  have hm : (iv a).toBitVec.msb = decide (a < 0) := by
    rw [BitVec.msb_eq_toInt]
    have : (iv a).toBitVec.toInt = a := iv_toInt ha
    rw [this]
  by_cases h1 : a < 0
  · rw [if_pos (by rw [hm]; exact decide_eq_true h1), if_pos h1]; rfl
  · by_cases h2 : a = 0
    · subst h2; rfl
    · have h3 : ¬ (iv a).toBitVec = 0#32 := fun e => h2 (by
        have : (iv a).toBitVec.toInt = a := iv_toInt ha
        rw [e] at this
        exact this.symm)
      rw [if_neg (by rw [hm]; simp [h1]), if_neg h3, if_neg h1, if_neg h2]; rfl
theorem sg_bv64 (x : BitVec 64) : (x.sshiftRight 63 ||| (-x) >>> 63) = if x.msb = true then BitVec.allOnes 64 else if x = 0#64 then 0#64 else 1#64 := by
  by_cases h : x.msb = true
  · rw [if_pos h]
    apply BitVec.eq_of_getLsbD_eq
    intro i hi
    have e : (x.sshiftRight 63).getLsbD i = true := by
      rw [BitVec.getLsbD_sshiftRight]
      by_cases h0 : 63 + i < 64
      · have : i = 0 := by omega
        subst this
        have hm : x.getLsbD 63 = true := by rw [← h]; exact (BitVec.msb_eq_getLsbD_last x).symm
        simp [hm]
      · simp [h0, h]; omega
    rw [BitVec.getLsbD_or, e, BitVec.getLsbD_allOnes]
    simp [hi]
  · rw [if_neg h]
    have hf : x.msb = false := by simpa using h
    by_cases h0 : x = 0#64
    · rw [if_pos h0]; subst h0; decide
    · rw [if_neg h0]
      have hn : (-x).msb = true := by
        rw [BitVec.msb_neg]
        have h2 : x ≠ BitVec.intMin 64 := fun e => by rw [e] at hf; revert hf; decide
        simp [hf, h0, h2]
      apply BitVec.eq_of_getLsbD_eq
      intro i hi
      rw [BitVec.getLsbD_or, BitVec.getLsbD_sshiftRight, BitVec.getLsbD_ushiftRight]
      by_cases hi0 : i = 0
      · subst hi0
        have hm : (-x).getLsbD 63 = true := by rw [← hn]; exact (BitVec.msb_eq_getLsbD_last _).symm
        simp [hm]
      · have h1 : ¬ 63 + i < 64 := by omega
        have h2 : (-x).getLsbD (63 + i) = false := BitVec.getLsbD_of_ge _ _ (by omega)
        have h3 : (1#64).getLsbD i = false := by
          rw [BitVec.getLsbD_one]; simp; omega
        simp [h1, hf, h2, h3]
theorem sg64 {a : Int} (ha : -9223372036854775808 ≤ a ∧ a ≤ 9223372036854775807) : ((jv a >>> ((iv 63).toInt64 &&& 63)) ||| ((-jv a).toUInt64 >>> ((iv 63).toInt64.toUInt64 &&& Int64.toUInt64 63)).toInt64).toInt32 = iv (if a < 0 then -1 else if a = 0 then 0 else 1) := by
  have h := sg_bv64 (jv a).toBitVec
  have e1 : ((jv a >>> ((iv 63).toInt64 &&& 63)) ||| ((-jv a).toUInt64 >>> ((iv 63).toInt64.toUInt64 &&& Int64.toUInt64 63)).toInt64).toBitVec = ((jv a).toBitVec.sshiftRight 63 ||| (-(jv a).toBitVec) >>> 63) := rfl
  have e2 : ((jv a >>> ((iv 63).toInt64 &&& 63)) ||| ((-jv a).toUInt64 >>> ((iv 63).toInt64.toUInt64 &&& Int64.toUInt64 63)).toInt64) = jv (if a < 0 then -1 else if a = 0 then 0 else 1) := by
    apply Int64.toBitVec_inj.mp
    rw [e1, h]
    have hm : (jv a).toBitVec.msb = decide (a < 0) := by
      rw [BitVec.msb_eq_toInt]
      have : (jv a).toBitVec.toInt = a := jv_toInt ha
      rw [this]
    by_cases h1 : a < 0
    · rw [if_pos (by rw [hm]; exact decide_eq_true h1), if_pos h1]; rfl
    · by_cases h2 : a = 0
      · subst h2; rfl
      · have h3 : ¬ (jv a).toBitVec = 0#64 := fun e => h2 (by
          have : (jv a).toBitVec.toInt = a := jv_toInt ha
          rw [e] at this
          exact this.symm)
        rw [if_neg (by rw [hm]; simp [h1]), if_neg h3, if_neg h1, if_neg h2]; rfl
  rw [e2]
  exact Int64.toInt32_ofInt
set_option maxRecDepth 100000 in
set_option maxHeartbeats 4000000 in
theorem t_J6_compare_7cf53 (l : Launch) (G : sG) (S : sS) {a b : Int} (ha : -2147483648 ≤ a ∧ a ≤ 2147483647) (hb : -2147483648 ≤ b ∧ b ≤ 2147483647) : Met l yJ6_compare_7cf53 (.code yJ6_compare_7cf53 cJ6_compare_7cf53 2 (some .int) :: tb) (rmk 1 0 0) (sPc G 294 S [.int (iv a), .int (iv b)]) (sQi G 294 (fun r u => u = S ∧ (a < b → r = -1) ∧ (a = b → r = 0) ∧ (b < a → r = 1))) 0 0 (sF G) := by
  refine sEnterF (by decide) (Nat.le_of_ble_eq_true rfl) ?_
  intro p e s m args below meth c Cx hr hlk hnm hW ls hl
  have Cx : sC G p m c cJ6_compare_7cf53 2 s args RJ6 := Cx
  obtain ⟨hx, hb, hml, hown, hts⟩ := id Cx.1
  have hL : sL G [] := sL_nil
  have hl : lv_has ls 2 [(0, .int (iv a)), (1, .int (iv b))] := hl
  refine lv_iload_n hx hb dJ6_compare_7cf53_0 rfl (lv_at hl 0 rfl) ?_
  refine lv_iload_n hx hb dJ6_compare_7cf53_1 rfl (lv_at hl 1 rfl) ?_
  refine r_icmp_ge (tgt := 9) hx hb ⟨(by omega), (by omega)⟩ ⟨(by omega), (by omega)⟩ dJ6_compare_7cf53_2 (by decide) (fun c_1 => ?_) (fun c_1 => ?_)
  · refine lv_iload_n hx hb dJ6_compare_7cf53_9 rfl (lv_at hl 0 rfl) ?_
    refine lv_iload_n hx hb dJ6_compare_7cf53_10 rfl (lv_at hl 1 rfl) ?_
    refine r_icmp_ne (tgt := 18) hx hb ⟨(by omega), (by omega)⟩ ⟨(by omega), (by omega)⟩ dJ6_compare_7cf53_11 (by decide) (fun c_2 => ?_) (fun c_2 => ?_)
    · refine lv_iconst (v := iv 1) hx hb dJ6_compare_7cf53_18 (by decide) ?_
      exact sIret Cx hr hlk hW hL ⟨rfl, by omega, by omega, by omega⟩ dJ6_compare_7cf53_19
    · refine lv_iconst (v := iv 0) hx hb dJ6_compare_7cf53_14 (by decide) ?_
      refine lv_goto (tgt := 19) hx hb dJ6_compare_7cf53_15 (by decide) ?_
      exact sIret Cx hr hlk hW hL ⟨rfl, by omega, by omega, by omega⟩ dJ6_compare_7cf53_19
  · refine lv_iconst (v := iv (-1)) hx hb dJ6_compare_7cf53_5 (by decide) ?_
    refine lv_goto (tgt := 19) hx hb dJ6_compare_7cf53_6 (by decide) ?_
    exact sIret Cx hr hlk hW hL ⟨rfl, by omega, by omega, by omega⟩ dJ6_compare_7cf53_19

set_option maxRecDepth 100000 in
set_option maxHeartbeats 4000000 in
theorem t_J13_compare_74951 (l : Launch) (G : sG) (S : sS) {a b : Int} (ha : -9223372036854775808 ≤ a ∧ a ≤ 9223372036854775807) (hb : -9223372036854775808 ≤ b ∧ b ≤ 9223372036854775807) : Met l yJ13_compare_74951 (.code yJ13_compare_74951 cJ13_compare_74951 4 (some .int) :: tb) (rmk 1 0 0) (sPc G 294 S [.long (jv a), .long (jv b)]) (sQi G 294 (fun r u => u = S ∧ (a < b → r = -1) ∧ (a = b → r = 0) ∧ (b < a → r = 1))) 0 0 (sF G) := by
  refine sEnterF (by decide) (Nat.le_of_ble_eq_true rfl) ?_
  intro p e s m args below meth c Cx hr hlk hnm hW ls hl
  have Cx : sC G p m c cJ13_compare_74951 4 s args RJ13 := Cx
  obtain ⟨hx, hb, hml, hown, hts⟩ := id Cx.1
  have hL : sL G [] := sL_nil
  have hl : lv_has ls 4 [(0, .long (jv a)), (2, .long (jv b))] := hl
  refine lv_lload_n hx hb dJ13_compare_74951_0 rfl (lv_at hl 0 rfl) ?_
  refine lv_lload_n hx hb dJ13_compare_74951_1 rfl (lv_at hl 1 rfl) ?_
  refine r_lcmp hx hb ⟨(by omega), (by omega)⟩ ⟨(by omega), (by omega)⟩ dJ13_compare_74951_2 (fun z_1 az_1 bz_1 cz_1 => ?_)
  refine r_if_ge (tgt := 10) hx hb ⟨(by omega), (by omega)⟩ dJ13_compare_74951_3 (by decide) (fun c_2 => ?_) (fun c_2 => ?_)
  · refine lv_lload_n hx hb dJ13_compare_74951_10 rfl (lv_at hl 0 rfl) ?_
    refine lv_lload_n hx hb dJ13_compare_74951_11 rfl (lv_at hl 1 rfl) ?_
    refine r_lcmp hx hb ⟨(by omega), (by omega)⟩ ⟨(by omega), (by omega)⟩ dJ13_compare_74951_12 (fun z_3 az_3 bz_3 cz_3 => ?_)
    refine r_if_ne (tgt := 20) hx hb ⟨(by omega), (by omega)⟩ dJ13_compare_74951_13 (by decide) (fun c_4 => ?_) (fun c_4 => ?_)
    · refine lv_iconst (v := iv 1) hx hb dJ13_compare_74951_20 (by decide) ?_
      exact sIret Cx hr hlk hW hL ⟨rfl, by omega, by omega, by omega⟩ dJ13_compare_74951_21
    · refine lv_iconst (v := iv 0) hx hb dJ13_compare_74951_16 (by decide) ?_
      refine lv_goto (tgt := 21) hx hb dJ13_compare_74951_17 (by decide) ?_
      exact sIret Cx hr hlk hW hL ⟨rfl, by omega, by omega, by omega⟩ dJ13_compare_74951_21
  · refine lv_iconst (v := iv (-1)) hx hb dJ13_compare_74951_6 (by decide) ?_
    refine lv_goto (tgt := 21) hx hb dJ13_compare_74951_7 (by decide) ?_
    exact sIret Cx hr hlk hW hL ⟨rfl, by omega, by omega, by omega⟩ dJ13_compare_74951_21

set_option maxHeartbeats 4000000 in
theorem t_J6_signum_0f7a4 (l : Launch) (G : sG) (S : sS) {a : Int} (ha : -2147483648 ≤ a ∧ a ≤ 2147483647) : Met l yJ6_signum_0f7a4 (.code yJ6_signum_0f7a4 cJ6_signum_0f7a4 1 (some .int) :: tb) (rmk 1 0 0) (sPc G 294 S [.int (iv a)]) (sQi G 294 (fun r u => u = S ∧ r = if a < 0 then -1 else if a = 0 then 0 else 1)) 0 0 (sF G) := by
  refine sEnterF (by decide) (Nat.le_of_ble_eq_true rfl) ?_
  intro p e s m args below meth c Cx hr hlk hnm hW ls hl
  have Cx : sC G p m c cJ6_signum_0f7a4 1 s args RJ6 := Cx
  obtain ⟨hx, hb, hml, hown, hts⟩ := id Cx.1
  have hL : sL G [] := sL_nil
  have hl : lv_has ls 1 [(0, .int (iv a))] := hl
  refine lv_iload_n hx hb dJ6_signum_0f7a4_0 rfl (lv_at hl 0 rfl) ?_
  refine lv_bipush (v := iv 31) hx hb dJ6_signum_0f7a4_1 (by decide) ?_
  refine lv_ishr hx hb dJ6_signum_0f7a4_3 ?_
  refine lv_iload_n hx hb dJ6_signum_0f7a4_4 rfl (lv_at hl 0 rfl) ?_
  refine lv_ineg hx hb dJ6_signum_0f7a4_5 ?_
  refine lv_bipush (v := iv 31) hx hb dJ6_signum_0f7a4_6 (by decide) ?_
  refine lv_iushr hx hb dJ6_signum_0f7a4_8 rfl ?_
  refine lv_ior hx hb dJ6_signum_0f7a4_9 ?_
  rw [sg32 ha]
  exact sIret Cx hr hlk hW hL ⟨rfl, rfl⟩ dJ6_signum_0f7a4_10

set_option maxHeartbeats 4000000 in
theorem t_J13_signum_95d88 (l : Launch) (G : sG) (S : sS) {a : Int} (ha : -9223372036854775808 ≤ a ∧ a ≤ 9223372036854775807) : Met l yJ13_signum_95d88 (.code yJ13_signum_95d88 cJ13_signum_95d88 2 (some .int) :: tb) (rmk 1 0 0) (sPc G 294 S [.long (jv a)]) (sQi G 294 (fun r u => u = S ∧ r = if a < 0 then -1 else if a = 0 then 0 else 1)) 0 0 (sF G) := by
  refine sEnterF (by decide) (Nat.le_of_ble_eq_true rfl) ?_
  intro p e s m args below meth c Cx hr hlk hnm hW ls hl
  have Cx : sC G p m c cJ13_signum_95d88 2 s args RJ13 := Cx
  obtain ⟨hx, hb, hml, hown, hts⟩ := id Cx.1
  have hL : sL G [] := sL_nil
  have hl : lv_has ls 2 [(0, .long (jv a))] := hl
  refine lv_lload_n hx hb dJ13_signum_95d88_0 rfl (lv_at hl 0 rfl) ?_
  refine lv_bipush (v := iv 63) hx hb dJ13_signum_95d88_1 (by decide) ?_
  refine lv_lshr hx hb dJ13_signum_95d88_3 rfl ?_
  refine lv_lload_n hx hb dJ13_signum_95d88_4 rfl (lv_at hl 0 rfl) ?_
  refine lv_lneg hx hb dJ13_signum_95d88_5 ?_
  refine lv_bipush (v := iv 63) hx hb dJ13_signum_95d88_6 (by decide) ?_
  refine lv_lushr hx hb dJ13_signum_95d88_8 rfl ?_
  refine lv_lor hx hb dJ13_signum_95d88_9 ?_
  refine lv_l2i hx hb dJ13_signum_95d88_10 (sg64 ha) ?_
  exact sIret Cx hr hlk hW hL ⟨rfl, rfl⟩ dJ13_signum_95d88_11
