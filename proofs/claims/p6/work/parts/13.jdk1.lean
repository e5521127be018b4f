theorem sg_bv (x : BitVec 32) : (x.sshiftRight 31 ||| (-x) >>> 31) = if x.msb = true then BitVec.allOnes 32 else if x = 0#32 then 0#32 else 1#32 := by
  by_cases h : x.msb = true
  · rw [if_pos h]
    apply BitVec.eq_of_getLsbD_eq
    intro i hi
    have e : (x.sshiftRight 31).getLsbD i = true := by
      rw [BitVec.getLsbD_sshiftRight]
      by_cases h0 : 31 + i < 32
      · have : i = 0 := by omega
        subst this
        have hm : x.getLsbD 31 = true := by rw [← h]; exact (BitVec.msb_eq_getLsbD_last x).symm
        simp [hm]
      · simp [h0, h]; omega
    rw [BitVec.getLsbD_or, e, BitVec.getLsbD_allOnes]
    simp [hi]
  · rw [if_neg h]
    have hf : x.msb = false := by simpa using h
    by_cases h0 : x = 0#32
    · rw [if_pos h0]; subst h0; decide
    · rw [if_neg h0]
      have hn : (-x).msb = true := by
        rw [BitVec.msb_neg]
        have h2 : x ≠ BitVec.intMin 32 := fun e => by rw [e] at hf; revert hf; decide
        simp [hf, h0, h2]
      apply BitVec.eq_of_getLsbD_eq
      intro i hi
      rw [BitVec.getLsbD_or, BitVec.getLsbD_sshiftRight, BitVec.getLsbD_ushiftRight]
      by_cases hi0 : i = 0
      · subst hi0
        have hm : (-x).getLsbD 31 = true := by rw [← hn]; exact (BitVec.msb_eq_getLsbD_last _).symm
        simp [hm]
      · have h1 : ¬ 31 + i < 32 := by omega
        have h2 : (-x).getLsbD (31 + i) = false := BitVec.getLsbD_of_ge _ _ (by omega)
        have h3 : (1#32).getLsbD i = false := by
          rw [BitVec.getLsbD_one]; simp; omega
        simp [h1, hf, h2, h3]
theorem sg32 {a : Int} (ha : -2147483648 ≤ a ∧ a ≤ 2147483647) : (iv a >>> (iv 31 &&& 31)) ||| ((-iv a).toUInt32 >>> ((iv 31).toUInt32 &&& Int32.toUInt32 31)).toInt32 = iv (if a < 0 then -1 else if a = 0 then 0 else 1) := by
  have h := sg_bv (iv a).toBitVec
  have e1 : ((iv a >>> (iv 31 &&& 31)) ||| ((-iv a).toUInt32 >>> ((iv 31).toUInt32 &&& Int32.toUInt32 31)).toInt32).toBitVec = ((iv a).toBitVec.sshiftRight 31 ||| (-(iv a).toBitVec) >>> 31) := rfl
  apply Int32.toBitVec_inj.mp
  rw [e1, h]
  have hm : (iv a).toBitVec.msb = decide (a < 0) := by
    rw [BitVec.msb_eq_toInt]
    have : (iv a).toBitVec.toInt = a := iv_toInt ha
    rw [this]
  by_cases h1 : a < 0
  · rw [if_pos (by rw [hm]; exact decide_eq_true h1), if_pos h1]; rfl
  · by_cases h2 : a = 0
    · subst h2; rfl
    · have h3 : ¬ (iv a).toBitVec = 0#32 := fun e => h2 (by
        have : (iv a).toBitVec.toInt = a := iv_toInt ha
        rw [e] at this
        exact this.symm)
      rw [if_neg (by rw [hm]; simp [h1]), if_neg h3, if_neg h1, if_neg h2]; rfl
theorem sg_bv64 (x : BitVec 64) : (x.sshiftRight 63 ||| (-x) >>> 63) = if x.msb = true then BitVec.allOnes 64 else if x = 0#64 then 0#64 else 1#64 := by
  by_cases h : x.msb = true
  · rw [if_pos h]
    apply BitVec.eq_of_getLsbD_eq
    intro i hi
    have e : (x.sshiftRight 63).getLsbD i = true := by
      rw [BitVec.getLsbD_sshiftRight]
      by_cases h0 : 63 + i < 64
      · have : i = 0 := by omega
        subst this
        have hm : x.getLsbD 63 = true := by rw [← h]; exact (BitVec.msb_eq_getLsbD_last x).symm
        simp [hm]
      · simp [h0, h]; omega
    rw [BitVec.getLsbD_or, e, BitVec.getLsbD_allOnes]
    simp [hi]
  · rw [if_neg h]
    have hf : x.msb = false := by simpa using h
    by_cases h0 : x = 0#64
    · rw [if_pos h0]; subst h0; decide
    · rw [if_neg h0]
      have hn : (-x).msb = true := by
        rw [BitVec.msb_neg]
        have h2 : x ≠ BitVec.intMin 64 := fun e => by rw [e] at hf; revert hf; decide
        simp [hf, h0, h2]
      apply BitVec.eq_of_getLsbD_eq
      intro i hi
      rw [BitVec.getLsbD_or, BitVec.getLsbD_sshiftRight, BitVec.getLsbD_ushiftRight]
      by_cases hi0 : i = 0
      · subst hi0
        have hm : (-x).getLsbD 63 = true := by rw [← hn]; exact (BitVec.msb_eq_getLsbD_last _).symm
        simp [hm]
      · have h1 : ¬ 63 + i < 64 := by omega
        have h2 : (-x).getLsbD (63 + i) = false := BitVec.getLsbD_of_ge _ _ (by omega)
        have h3 : (1#64).getLsbD i = false := by
          rw [BitVec.getLsbD_one]; simp; omega
        simp [h1, hf, h2, h3]
theorem sg64 {a : Int} (ha : -9223372036854775808 ≤ a ∧ a ≤ 9223372036854775807) : ((jv a >>> ((iv 63).toInt64 &&& 63)) ||| ((-jv a).toUInt64 >>> ((iv 63).toInt64.toUInt64 &&& Int64.toUInt64 63)).toInt64).toInt32 = iv (if a < 0 then -1 else if a = 0 then 0 else 1) := by
  have h := sg_bv64 (jv a).toBitVec
  have e1 : ((jv a >>> ((iv 63).toInt64 &&& 63)) ||| ((-jv a).toUInt64 >>> ((iv 63).toInt64.toUInt64 &&& Int64.toUInt64 63)).toInt64).toBitVec = ((jv a).toBitVec.sshiftRight 63 ||| (-(jv a).toBitVec) >>> 63) := rfl
  have e2 : ((jv a >>> ((iv 63).toInt64 &&& 63)) ||| ((-jv a).toUInt64 >>> ((iv 63).toInt64.toUInt64 &&& Int64.toUInt64 63)).toInt64) = jv (if a < 0 then -1 else if a = 0 then 0 else 1) := by
    apply Int64.toBitVec_inj.mp
    rw [e1, h]
    have hm : (jv a).toBitVec.msb = decide (a < 0) := by
      rw [BitVec.msb_eq_toInt]
      have : (jv a).toBitVec.toInt = a := jv_toInt ha
      rw [this]
    by_cases h1 : a < 0
    · rw [if_pos (by rw [hm]; exact decide_eq_true h1), if_pos h1]; rfl
    · by_cases h2 : a = 0
      · subst h2; rfl
      · have h3 : ¬ (jv a).toBitVec = 0#64 := fun e => h2 (by
          have : (jv a).toBitVec.toInt = a := jv_toInt ha
          rw [e] at this
          exact this.symm)
        rw [if_neg (by rw [hm]; simp [h1]), if_neg h3, if_neg h1, if_neg h2]; rfl
  rw [e2]
  exact Int64.toInt32_ofInt
