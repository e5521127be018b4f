/-! Syntax: tokens -/
section SYN3
variable {p : Program} {l : Launch} {e : Env} {R : Room} {s : State} {m : MethodId} {args : Array Value} {below : List Frame} {meth : Method} {c : Code} {H : Heap} {locs : List Loc} {cells slots : Nat} {Q : State → Prop}
variable {cc : ByteArray} {pc nL : Nat} {ls : Array Slot} {rest st0 : List Value} {G : sG} {n : Nat} {S S0 : sS} {own : String}
theorem zWords (Cx : sC G p m c cc nL s args own) (h0 : sW G n S0 s.heap) (hW : sW G n S H) (hL : sL G locs) {index : Nat} (hl : Cond.fieldLink own index "OptimumHouse$Syntax" "WORDS" "[J" ∈ tb) (hdg : decode cc pc = .ok (.getstatic index, 3)) (kk : W p l e R s m args below meth c H locs cells slots Q (F0 m (pc + 3) ls (.ref (G.1.2 102 0) :: rest))) : W p l e R s m args below meth c H locs cells slots Q (F0 m pc ls rest) :=
  va_gets Cx.1.1 Cx.1.2.1 (Cx.2.2.2.2.2.1.1.kept h0.old) (h0.wS hW hL) Cx.1.2.2.2.1 (Cx.1.2.2.2.2 _ hl) (fun _ h => h) hdg kk
theorem zWlen (Cx : sC G p m c cc nL s args own) (h0 : sW G n S0 s.heap) (hW : sW G n S H) (hL : sL G locs) (hdg : decode cc pc = .ok (.arraylength, 1)) (kk : W p l e R s m args below meth c H locs cells slots Q (F0 m (pc + 1) ls (.int (iv 9) :: rest))) : W p l e R s m args below meth c H locs cells slots Q (F0 m pc ls (.ref (G.1.2 102 0) :: rest)) :=
  va_tlen (v := iv 9) Cx.1.1 Cx.1.2.1 (Cx.2.2.2.2.2.1.2.kept h0.old) (h0.wS hW hL) rfl hdg kk
theorem zWat (Cx : sC G p m c cc nL s args own) (h0 : sW G n S0 s.heap) (hW : sW G n S H) (hL : sL G locs) {k : Int} (hk : 0 ≤ k ∧ k < 9) (hdg : decode cc pc = .ok (.laload, 1)) (kk : ∀ z : Int, -9223372036854775808 ≤ z → z ≤ 9223372036854775807 → W p l e R s m args below meth c H locs cells slots Q (F0 m (pc + 1) ls (.long (jv z) :: rest))) : W p l e R s m args below meth c H locs cells slots Q (F0 m pc ls (.int (iv k) :: .ref (G.1.2 102 0) :: rest)) := by
  obtain ⟨z, e1, h1, h2⟩ := jv_of (jv (wordsL.getD (iv k).toNatClampNeg 0))
  exact va_tl (v := .long (jv (wordsL.getD (iv k).toNatClampNeg 0))) Cx.1.1 Cx.1.2.1 (Cx.2.2.2.2.2.1.2.kept h0.old) (h0.wS hW hL) (iv_in hk.1 hk.2 (by omega)) rfl hdg (by rw [e1]; exact kk z h1 h2)
theorem sh8 (x : Int64) : x <<< ((iv 8).toInt64 &&& 63) = x * 256 := by
  have e : ((iv 8).toInt64 &&& 63) = 8 := by decide
  rw [e]
  apply Int64.toBitVec_inj.mp
  rw [Int64.toBitVec_shiftLeft, Int64.toBitVec_mul]
  have : (8 : Int64).toBitVec.smod 64 = (8 : BitVec 64) := by decide
  rw [this]
  show x.toBitVec <<< (8 : BitVec 64).toNat = _
  rw [show (8 : BitVec 64).toNat = 8 from rfl, BitVec.shiftLeft_eq_mul_twoPow]
  rfl
theorem or8 (a b : Int) (h0 : 0 ≤ b) (h1 : b ≤ 255) : Int64.ofInt (a * 256) ||| Int64.ofInt b = Int64.ofInt (a * 256 + b) := by
  rw [Int64.ofInt_add, Int64.ofInt_mul]
  apply Int64.toBitVec_inj.mp
  rw [Int64.toBitVec_or, Int64.toBitVec_add, Int64.toBitVec_mul]
  have e : (Int64.ofInt a).toBitVec * (Int64.ofInt 256).toBitVec = (Int64.ofInt a).toBitVec <<< 8 := by
    rw [BitVec.shiftLeft_eq_mul_twoPow]; rfl
  rw [e]
  symm
  apply BitVec.add_eq_or_of_and_eq_zero
  obtain ⟨n, rfl⟩ : ∃ n : Nat, b = n := ⟨b.toNat, by omega⟩
  apply BitVec.eq_of_getLsbD_eq
  intro i hi
  rw [BitVec.getLsbD_and, BitVec.getLsbD_shiftLeft]
  by_cases hi8 : i < 8
  · simp [hi8]
  · have : (Int64.ofInt (n : Int)).toBitVec.getLsbD i = false := by
      show (BitVec.ofInt 64 (n : Int)).getLsbD i = false
      rw [BitVec.ofInt_natCast, BitVec.getLsbD_ofNat]
      have : n.testBit i = false := Nat.testBit_lt_two_pow (Nat.lt_of_lt_of_le (by omega : n < 2 ^ 8) (Nat.pow_le_pow_right (by decide) (by omega)))
      simp [this]
    rw [this]; simp
theorem r_lshl8 (hx : p.tables.exec = Jvm.exec) (hb : c.code = cc) {a : Int} (hdg : decode cc pc = .ok (.lshl, 1)) (kk : W p l e R s m args below meth c H locs cells slots Q (F0 m (pc + 1) ls (.long (jv (a * 256)) :: rest))) : W p l e R s m args below meth c H locs cells slots Q (F0 m pc ls (.int (iv 8) :: .long (jv a) :: rest)) :=
  lv_lshl hx hb hdg ((sh8 (jv a)).trans (Int64.ofInt_mul a 256).symm) kk
theorem jv_n (a : Int) : ∃ z q : Int, jv a = jv z ∧ -9223372036854775808 ≤ z ∧ z ≤ 9223372036854775807 ∧ z = a + 18446744073709551616 * q := by
  have h := (Int64.toInt_ofInt (n := a))
  have h1 := (Int64.ofInt a).le_toInt
  have h2 := (Int64.ofInt a).toInt_lt
  have e := (Int64.ofInt_toInt (Int64.ofInt a)).symm
  obtain ⟨q, hq⟩ : ∃ q : Int, (a.bmod Int64.size) = a + 18446744073709551616 * q := by
    rw [show Int64.size = 18446744073709551616 from rfl]
    unfold Int.bmod; simp only []; split
    · exact ⟨-(a / 18446744073709551616), by omega⟩
    · exact ⟨-(a / 18446744073709551616) - 1, by omega⟩
  exact ⟨_, q, e, by omega, by omega, h.trans hq⟩
theorem r_lor8 (hx : p.tables.exec = Jvm.exec) (hb : c.code = cc) {a b : Int} (h0 : 0 ≤ b ∧ b ≤ 255) (hdg : decode cc pc = .ok (.lor, 1)) (kk : ∀ z q : Int, -9223372036854775808 ≤ z → z ≤ 9223372036854775807 → z = a * 256 + b + 18446744073709551616 * q → W p l e R s m args below meth c H locs cells slots Q (F0 m (pc + 1) ls (.long (jv z) :: rest))) : W p l e R s m args below meth c H locs cells slots Q (F0 m pc ls (.long (jv b) :: .long (jv (a * 256)) :: rest)) := by
  obtain ⟨z, q, e1, h1, h2, h3⟩ := jv_n (a * 256 + b)
  refine lv_lor hx hb hdg ?_
  have e2 : jv (a * 256) ||| jv b = jv z := (or8 a b h0.1 h0.2).trans e1
  rw [e2]; exact kk z q h1 h2 h3
def lb (v : Int) : Prop := v % 4294967296 ≤ 2054847098
/-- all tokens are good ones -/
def SA (S : sS) : Prop := ∀ j, 0 ≤ j → j < S.1 12 3 → 2 ≤ S.2.1 13 j ∧ lb (S.2.2.1 15 j)
/-- END and BAD can only be the last; a token that isn't BAD has a good value -/
def SE (S : sS) : Prop := ∀ j, 0 ≤ j → j < S.1 12 3 → (S.2.1 13 j ≤ 1 → j = S.1 12 3 - 1) ∧ (S.2.1 13 j ≠ 1 → lb (S.2.2.1 15 j))
def SQ (S : sS) : Prop := SE S ∧ (SA S ∨ (0 < S.1 12 3 ∧ S.2.1 13 (S.1 12 3 - 1) = 1))
theorem SA.toE {S : sS} (h : SA S) : SE S := fun j j0 j1 => ⟨fun q => absurd (h j j0 j1).1 (by omega), fun _ => (h j j0 j1).2⟩
theorem SA.q {S : sS} (h : SA S) : SQ S := ⟨h.toE, .inl h⟩
theorem SQ.a {S : sS} (h : SQ S) (hn : ¬ (0 < S.1 12 3 ∧ S.2.1 13 (S.1 12 3 - 1) = 1)) : SA S := h.2.resolve_right hn
theorem SA.fr {S u : sS} {P : pS} (f : Fr S u P) (h1 : P 12 = false) (h2 : P 13 = false) (h3 : P 15 = false) (h : SA S) : SA u := fun j j0 j1 => by
  rw [(f 12 h1).1] at j1
  rw [(f 13 h2).2.1, (f 15 h3).2.2.1]
  exact h j j0 j1
theorem tok_s {S u : sS} {kd v : Int} (h : SA S) (h0 : 0 ≤ S.1 12 3) (hv : kd ≠ 1 → lb v) (e3 : u.1 12 3 = S.1 12 3 + 1) (e13 : ∀ j, u.2.1 13 j = if j = S.1 12 3 then kd else S.2.1 13 j) (e15 : ∀ j, u.2.2.1 15 j = if j = S.1 12 3 then v else S.2.2.1 15 j) : SE u ∧ (2 ≤ kd → SA u) ∧ (kd = 1 → SQ u) := by
  have hE : SE u := fun j j0 j1 => by
    rw [e3] at j1 ⊢; rw [e13, e15]
    by_cases q : j = S.1 12 3
    · rw [if_pos q, if_pos q]; exact ⟨fun _ => by omega, hv⟩
    · rw [if_neg q, if_neg q]; have := h j j0 (by omega); exact ⟨fun _ => by omega, fun _ => this.2⟩
  refine ⟨hE, fun k2 j j0 j1 => ?_, fun k1 => ⟨hE, .inr ⟨by omega, ?_⟩⟩⟩
  · rw [e3] at j1; rw [e13, e15]
    by_cases q : j = S.1 12 3
    · rw [if_pos q, if_pos q]; exact ⟨k2, hv (by omega)⟩
    · rw [if_neg q, if_neg q]; exact h j j0 (by omega)
  · rw [e13, e3, if_pos (by omega)]; exact k1
theorem lb0 : lb 0 := by unfold lb; decide
theorem lb_i {v : Int} (h : 0 ≤ v ∧ v ≤ 2054847098) : lb v := by unfold lb; omega
theorem nm_st {a b z q : Int} (h : a % 256 ≤ 122 ∧ a % 65536 ≤ 31354 ∧ a % 16777216 ≤ 8026746 ∧ a % 4294967296 ≤ 2054847098) (hb : 0 ≤ b ∧ b ≤ 122) (e : z = a * 256 + b + 18446744073709551616 * q) : z % 256 ≤ 122 ∧ z % 65536 ≤ 31354 ∧ z % 16777216 ≤ 8026746 ∧ z % 4294967296 ≤ 2054847098 := by omega
theorem tok_q {u : sS} {k : Int} (h : SE u ∧ (2 ≤ k → SA u) ∧ (k = 1 → SQ u)) (hk : 2 ≤ k ∨ k = 1) : SQ u := hk.elim (fun q => (h.2.1 q).q) h.2.2
theorem SA0 {S : sS} (h : S.1 12 3 = 0) : SA S := fun j j0 j1 => absurd j1 (by omega)
theorem iv_n (a : Int) : ∃ z : Int, iv a = iv z ∧ -2147483648 ≤ z ∧ z ≤ 2147483647 ∧ (-2147483648 ≤ a → a ≤ 2147483647 → z = a) := by
  by_cases h : -2147483648 ≤ a ∧ a ≤ 2147483647
  · exact ⟨a, rfl, h.1, h.2, fun _ _ => rfl⟩
  · obtain ⟨z, e1, h1, h2⟩ := iv_of (iv a)
    exact ⟨z, e1, h1, h2, fun q1 q2 => absurd ⟨q1, q2⟩ h⟩
end SYN3
def pQ (k : Nat) : Bool := rgB 12 15 k
theorem pQ_C : ∀ k, pQ k = true → pC k = true := fun k h => by
  have := rgB_t h
  simp [pC, rgB_i (a := 3) (b := 230) (k := k) ⟨by omega, by omega⟩]
theorem txt_pQ {t N : Nat} (h : txt t N) : pQ t = false ∧ pQ (t + 1) = false := by
  have a : ∀ t, t < 231 → tau t = .inl 10 → pQ t = false ∧ pQ (t + 1) = false := by decide +kernel
  exact a t h.1 h.2.1
def kd (S : sS) (t : Int) : Int := if 0 ≤ t ∧ t < S.1 12 3 then S.2.1 13 t else 0
set_option maxRecDepth 100000 in
set_option maxHeartbeats 4000000 in
theorem s_X8_isLetter (l : Launch) (G : sG) (S : sS) {k : Int} (hk : -2147483648 ≤ k ∧ k ≤ 2147483647) : Met l yX8_isLetter (.code yX8_isLetter cX8_isLetter 1 (some .boolean) :: tb) (rmk 1 0 0) (sPc G 294 S [.int (iv k)]) (sQi G 294 (fun r u => u = S ∧ ((0 ≤ r ∧ r ≤ 1) ∧ (r = 1 → 65 ≤ k ∧ k ≤ 122)))) 0 0 (sF G) := by
  refine sEnter (by decide) (Nat.le_of_ble_eq_true rfl) ?_
  intro p e s m args below meth c Cx hr hlk hnm hW ls hl
  have Cx : sC G p m c cX8_isLetter 1 s args RX8 := Cx
  obtain ⟨hx, hb, hml, hown, hts⟩ := id Cx.1
  have hL : sL G [] := sL_nil
  have hl : lv_has ls 1 [(0, .int (iv k))] := hl
  have hW0 := hW
  refine lv_iload_n hx hb dX8_isLetter_0 rfl (lv_at hl 0 rfl) ?_
  refine lv_bipush (v := iv 97) hx hb dX8_isLetter_1 (by decide) ?_
  refine r_icmp_lt (tgt := 12) hx hb ⟨(by omega), (by omega)⟩ ⟨(by omega), (by omega)⟩ dX8_isLetter_3 (by decide) (fun c_1 => ?_) (fun c_1 => ?_)
  · refine lv_iload_n hx hb dX8_isLetter_12 rfl (lv_at hl 0 rfl) ?_
    refine lv_bipush (v := iv 65) hx hb dX8_isLetter_13 (by decide) ?_
    refine r_icmp_lt (tgt := 28) hx hb ⟨(by omega), (by omega)⟩ ⟨(by omega), (by omega)⟩ dX8_isLetter_15 (by decide) (fun c_2 => ?_) (fun c_2 => ?_)
    · refine lv_iconst (v := iv 0) hx hb dX8_isLetter_28 (by decide) ?_
      exact sZret Cx hr hlk hW hL (by omega) ⟨rfl, (by omega)⟩ dX8_isLetter_29
    · refine lv_iload_n hx hb dX8_isLetter_18 rfl (lv_at hl 0 rfl) ?_
      refine lv_bipush (v := iv 90) hx hb dX8_isLetter_19 (by decide) ?_
      refine r_icmp_gt (tgt := 28) hx hb ⟨(by omega), (by omega)⟩ ⟨(by omega), (by omega)⟩ dX8_isLetter_21 (by decide) (fun c_3 => ?_) (fun c_3 => ?_)
      · refine lv_iconst (v := iv 0) hx hb dX8_isLetter_28 (by decide) ?_
        exact sZret Cx hr hlk hW hL (by omega) ⟨rfl, (by omega)⟩ dX8_isLetter_29
      · refine lv_iconst (v := iv 1) hx hb dX8_isLetter_24 (by decide) ?_
        refine lv_goto (tgt := 29) hx hb dX8_isLetter_25 (by decide) ?_
        exact sZret Cx hr hlk hW hL (by omega) ⟨rfl, (by omega)⟩ dX8_isLetter_29
  · refine lv_iload_n hx hb dX8_isLetter_6 rfl (lv_at hl 0 rfl) ?_
    refine lv_bipush (v := iv 122) hx hb dX8_isLetter_7 (by decide) ?_
    refine r_icmp_le (tgt := 24) hx hb ⟨(by omega), (by omega)⟩ ⟨(by omega), (by omega)⟩ dX8_isLetter_9 (by decide) (fun c_4 => ?_) (fun c_4 => ?_)
    · refine lv_iconst (v := iv 1) hx hb dX8_isLetter_24 (by decide) ?_
      refine lv_goto (tgt := 29) hx hb dX8_isLetter_25 (by decide) ?_
      exact sZret Cx hr hlk hW hL (by omega) ⟨rfl, (by omega)⟩ dX8_isLetter_29
    · refine lv_iload_n hx hb dX8_isLetter_12 rfl (lv_at hl 0 rfl) ?_
      refine lv_bipush (v := iv 65) hx hb dX8_isLetter_13 (by decide) ?_
      refine r_icmp_lt (tgt := 28) hx hb ⟨(by omega), (by omega)⟩ ⟨(by omega), (by omega)⟩ dX8_isLetter_15 (by decide) (fun c_5 => ?_) (fun c_5 => ?_)
      · refine lv_iconst (v := iv 0) hx hb dX8_isLetter_28 (by decide) ?_
        exact sZret Cx hr hlk hW hL (by omega) ⟨rfl, (by omega)⟩ dX8_isLetter_29
      · refine lv_iload_n hx hb dX8_isLetter_18 rfl (lv_at hl 0 rfl) ?_
        refine lv_bipush (v := iv 90) hx hb dX8_isLetter_19 (by decide) ?_
        refine r_icmp_gt (tgt := 28) hx hb ⟨(by omega), (by omega)⟩ ⟨(by omega), (by omega)⟩ dX8_isLetter_21 (by decide) (fun c_6 => ?_) (fun c_6 => ?_)
        · refine lv_iconst (v := iv 0) hx hb dX8_isLetter_28 (by decide) ?_
          exact sZret Cx hr hlk hW hL (by omega) ⟨rfl, (by omega)⟩ dX8_isLetter_29
        · refine lv_iconst (v := iv 1) hx hb dX8_isLetter_24 (by decide) ?_
          refine lv_goto (tgt := 29) hx hb dX8_isLetter_25 (by decide) ?_
          exact sZret Cx hr hlk hW hL (by omega) ⟨rfl, (by omega)⟩ dX8_isLetter_29

set_option maxRecDepth 100000 in
set_option maxHeartbeats 4000000 in
theorem s_X8_isDigit (l : Launch) (G : sG) (S : sS) {k : Int} (hk : -2147483648 ≤ k ∧ k ≤ 2147483647) : Met l yX8_isDigit (.code yX8_isDigit cX8_isDigit 1 (some .boolean) :: tb) (rmk 1 0 0) (sPc G 294 S [.int (iv k)]) (sQi G 294 (fun r u => u = S ∧ ((0 ≤ r ∧ r ≤ 1) ∧ ((r = 1 → 48 ≤ k ∧ k ≤ 57) ∧ (r = 0 → ¬ (48 ≤ k ∧ k ≤ 57)))))) 0 0 (sF G) := by
  refine sEnter (by decide) (Nat.le_of_ble_eq_true rfl) ?_
  intro p e s m args below meth c Cx hr hlk hnm hW ls hl
  have Cx : sC G p m c cX8_isDigit 1 s args RX8 := Cx
  obtain ⟨hx, hb, hml, hown, hts⟩ := id Cx.1
  have hL : sL G [] := sL_nil
  have hl : lv_has ls 1 [(0, .int (iv k))] := hl
  have hW0 := hW
  refine lv_iload_n hx hb dX8_isDigit_0 rfl (lv_at hl 0 rfl) ?_
  refine lv_bipush (v := iv 48) hx hb dX8_isDigit_1 (by decide) ?_
  refine r_icmp_lt (tgt := 16) hx hb ⟨(by omega), (by omega)⟩ ⟨(by omega), (by omega)⟩ dX8_isDigit_3 (by decide) (fun c_1 => ?_) (fun c_1 => ?_)
  · refine lv_iconst (v := iv 0) hx hb dX8_isDigit_16 (by decide) ?_
    exact sZret Cx hr hlk hW hL (by omega) ⟨rfl, (by omega)⟩ dX8_isDigit_17
  · refine lv_iload_n hx hb dX8_isDigit_6 rfl (lv_at hl 0 rfl) ?_
    refine lv_bipush (v := iv 57) hx hb dX8_isDigit_7 (by decide) ?_
    refine r_icmp_gt (tgt := 16) hx hb ⟨(by omega), (by omega)⟩ ⟨(by omega), (by omega)⟩ dX8_isDigit_9 (by decide) (fun c_2 => ?_) (fun c_2 => ?_)
    · refine lv_iconst (v := iv 0) hx hb dX8_isDigit_16 (by decide) ?_
      exact sZret Cx hr hlk hW hL (by omega) ⟨rfl, (by omega)⟩ dX8_isDigit_17
    · refine lv_iconst (v := iv 1) hx hb dX8_isDigit_12 (by decide) ?_
      refine lv_goto (tgt := 17) hx hb dX8_isDigit_13 (by decide) ?_
      exact sZret Cx hr hlk hW hL (by omega) ⟨rfl, (by omega)⟩ dX8_isDigit_17
