/-! Syntax: tokens -/
section SYN3
variable {p : Program} {l : Launch} {e : Env} {R : Room} {s : State} {m : MethodId} {args : Array Value} {below : List Frame} {meth : Method} {c : Code} {H : Heap} {locs : List Loc} {cells slots : Nat} {Q : State → Prop}
variable {cc : ByteArray} {pc nL : Nat} {ls : Array Slot} {rest st0 : List Value} {G : sG} {n : Nat} {S S0 : sS} {own : String}
theorem zWords (Cx : sC G p m c cc nL s args own) (h0 : sW G n S0 s.heap) (hW : sW G n S H) (hL : sL G locs) {index : Nat} (hl : Cond.fieldLink own index "OptimumHouse$Syntax" "WORDS" "[J" ∈ tb) (hdg : decode cc pc = .ok (.getstatic index, 3)) (kk : W p l e R s m args below meth c H locs cells slots Q (F0 m (pc + 3) ls (.ref (G.1.2 102 0) :: rest))) : W p l e R s m args below meth c H locs cells slots Q (F0 m pc ls rest) :=
  va_gets Cx.1.1 Cx.1.2.1 (Cx.2.2.2.2.2.1.1.kept h0.old) (h0.wS hW hL) Cx.1.2.2.2.1 (Cx.1.2.2.2.2 _ hl) (fun _ h => h) hdg kk
theorem zWlen (Cx : sC G p m c cc nL s args own) (h0 : sW G n S0 s.heap) (hW : sW G n S H) (hL : sL G locs) (hdg : decode cc pc = .ok (.arraylength, 1)) (kk : W p l e R s m args below meth c H locs cells slots Q (F0 m (pc + 1) ls (.int (iv 9) :: rest))) : W p l e R s m args below meth c H locs cells slots Q (F0 m pc ls (.ref (G.1.2 102 0) :: rest)) :=
  va_tlen (v := iv 9) Cx.1.1 Cx.1.2.1 (Cx.2.2.2.2.2.1.2.kept h0.old) (h0.wS hW hL) rfl hdg kk
theorem zWat (Cx : sC G p m c cc nL s args own) (h0 : sW G n S0 s.heap) (hW : sW G n S H) (hL : sL G locs) {k : Int} (hk : 0 ≤ k ∧ k < 9) (hdg : decode cc pc = .ok (.laload, 1)) (kk : ∀ z : Int, -9223372036854775808 ≤ z → z ≤ 9223372036854775807 → W p l e R s m args below meth c H locs cells slots Q (F0 m (pc + 1) ls (.long (jv z) :: rest))) : W p l e R s m args below meth c H locs cells slots Q (F0 m pc ls (.int (iv k) :: .ref (G.1.2 102 0) :: rest)) := by
  obtain ⟨z, e1, h1, h2⟩ := jv_of (jv (wordsL.getD (iv k).toNatClampNeg 0))
  exact va_tl (v := .long (jv (wordsL.getD (iv k).toNatClampNeg 0))) Cx.1.1 Cx.1.2.1 (Cx.2.2.2.2.2.1.2.kept h0.old) (h0.wS hW hL) (iv_in hk.1 hk.2 (by omega)) rfl hdg (by rw [e1]; exact kk z h1 h2)
theorem sh8 (x : Int64) : x <<< ((iv 8).toInt64 &&& 63) = x * 256 := by
  have e : ((iv 8).toInt64 &&& 63) = 8 := by decide
  rw [e]
  apply Int64.toBitVec_inj.mp
  rw [Int64.toBitVec_shiftLeft, Int64.toBitVec_mul]
  have : (8 : Int64).toBitVec.smod 64 = (8 : BitVec 64) := by decide
  rw [this]
  show x.toBitVec <<< (8 : BitVec 64).toNat = _
  rw [show (8 : BitVec 64).toNat = 8 from rfl, BitVec.shiftLeft_eq_mul_twoPow]
  rfl
theorem or8 (a b : Int) (h0 : 0 ≤ b) (h1 : b ≤ 255) : Int64.ofInt (a * 256) ||| Int64.ofInt b = Int64.ofInt (a * 256 + b) := by
  rw [Int64.ofInt_add, Int64.ofInt_mul]
  apply Int64.toBitVec_inj.mp
  rw [Int64.toBitVec_or, Int64.toBitVec_add, Int64.toBitVec_mul]
  have e : (Int64.ofInt a).toBitVec * (Int64.ofInt 256).toBitVec = (Int64.ofInt a).toBitVec <<< 8 := by
    rw [BitVec.shiftLeft_eq_mul_twoPow]; rfl
  rw [e]
  symm
  apply BitVec.add_eq_or_of_and_eq_zero
  obtain ⟨n, rfl⟩ : ∃ n : Nat, b = n := ⟨b.toNat, by omega⟩
  apply BitVec.eq_of_getLsbD_eq
  intro i hi
  rw [BitVec.getLsbD_and, BitVec.getLsbD_shiftLeft]
  by_cases hi8 : i < 8
  · simp [hi8]
  · have : (Int64.ofInt (n : Int)).toBitVec.getLsbD i = false := by
      show (BitVec.ofInt 64 (n : Int)).getLsbD i = false
      rw [BitVec.ofInt_natCast, BitVec.getLsbD_ofNat]
      have : n.testBit i = false := Nat.testBit_lt_two_pow (Nat.lt_of_lt_of_le (by omega : n < 2 ^ 8) (Nat.pow_le_pow_right (by decide) (by omega)))
      simp [this]
    rw [this]; simp
theorem r_lshl8 (hx : p.tables.exec = Jvm.exec) (hb : c.code = cc) {a : Int} (hdg : decode cc pc = .ok (.lshl, 1)) (kk : W p l e R s m args below meth c H locs cells slots Q (F0 m (pc + 1) ls (.long (jv (a * 256)) :: rest))) : W p l e R s m args below meth c H locs cells slots Q (F0 m pc ls (.int (iv 8) :: .long (jv a) :: rest)) :=
  lv_lshl hx hb hdg ((sh8 (jv a)).trans (Int64.ofInt_mul a 256).symm) kk
theorem jv_n (a : Int) : ∃ z q : Int, jv a = jv z ∧ -9223372036854775808 ≤ z ∧ z ≤ 9223372036854775807 ∧ z = a + 18446744073709551616 * q := by
  have h := (Int64.toInt_ofInt (n := a))
  have h1 := (Int64.ofInt a).le_toInt
  have h2 := (Int64.ofInt a).toInt_lt
  have e := (Int64.ofInt_toInt (Int64.ofInt a)).symm
  obtain ⟨q, hq⟩ : ∃ q : Int, (a.bmod Int64.size) = a + 18446744073709551616 * q := by
    rw [show Int64.size = 18446744073709551616 from rfl]
    unfold Int.bmod; simp only []; split
    · exact ⟨-(a / 18446744073709551616), by omega⟩
    · exact ⟨-(a / 18446744073709551616) - 1, by omega⟩
  exact ⟨_, q, e, by omega, by omega, h.trans hq⟩
theorem r_lor8 (hx : p.tables.exec = Jvm.exec) (hb : c.code = cc) {a b : Int} (h0 : 0 ≤ b ∧ b ≤ 255) (hdg : decode cc pc = .ok (.lor, 1)) (kk : ∀ z q : Int, -9223372036854775808 ≤ z → z ≤ 9223372036854775807 → z = a * 256 + b + 18446744073709551616 * q → W p l e R s m args below meth c H locs cells slots Q (F0 m (pc + 1) ls (.long (jv z) :: rest))) : W p l e R s m args below meth c H locs cells slots Q (F0 m pc ls (.long (jv b) :: .long (jv (a * 256)) :: rest)) := by
  obtain ⟨z, q, e1, h1, h2, h3⟩ := jv_n (a * 256 + b)
  refine lv_lor hx hb hdg ?_
  have e2 : jv (a * 256) ||| jv b = jv z := (or8 a b h0.1 h0.2).trans e1
  rw [e2]; exact kk z q h1 h2 h3
def lb (v : Int) : Prop := v % 4294967296 ≤ 2054847098
/-- all tokens are good ones -/
def SA (S : sS) : Prop := ∀ j, 0 ≤ j → j < S.1 12 3 → 2 ≤ S.2.1 13 j ∧ lb (S.2.2.1 15 j)
/-- END and BAD can only be the last; a token that isn't BAD has a good value -/
def SE (S : sS) : Prop := ∀ j, 0 ≤ j → j < S.1 12 3 → (S.2.1 13 j ≤ 1 → j = S.1 12 3 - 1) ∧ (S.2.1 13 j ≠ 1 → lb (S.2.2.1 15 j))
def SQ (S : sS) : Prop := SE S ∧ (SA S ∨ (0 < S.1 12 3 ∧ S.2.1 13 (S.1 12 3 - 1) = 1))
theorem SA.toE {S : sS} (h : SA S) : SE S := fun j j0 j1 => ⟨fun q => absurd (h j j0 j1).1 (by omega), fun _ => (h j j0 j1).2⟩
theorem SA.q {S : sS} (h : SA S) : SQ S := ⟨h.toE, .inl h⟩
theorem SQ.a {S : sS} (h : SQ S) (hn : ¬ (0 < S.1 12 3 ∧ S.2.1 13 (S.1 12 3 - 1) = 1)) : SA S := h.2.resolve_right hn
theorem SA.fr {S u : sS} {P : pS} (f : Fr S u P) (h1 : P 12 = false) (h2 : P 13 = false) (h3 : P 15 = false) (h : SA S) : SA u := fun j j0 j1 => by
  rw [(f 12 h1).1] at j1
  rw [(f 13 h2).2.1, (f 15 h3).2.2.1]
  exact h j j0 j1
theorem tok_s {S u : sS} {kd v : Int} (h : SA S) (h0 : 0 ≤ S.1 12 3) (hv : kd ≠ 1 → lb v) (e3 : u.1 12 3 = S.1 12 3 + 1) (e13 : ∀ j, u.2.1 13 j = if j = S.1 12 3 then kd else S.2.1 13 j) (e15 : ∀ j, u.2.2.1 15 j = if j = S.1 12 3 then v else S.2.2.1 15 j) : SE u ∧ (2 ≤ kd → SA u) ∧ (kd = 1 → SQ u) := by
  have hE : SE u := fun j j0 j1 => by
    rw [e3] at j1 ⊢; rw [e13, e15]
    by_cases q : j = S.1 12 3
    · rw [if_pos q, if_pos q]; exact ⟨fun _ => by omega, hv⟩
    · rw [if_neg q, if_neg q]; have := h j j0 (by omega); exact ⟨fun _ => by omega, fun _ => this.2⟩
  refine ⟨hE, fun k2 j j0 j1 => ?_, fun k1 => ⟨hE, .inr ⟨by omega, ?_⟩⟩⟩
  · rw [e3] at j1; rw [e13, e15]
    by_cases q : j = S.1 12 3
    · rw [if_pos q, if_pos q]; exact ⟨k2, hv (by omega)⟩
    · rw [if_neg q, if_neg q]; exact h j j0 (by omega)
  · rw [e13, e3, if_pos (by omega)]; exact k1
theorem lb0 : lb 0 := by unfold lb; decide
theorem lb_i {v : Int} (h : 0 ≤ v ∧ v ≤ 2054847098) : lb v := by unfold lb; omega
theorem nm_st {a b z q : Int} (h : a % 256 ≤ 122 ∧ a % 65536 ≤ 31354 ∧ a % 16777216 ≤ 8026746 ∧ a % 4294967296 ≤ 2054847098) (hb : 0 ≤ b ∧ b ≤ 122) (e : z = a * 256 + b + 18446744073709551616 * q) : z % 256 ≤ 122 ∧ z % 65536 ≤ 31354 ∧ z % 16777216 ≤ 8026746 ∧ z % 4294967296 ≤ 2054847098 := by omega
theorem tok_q {u : sS} {k : Int} (h : SE u ∧ (2 ≤ k → SA u) ∧ (k = 1 → SQ u)) (hk : 2 ≤ k ∨ k = 1) : SQ u := hk.elim (fun q => (h.2.1 q).q) h.2.2
theorem SA0 {S : sS} (h : S.1 12 3 = 0) : SA S := fun j j0 j1 => absurd j1 (by omega)
theorem iv_n (a : Int) : ∃ z : Int, iv a = iv z ∧ -2147483648 ≤ z ∧ z ≤ 2147483647 ∧ (-2147483648 ≤ a → a ≤ 2147483647 → z = a) := by
  by_cases h : -2147483648 ≤ a ∧ a ≤ 2147483647
  · exact ⟨a, rfl, h.1, h.2, fun _ _ => rfl⟩
  · obtain ⟨z, e1, h1, h2⟩ := iv_of (iv a)
    exact ⟨z, e1, h1, h2, fun q1 q2 => absurd ⟨q1, q2⟩ h⟩
end SYN3
def pQ (k : Nat) : Bool := rgB 12 15 k
theorem pQ_C : ∀ k, pQ k = true → pC k = true := fun k h => by
  have := rgB_t h
  simp [pC, rgB_i (a := 3) (b := 230) (k := k) ⟨by omega, by omega⟩]
theorem txt_pQ {t N : Nat} (h : txt t N) : pQ t = false ∧ pQ (t + 1) = false := by
  have a : ∀ t, t < 231 → tau t = .inl 10 → pQ t = false ∧ pQ (t + 1) = false := by decide +kernel
  exact a t h.1 h.2.1
def kd (S : sS) (t : Int) : Int := if 0 ≤ t ∧ t < S.1 12 3 then S.2.1 13 t else 0
set_option maxRecDepth 100000 in
set_option maxHeartbeats 4000000 in
theorem s_J1_indexOfChar_y (l : Launch) (G : sG) (S : sS) {si : Nat} {k f n : Int} (hsi : si < 38) (hk : -2147483648 ≤ k ∧ k ≤ 2147483647) (hf : 0 ≤ f ∧ f ≤ n ∧ n ≤ (strN.getD si 0 : Nat)) : Met l yJ1_indexOfChar_4cfef (.code yJ1_indexOfChar_4cfef cJ1_indexOfChar_4cfef 6 (some .int) :: tb) (rmk 1 0 0) (sPc G 294 S [.ref (G.1.2 101 si), .int (iv k), .int (iv f), .int (iv n)]) (sQi G 294 (fun r u => u = S ∧ (-1 ≤ r ∧ r < (strN.getD si 0 : Nat)))) 0 0 (sF G) := by
  refine sEnterF (by decide) (Nat.le_of_ble_eq_true rfl) ?_
  intro p e s m args below meth c Cx hr hlk hnm hW ls hl
  have Cx : sC G p m c cJ1_indexOfChar_4cfef 6 s args RJ1 := Cx
  obtain ⟨hx, hb, hml, hown, hts⟩ := id Cx.1
  have hL : sL G [] := sL_nil
  have hl : lv_has ls 6 [(0, .ref (G.1.2 101 si)), (1, .int (iv k)), (2, .int (iv f)), (3, .int (iv n))] := hl
  have hW0 := hW
  have hnr := strN_r si hsi
  refine lv_iload_n hx hb dJ1_indexOfChar_4cfef_0 rfl (lv_at hl 1 rfl) ?_
  refine r_i2b hx hb dJ1_indexOfChar_4cfef_1 (fun z_1 hz_1 kz_1 => ?_)
  refine lv_istore (lv' := [(4, .int (iv z_1)), (0, .ref (G.1.2 101 si)), (1, .int (iv k)), (2, .int (iv f)), (3, .int (iv n))]) hx hb dJ1_indexOfChar_4cfef_2 hl (by decide) rfl (fun ls hl => ?_)
  refine lv_iload_n hx hb dJ1_indexOfChar_4cfef_4 rfl (lv_at hl 3 rfl) ?_
  refine lv_istore (lv' := [(5, .int (iv f)), (4, .int (iv z_1)), (0, .ref (G.1.2 101 si)), (1, .int (iv k)), (2, .int (iv f)), (3, .int (iv n))]) hx hb dJ1_indexOfChar_4cfef_5 hl (by decide) rfl (fun ls hl => ?_)
  have loop_7 : ∀ (fuel : Nat) (i : Int) (H : Heap) (locs : List Loc) (ls : Array Slot), (n - i).toNat < fuel → (0 ≤ i ∧ i ≤ n) → sW G 294 S H → sL G locs → lv_has ls 6 [(5, .int (iv i)), (4, .int (iv z_1)), (0, .ref (G.1.2 101 si)), (1, .int (iv k)), (2, .int (iv f)), (3, .int (iv n))] → W p l e (rmk 1 0 0) s m args below meth c H locs 0 0 (MQ below (sQi G 294 (fun r u => u = S ∧ (-1 ≤ r ∧ r < (strN.getD si 0 : Nat)))) args s 0 0 (sF G)) (F0 m 7 ls []) := by
    intro fuel
    induction fuel with
    | zero => intro i H locs ls hmeas hi hW hL hl; exact absurd hmeas (Nat.not_lt_zero _)
    | succ fuel ih_7 =>
      intro i H locs ls hmeas hi hW hL hl
      refine lv_iload hx hb dJ1_indexOfChar_4cfef_7 (lv_at hl 0 rfl) ?_
      refine lv_iload_n hx hb dJ1_indexOfChar_4cfef_9 rfl (lv_at hl 5 rfl) ?_
      refine r_icmp_ge (tgt := 31) hx hb ⟨(by omega), (by omega)⟩ ⟨(by omega), (by omega)⟩ dJ1_indexOfChar_4cfef_10 (by decide) (fun c_2 => ?_) (fun c_2 => ?_)
      · refine lv_iconst (v := iv (-1)) hx hb dJ1_indexOfChar_4cfef_31 (by decide) ?_
        exact sIret Cx hr hlk hW hL ⟨rfl, (by omega)⟩ dJ1_indexOfChar_4cfef_32
      · refine lv_aload_n hx hb dJ1_indexOfChar_4cfef_13 rfl (lv_at hl 2 rfl) ?_
        refine lv_iload hx hb dJ1_indexOfChar_4cfef_14 (lv_at hl 0 rfl) ?_
        refine zByte Cx hW0 hW hL (i := si) hsi ⟨(by omega), (by omega)⟩ dJ1_indexOfChar_4cfef_16 (fun z_3 hz_3 kz_3 => ?_)
        refine lv_iload hx hb dJ1_indexOfChar_4cfef_17 (lv_at hl 1 rfl) ?_
        refine r_icmp_ne (tgt := 25) hx hb ⟨(by omega), (by omega)⟩ ⟨(by omega), (by omega)⟩ dJ1_indexOfChar_4cfef_19 (by decide) (fun c_4 => ?_) (fun c_4 => ?_)
        · refine lv_iinc (v := iv (i + 1)) (lv' := [(5, .int (iv (i + 1))), (4, .int (iv z_1)), (0, .ref (G.1.2 101 si)), (1, .int (iv k)), (2, .int (iv f)), (3, .int (iv n))]) hx hb dJ1_indexOfChar_4cfef_25 hl (k := 0) rfl ((Int32.ofInt_add _ _).symm) (by decide) rfl (fun ls hl => ?_)
          refine lv_goto (tgt := 7) hx hb dJ1_indexOfChar_4cfef_28 (by decide) ?_
          exact ih_7 (i + 1) _ _ _ (by omega) (by omega) hW hL (lv_sub hl [0, 1, 2, 3, 4, 5] rfl)
        · refine lv_iload hx hb dJ1_indexOfChar_4cfef_22 (lv_at hl 0 rfl) ?_
          exact sIret Cx hr hlk hW hL ⟨rfl, (by omega)⟩ dJ1_indexOfChar_4cfef_24
  exact loop_7 (_ + 1) f _ _ _ (Nat.lt_succ_self _) (by omega) hW hL (lv_sub hl [0, 1, 2, 3, 4, 5] rfl)

set_option maxRecDepth 100000 in
set_option maxHeartbeats 4000000 in
theorem s_J1_indexOf_y (l : Launch) (G : sG) (S : sS) {si : Nat} {k n : Int} (hsi : si < 38) (hk : -2147483648 ≤ k ∧ k ≤ 2147483647) (hf : 0 ≤ n ∧ n ≤ (strN.getD si 0 : Nat)) : Met l yJ1_indexOf_4cfef (.code yJ1_indexOf_4cfef cJ1_indexOf_4cfef 4 (some .int) :: tb) (rmk 2 0 0) (sPc G 294 S [.ref (G.1.2 101 si), .int (iv k), .int (iv 0), .int (iv n)]) (sQi G 294 (fun r u => u = S ∧ (-1 ≤ r ∧ r < (strN.getD si 0 : Nat)))) 0 0 (sF G) := by
  refine sEnterF (by decide) (Nat.le_of_ble_eq_true rfl) ?_
  intro p e s m args below meth c Cx hr hlk hnm hW ls hl
  have Cx : sC G p m c cJ1_indexOf_4cfef 4 s args RJ1 := Cx
  obtain ⟨hx, hb, hml, hown, hts⟩ := id Cx.1
  have hL : sL G [] := sL_nil
  have hl : lv_has ls 4 [(0, .ref (G.1.2 101 si)), (1, .int (iv k)), (2, .int (iv 0)), (3, .int (iv n))] := hl
  have hW0 := hW
  have hnr := strN_r si hsi
  refine lv_iload_n hx hb dJ1_indexOf_4cfef_0 rfl (lv_at hl 1 rfl) ?_
  refine sBi (sSt (As := [.int (iv k)]) (rest := []) Cx (s_J1_canEncode_9a6ad l G S (k := k) (by omega)) (c_J1_88 Cx rfl rfl (rmk_ok (by omega) (by decide))) hW rfl hl.1 rfl (Nat.le_of_ble_eq_true rfl) dJ1_indexOf_4cfef_1 ⟨Nat.le_of_ble_eq_true rfl, Nat.le_of_ble_eq_true rfl⟩) hL (fun r_3 u_1 H locs k_2 hW hL => ?_)
  obtain ⟨eu_1, xu_1⟩ := k_2
  rw [eu_1] at hW
  refine r_if_ne (tgt := 9) hx hb ⟨(by omega), (by omega)⟩ dJ1_indexOf_4cfef_4 (by decide) (fun c_4 => ?_) (fun c_4 => ?_)
  · refine lv_iload_n hx hb dJ1_indexOf_4cfef_9 rfl (lv_at hl 2 rfl) ?_
    refine lv_iconst (v := iv 0) hx hb dJ1_indexOf_4cfef_10 (by decide) ?_
    refine r_max hx hb (hml.trans hl.1.symm) hown (hts _ w_839) (hts _ w_242) (hts _ w_206) (hts _ w_243) (rmk_f (by omega)) (rmk_l (by omega) (Nat.le_of_ble_eq_true rfl)) (Nat.le_of_ble_eq_true rfl) (Nat.le_of_ble_eq_true rfl) ⟨(by omega), (by omega)⟩ ⟨(by omega), (by omega)⟩ dJ1_indexOf_4cfef_11 (fun z_5 hz_5 => ?_)
    refine lv_istore_n (lv' := [(2, .int (iv z_5)), (0, .ref (G.1.2 101 si)), (1, .int (iv k)), (3, .int (iv n))]) hx hb dJ1_indexOf_4cfef_14 rfl hl (by decide) rfl (fun ls hl => ?_)
    refine lv_iload_n hx hb dJ1_indexOf_4cfef_15 rfl (lv_at hl 3 rfl) ?_
    refine lv_aload_n hx hb dJ1_indexOf_4cfef_16 rfl (lv_at hl 1 rfl) ?_
    refine zLen Cx hW0 hW hL (i := si) hsi dJ1_indexOf_4cfef_17 ?_
    refine r_min hx hb (hml.trans hl.1.symm) hown (hts _ w_840) (hts _ w_777) (hts _ w_206) (hts _ w_778) (rmk_f (by omega)) (rmk_l (by omega) (Nat.le_of_ble_eq_true rfl)) (Nat.le_of_ble_eq_true rfl) (Nat.le_of_ble_eq_true rfl) ⟨(by omega), (by omega)⟩ ⟨(by omega), (by omega)⟩ dJ1_indexOf_4cfef_18 (fun z_6 hz_6 => ?_)
    refine lv_istore_n (lv' := [(3, .int (iv z_6)), (2, .int (iv z_5)), (0, .ref (G.1.2 101 si)), (1, .int (iv k))]) hx hb dJ1_indexOf_4cfef_21 rfl hl (by decide) rfl (fun ls hl => ?_)
    refine lv_iload_n hx hb dJ1_indexOf_4cfef_22 rfl (lv_at hl 1 rfl) ?_
    refine lv_iload_n hx hb dJ1_indexOf_4cfef_23 rfl (lv_at hl 0 rfl) ?_
    refine r_icmp_lt (tgt := 29) hx hb ⟨(by omega), (by omega)⟩ ⟨(by omega), (by omega)⟩ dJ1_indexOf_4cfef_24 (by decide) (fun c_7 => ?_) (fun c_7 => ?_)
    · refine lv_aload_n hx hb dJ1_indexOf_4cfef_29 rfl (lv_at hl 2 rfl) ?_
      refine lv_iload_n hx hb dJ1_indexOf_4cfef_30 rfl (lv_at hl 3 rfl) ?_
      refine lv_iload_n hx hb dJ1_indexOf_4cfef_31 rfl (lv_at hl 1 rfl) ?_
      refine lv_iload_n hx hb dJ1_indexOf_4cfef_32 rfl (lv_at hl 0 rfl) ?_
      refine sBi (sSt (As := [.ref (G.1.2 101 si), .int (iv k), .int (iv z_5), .int (iv z_6)]) (rest := []) Cx (s_J1_indexOfChar_y l G S (si := si) (k := k) (f := z_5) (n := z_6) hsi (by omega) (by omega)) (c_J1_95 Cx rfl rfl (rmk_ok (by omega) (by decide))) hW rfl hl.1 rfl (Nat.le_of_ble_eq_true rfl) dJ1_indexOf_4cfef_33 ⟨Nat.le_of_ble_eq_true rfl, Nat.le_of_ble_eq_true rfl⟩) hL (fun r_10 u_8 H locs k_9 hW hL => ?_)
      obtain ⟨eu_8, xu_8⟩ := k_9
      rw [eu_8] at hW
      exact sIret Cx hr hlk hW hL ⟨rfl, (by omega)⟩ dJ1_indexOf_4cfef_36
    · refine lv_iconst (v := iv (-1)) hx hb dJ1_indexOf_4cfef_27 (by decide) ?_
      exact sIret Cx hr hlk hW hL ⟨rfl, (by omega)⟩ dJ1_indexOf_4cfef_28
  · refine lv_iconst (v := iv (-1)) hx hb dJ1_indexOf_4cfef_7 (by decide) ?_
    exact sIret Cx hr hlk hW hL ⟨rfl, (by omega)⟩ dJ1_indexOf_4cfef_8

set_option maxRecDepth 100000 in
set_option maxHeartbeats 4000000 in
theorem s_J0_indexOf_y (l : Launch) (G : sG) (S : sS) {si : Nat} {k : Int} (hsi : si < 38) (hk : -2147483648 ≤ k ∧ k ≤ 2147483647) : Met l yJ0_indexOf_7cf53 (.code yJ0_indexOf_7cf53 cJ0_indexOf_7cf53 3 (some .int) :: tb) (rmk 3 0 0) (sPc G 294 S [.ref (G.1.2 100 si), .int (iv k), .int (iv 0)]) (sQi G 294 (fun r u => u = S ∧ (-1 ≤ r ∧ r < (strN.getD si 0 : Nat)))) 0 0 (sF G) := by
  refine sEnterF (by decide) (Nat.le_of_ble_eq_true rfl) ?_
  intro p e s m args below meth c Cx hr hlk hnm hW ls hl
  have Cx : sC G p m c cJ0_indexOf_7cf53 3 s args RJ0 := Cx
  obtain ⟨hx, hb, hml, hown, hts⟩ := id Cx.1
  have hL : sL G [] := sL_nil
  have hl : lv_has ls 3 [(0, .ref (G.1.2 100 si)), (1, .int (iv k)), (2, .int (iv 0))] := hl
  have hW0 := hW
  have hnr := strN_r si hsi
  refine lv_aload_n hx hb dJ0_indexOf_7cf53_0 rfl (lv_at hl 0 rfl) ?_
  refine sBi (sVz (As := []) (rest := []) (a := G.1.2 100 si) Cx (s_J0_isLatin1_aae02 l G S (si := si) hsi) (c_J0_492 Cx rfl rfl (rmk_ok (by omega) (by decide))) hW (zRecv Cx hW0 hW hsi) rfl hl.1 rfl (Nat.le_of_ble_eq_true rfl) dJ0_indexOf_7cf53_1 ⟨Nat.le_of_ble_eq_true rfl, Nat.le_of_ble_eq_true rfl⟩) hL (fun r_3 u_1 H locs k_2 hW hL => ?_)
  obtain ⟨eu_1, xu_1⟩ := k_2
  rw [eu_1] at hW
  refine r_if_eq (tgt := 23) hx hb ⟨(by omega), (by omega)⟩ dJ0_indexOf_7cf53_4 (by decide) (fun c => absurd c (by omega)) (fun _ => ?_)
  refine lv_aload_n hx hb dJ0_indexOf_7cf53_7 rfl (lv_at hl 0 rfl) ?_
  refine zValue Cx hW0 hW hL (i := si) hsi w_2804 dJ0_indexOf_7cf53_8 ?_
  refine lv_iload_n hx hb dJ0_indexOf_7cf53_11 rfl (lv_at hl 1 rfl) ?_
  refine lv_iload_n hx hb dJ0_indexOf_7cf53_12 rfl (lv_at hl 2 rfl) ?_
  refine lv_aload_n hx hb dJ0_indexOf_7cf53_13 rfl (lv_at hl 0 rfl) ?_
  refine sBi (sVz (As := []) (rest := [.int (iv 0), .int (iv k), .ref (G.1.2 101 si)]) (a := G.1.2 100 si) Cx (s_J0_length_8abf5 l G S (si := si) hsi) (c_J0_505 Cx rfl rfl (rmk_ok (by omega) (by decide))) hW (zRecv Cx hW0 hW hsi) rfl hl.1 rfl (Nat.le_of_ble_eq_true rfl) dJ0_indexOf_7cf53_14 ⟨Nat.le_of_ble_eq_true rfl, Nat.le_of_ble_eq_true rfl⟩) hL (fun r_6 u_4 H locs k_5 hW hL => ?_)
  obtain ⟨eu_4, xu_4⟩ := k_5
  rw [eu_4] at hW
  refine sBi (sSt (As := [.ref (G.1.2 101 si), .int (iv k), .int (iv 0), .int (iv r_6)]) (rest := []) Cx (s_J1_indexOf_y l G S (si := si) (k := k) (n := r_6) hsi (by omega) (by omega)) (c_J0_637 Cx rfl rfl (rmk_ok (by omega) (by decide))) hW rfl hl.1 rfl (Nat.le_of_ble_eq_true rfl) dJ0_indexOf_7cf53_17 ⟨Nat.le_of_ble_eq_true rfl, Nat.le_of_ble_eq_true rfl⟩) hL (fun r_9 u_7 H locs k_8 hW hL => ?_)
  obtain ⟨eu_7, xu_7⟩ := k_8
  rw [eu_7] at hW
  refine lv_goto (tgt := 36) hx hb dJ0_indexOf_7cf53_20 (by decide) ?_
  exact sIret Cx hr hlk hW hL ⟨rfl, (by omega)⟩ dJ0_indexOf_7cf53_36

set_option maxRecDepth 100000 in
set_option maxHeartbeats 4000000 in
theorem s_J0_indexOf_z (l : Launch) (G : sG) (S : sS) {si : Nat} {k : Int} (hsi : si < 38) (hk : -2147483648 ≤ k ∧ k ≤ 2147483647) : Met l yJ0_indexOf_0f7a4 (.code yJ0_indexOf_0f7a4 cJ0_indexOf_0f7a4 2 (some .int) :: tb) (rmk 4 0 0) (sPc G 294 S [.ref (G.1.2 100 si), .int (iv k)]) (sQi G 294 (fun r u => u = S ∧ (-1 ≤ r ∧ r < (strN.getD si 0 : Nat)))) 0 0 (sF G) := by
  refine sEnterF (by decide) (Nat.le_of_ble_eq_true rfl) ?_
  intro p e s m args below meth c Cx hr hlk hnm hW ls hl
  have Cx : sC G p m c cJ0_indexOf_0f7a4 2 s args RJ0 := Cx
  obtain ⟨hx, hb, hml, hown, hts⟩ := id Cx.1
  have hL : sL G [] := sL_nil
  have hl : lv_has ls 2 [(0, .ref (G.1.2 100 si)), (1, .int (iv k))] := hl
  have hW0 := hW
  have hnr := strN_r si hsi
  refine lv_aload_n hx hb dJ0_indexOf_0f7a4_0 rfl (lv_at hl 0 rfl) ?_
  refine lv_iload_n hx hb dJ0_indexOf_0f7a4_1 rfl (lv_at hl 1 rfl) ?_
  refine lv_iconst (v := iv 0) hx hb dJ0_indexOf_0f7a4_2 (by decide) ?_
  refine sBi (sVz (As := [.int (iv k), .int (iv 0)]) (rest := []) (a := G.1.2 100 si) Cx (s_J0_indexOf_y l G S (si := si) (k := k) hsi (by omega)) (c_J0_633 Cx rfl rfl (rmk_ok (by omega) (by decide))) hW (zRecv Cx hW0 hW hsi) rfl hl.1 rfl (Nat.le_of_ble_eq_true rfl) dJ0_indexOf_0f7a4_3 ⟨Nat.le_of_ble_eq_true rfl, Nat.le_of_ble_eq_true rfl⟩) hL (fun r_3 u_1 H locs k_2 hW hL => ?_)
  obtain ⟨eu_1, xu_1⟩ := k_2
  rw [eu_1] at hW
  exact sIret Cx hr hlk hW hL ⟨rfl, (by omega)⟩ dJ0_indexOf_0f7a4_6

set_option maxRecDepth 100000 in
set_option maxHeartbeats 4000000 in
theorem s_X8_isLetter (l : Launch) (G : sG) (S : sS) {k : Int} (hk : -2147483648 ≤ k ∧ k ≤ 2147483647) : Met l yX8_isLetter (.code yX8_isLetter cX8_isLetter 1 (some .boolean) :: tb) (rmk 1 0 0) (sPc G 294 S [.int (iv k)]) (sQi G 294 (fun r u => u = S ∧ ((0 ≤ r ∧ r ≤ 1) ∧ (r = 1 → 65 ≤ k ∧ k ≤ 122)))) 0 0 (sF G) := by
  refine sEnter (by decide) (Nat.le_of_ble_eq_true rfl) ?_
  intro p e s m args below meth c Cx hr hlk hnm hW ls hl
  have Cx : sC G p m c cX8_isLetter 1 s args RX8 := Cx
  obtain ⟨hx, hb, hml, hown, hts⟩ := id Cx.1
  have hL : sL G [] := sL_nil
  have hl : lv_has ls 1 [(0, .int (iv k))] := hl
  have hW0 := hW
  refine lv_iload_n hx hb dX8_isLetter_0 rfl (lv_at hl 0 rfl) ?_
  refine lv_bipush (v := iv 97) hx hb dX8_isLetter_1 (by decide) ?_
  refine r_icmp_lt (tgt := 12) hx hb ⟨(by omega), (by omega)⟩ ⟨(by omega), (by omega)⟩ dX8_isLetter_3 (by decide) (fun c_1 => ?_) (fun c_1 => ?_)
  · refine lv_iload_n hx hb dX8_isLetter_12 rfl (lv_at hl 0 rfl) ?_
    refine lv_bipush (v := iv 65) hx hb dX8_isLetter_13 (by decide) ?_
    refine r_icmp_lt (tgt := 28) hx hb ⟨(by omega), (by omega)⟩ ⟨(by omega), (by omega)⟩ dX8_isLetter_15 (by decide) (fun c_2 => ?_) (fun c_2 => ?_)
    · refine lv_iconst (v := iv 0) hx hb dX8_isLetter_28 (by decide) ?_
      exact sZret Cx hr hlk hW hL (by omega) ⟨rfl, (by omega)⟩ dX8_isLetter_29
    · refine lv_iload_n hx hb dX8_isLetter_18 rfl (lv_at hl 0 rfl) ?_
      refine lv_bipush (v := iv 90) hx hb dX8_isLetter_19 (by decide) ?_
      refine r_icmp_gt (tgt := 28) hx hb ⟨(by omega), (by omega)⟩ ⟨(by omega), (by omega)⟩ dX8_isLetter_21 (by decide) (fun c_3 => ?_) (fun c_3 => ?_)
      · refine lv_iconst (v := iv 0) hx hb dX8_isLetter_28 (by decide) ?_
        exact sZret Cx hr hlk hW hL (by omega) ⟨rfl, (by omega)⟩ dX8_isLetter_29
      · refine lv_iconst (v := iv 1) hx hb dX8_isLetter_24 (by decide) ?_
        refine lv_goto (tgt := 29) hx hb dX8_isLetter_25 (by decide) ?_
        exact sZret Cx hr hlk hW hL (by omega) ⟨rfl, (by omega)⟩ dX8_isLetter_29
  · refine lv_iload_n hx hb dX8_isLetter_6 rfl (lv_at hl 0 rfl) ?_
    refine lv_bipush (v := iv 122) hx hb dX8_isLetter_7 (by decide) ?_
    refine r_icmp_le (tgt := 24) hx hb ⟨(by omega), (by omega)⟩ ⟨(by omega), (by omega)⟩ dX8_isLetter_9 (by decide) (fun c_4 => ?_) (fun c_4 => ?_)
    · refine lv_iconst (v := iv 1) hx hb dX8_isLetter_24 (by decide) ?_
      refine lv_goto (tgt := 29) hx hb dX8_isLetter_25 (by decide) ?_
      exact sZret Cx hr hlk hW hL (by omega) ⟨rfl, (by omega)⟩ dX8_isLetter_29
    · refine lv_iload_n hx hb dX8_isLetter_12 rfl (lv_at hl 0 rfl) ?_
      refine lv_bipush (v := iv 65) hx hb dX8_isLetter_13 (by decide) ?_
      refine r_icmp_lt (tgt := 28) hx hb ⟨(by omega), (by omega)⟩ ⟨(by omega), (by omega)⟩ dX8_isLetter_15 (by decide) (fun c_5 => ?_) (fun c_5 => ?_)
      · refine lv_iconst (v := iv 0) hx hb dX8_isLetter_28 (by decide) ?_
        exact sZret Cx hr hlk hW hL (by omega) ⟨rfl, (by omega)⟩ dX8_isLetter_29
      · refine lv_iload_n hx hb dX8_isLetter_18 rfl (lv_at hl 0 rfl) ?_
        refine lv_bipush (v := iv 90) hx hb dX8_isLetter_19 (by decide) ?_
        refine r_icmp_gt (tgt := 28) hx hb ⟨(by omega), (by omega)⟩ ⟨(by omega), (by omega)⟩ dX8_isLetter_21 (by decide) (fun c_6 => ?_) (fun c_6 => ?_)
        · refine lv_iconst (v := iv 0) hx hb dX8_isLetter_28 (by decide) ?_
          exact sZret Cx hr hlk hW hL (by omega) ⟨rfl, (by omega)⟩ dX8_isLetter_29
        · refine lv_iconst (v := iv 1) hx hb dX8_isLetter_24 (by decide) ?_
          refine lv_goto (tgt := 29) hx hb dX8_isLetter_25 (by decide) ?_
          exact sZret Cx hr hlk hW hL (by omega) ⟨rfl, (by omega)⟩ dX8_isLetter_29

set_option maxRecDepth 100000 in
set_option maxHeartbeats 4000000 in
theorem s_X8_isDigit (l : Launch) (G : sG) (S : sS) {k : Int} (hk : -2147483648 ≤ k ∧ k ≤ 2147483647) : Met l yX8_isDigit (.code yX8_isDigit cX8_isDigit 1 (some .boolean) :: tb) (rmk 1 0 0) (sPc G 294 S [.int (iv k)]) (sQi G 294 (fun r u => u = S ∧ ((0 ≤ r ∧ r ≤ 1) ∧ ((r = 1 → 48 ≤ k ∧ k ≤ 57) ∧ (r = 0 → ¬ (48 ≤ k ∧ k ≤ 57)))))) 0 0 (sF G) := by
  refine sEnter (by decide) (Nat.le_of_ble_eq_true rfl) ?_
  intro p e s m args below meth c Cx hr hlk hnm hW ls hl
  have Cx : sC G p m c cX8_isDigit 1 s args RX8 := Cx
  obtain ⟨hx, hb, hml, hown, hts⟩ := id Cx.1
  have hL : sL G [] := sL_nil
  have hl : lv_has ls 1 [(0, .int (iv k))] := hl
  have hW0 := hW
  refine lv_iload_n hx hb dX8_isDigit_0 rfl (lv_at hl 0 rfl) ?_
  refine lv_bipush (v := iv 48) hx hb dX8_isDigit_1 (by decide) ?_
  refine r_icmp_lt (tgt := 16) hx hb ⟨(by omega), (by omega)⟩ ⟨(by omega), (by omega)⟩ dX8_isDigit_3 (by decide) (fun c_1 => ?_) (fun c_1 => ?_)
  · refine lv_iconst (v := iv 0) hx hb dX8_isDigit_16 (by decide) ?_
    exact sZret Cx hr hlk hW hL (by omega) ⟨rfl, (by omega)⟩ dX8_isDigit_17
  · refine lv_iload_n hx hb dX8_isDigit_6 rfl (lv_at hl 0 rfl) ?_
    refine lv_bipush (v := iv 57) hx hb dX8_isDigit_7 (by decide) ?_
    refine r_icmp_gt (tgt := 16) hx hb ⟨(by omega), (by omega)⟩ ⟨(by omega), (by omega)⟩ dX8_isDigit_9 (by decide) (fun c_2 => ?_) (fun c_2 => ?_)
    · refine lv_iconst (v := iv 0) hx hb dX8_isDigit_16 (by decide) ?_
      exact sZret Cx hr hlk hW hL (by omega) ⟨rfl, (by omega)⟩ dX8_isDigit_17
    · refine lv_iconst (v := iv 1) hx hb dX8_isDigit_12 (by decide) ?_
      refine lv_goto (tgt := 17) hx hb dX8_isDigit_13 (by decide) ?_
      exact sZret Cx hr hlk hW hL (by omega) ⟨rfl, (by omega)⟩ dX8_isDigit_17

set_option maxRecDepth 100000 in
set_option maxHeartbeats 4000000 in
theorem s_X8_isNamePart (l : Launch) (G : sG) (S : sS) {k : Int} (hk : -2147483648 ≤ k ∧ k ≤ 2147483647) : Met l yX8_isNamePart (.code yX8_isNamePart cX8_isNamePart 1 (some .boolean) :: tb) (rmk 2 0 0) (sPc G 294 S [.int (iv k)]) (sQi G 294 (fun r u => u = S ∧ ((0 ≤ r ∧ r ≤ 1) ∧ (r = 1 → 48 ≤ k ∧ k ≤ 122)))) 0 0 (sF G) := by
  refine sEnter (by decide) (Nat.le_of_ble_eq_true rfl) ?_
  intro p e s m args below meth c Cx hr hlk hnm hW ls hl
  have Cx : sC G p m c cX8_isNamePart 1 s args RX8 := Cx
  obtain ⟨hx, hb, hml, hown, hts⟩ := id Cx.1
  have hL : sL G [] := sL_nil
  have hl : lv_has ls 1 [(0, .int (iv k))] := hl
  have hW0 := hW
  refine lv_iload_n hx hb dX8_isNamePart_0 rfl (lv_at hl 0 rfl) ?_
  refine sBi (sSt (As := [.int (iv k)]) (rest := []) Cx (s_X8_isLetter l G S (k := k) (by omega)) (c_X8_56 Cx rfl rfl (rmk_ok (by omega) (by decide))) hW rfl hl.1 rfl (Nat.le_of_ble_eq_true rfl) dX8_isNamePart_1 ⟨Nat.le_of_ble_eq_true rfl, Nat.le_of_ble_eq_true rfl⟩) hL (fun r_3 u_1 H locs k_2 hW hL => ?_)
  obtain ⟨eu_1, xu_1⟩ := k_2
  rw [eu_1] at hW
  refine r_if_ne (tgt := 14) hx hb ⟨(by omega), (by omega)⟩ dX8_isNamePart_4 (by decide) (fun c_4 => ?_) (fun c_4 => ?_)
  · refine lv_iconst (v := iv 1) hx hb dX8_isNamePart_14 (by decide) ?_
    refine lv_goto (tgt := 19) hx hb dX8_isNamePart_15 (by decide) ?_
    exact sZret Cx hr hlk hW hL (by omega) ⟨rfl, (by omega)⟩ dX8_isNamePart_19
  · refine lv_iload_n hx hb dX8_isNamePart_7 rfl (lv_at hl 0 rfl) ?_
    refine sBi (sSt (As := [.int (iv k)]) (rest := []) Cx (s_X8_isDigit l G S (k := k) (by omega)) (c_X8_63 Cx rfl rfl (rmk_ok (by omega) (by decide))) hW rfl hl.1 rfl (Nat.le_of_ble_eq_true rfl) dX8_isNamePart_8 ⟨Nat.le_of_ble_eq_true rfl, Nat.le_of_ble_eq_true rfl⟩) hL (fun r_7 u_5 H locs k_6 hW hL => ?_)
    obtain ⟨eu_5, xu_5⟩ := k_6
    rw [eu_5] at hW
    refine r_if_eq (tgt := 18) hx hb ⟨(by omega), (by omega)⟩ dX8_isNamePart_11 (by decide) (fun c_8 => ?_) (fun c_8 => ?_)
    · refine lv_iconst (v := iv 0) hx hb dX8_isNamePart_18 (by decide) ?_
      exact sZret Cx hr hlk hW hL (by omega) ⟨rfl, (by omega)⟩ dX8_isNamePart_19
    · refine lv_iconst (v := iv 1) hx hb dX8_isNamePart_14 (by decide) ?_
      refine lv_goto (tgt := 19) hx hb dX8_isNamePart_15 (by decide) ?_
      exact sZret Cx hr hlk hW hL (by omega) ⟨rfl, (by omega)⟩ dX8_isNamePart_19

set_option maxRecDepth 100000 in
set_option maxHeartbeats 4000000 in
theorem s_X8_token (l : Launch) (G : sG) (S : sS) {kk sr v : Int} (hI : cX G S 0 0 0) (hkk : 0 ≤ kk ∧ kk ≤ 26) (hsr : 0 ≤ sr ∧ sr ≤ 2000) (hvr : -9223372036854775808 ≤ v ∧ v ≤ 9223372036854775807) (hsa : SA S) (hv : kk ≠ 1 → lb v) : Met l yX8_token (.code yX8_token cX8_token 5 none :: tb) (rmk 1 0 0) (sPc G 294 S [.ref (G.2.2.1 + 12), .int (iv kk), .int (iv sr), .long (jv v)]) (sQv G 294 (fun u => cX G u 0 0 0 ∧ Fr S u pQ ∧ (SE u ∧ (2 ≤ kk → SA u) ∧ (kk = 1 → SQ u)))) 0 0 (sF G) := by
  refine sEnter (by decide) (Nat.le_of_ble_eq_true rfl) ?_
  intro p e s m args below meth c Cx hr hlk hnm hW ls hl
  have Cx : sC G p m c cX8_token 5 s args RX8 := Cx
  obtain ⟨hx, hb, hml, hown, hts⟩ := id Cx.1
  have hL : sL G [] := sL_nil
  have hl : lv_has ls 5 [(0, .ref (G.2.2.1 + 12)), (1, .int (iv kk)), (2, .int (iv sr)), (3, .long (jv v))] := hl
  have hW0 := hW
  refine lv_aload_n hx hb dX8_token_0 rfl (lv_at hl 0 rfl) ?_
  have q_1 : 0 ≤ S.1 12 3 ∧ S.1 12 3 ≤ 2001 := hI.fi 12 3 8 (by decide) rfl
  refine g_X8_22 Cx hW (k := 12) (by decide) rfl (v := S.1 12 3) rfl dX8_token_1 ?_
  refine lv_aload_n hx hb dX8_token_4 rfl (lv_at hl 0 rfl) ?_
  refine g_X8_11 Cx hW (k := 12) (by decide) rfl (v := .ref (G.2.2.1 + 13)) (rf_12_0 hI) dX8_token_5 ?_
  refine sAlen Cx hW (k := 13) (by decide) rfl 0 rfl dX8_token_8 ?_
  refine r_icmp_ge (tgt := 52) hx hb ⟨(by omega), (by omega)⟩ ⟨(by omega), (by omega)⟩ dX8_token_9 (by decide) (fun c_2 => ?_) (fun c_2 => ?_)
  · exact sVret Cx hr hlk hW hL ⟨hI, (Fr.rf : Fr S S pQ), ⟨hsa.toE, fun _ => hsa, fun _ => hsa.q⟩⟩ dX8_token_52
  · refine lv_aload_n hx hb dX8_token_12 rfl (lv_at hl 0 rfl) ?_
    refine g_X8_11 Cx hW (k := 12) (by decide) rfl (v := .ref (G.2.2.1 + 13)) (rf_12_0 hI) dX8_token_13 ?_
    refine lv_aload_n hx hb dX8_token_16 rfl (lv_at hl 0 rfl) ?_
    refine g_X8_22 Cx hW (k := 12) (by decide) rfl (v := S.1 12 3) rfl dX8_token_17 ?_
    refine lv_iload_n hx hb dX8_token_20 rfl (lv_at hl 1 rfl) ?_
    refine rIast Cx hW hL (k := 13) (by decide) rfl (by decide) (by omega) (by omega) dX8_token_21 (fun H locs hW hL => ?_)
    have F_3 : Fr S (uA S 13 (S.1 12 3) kk) pQ := (Fr.rf : Fr S S pQ).A rfl
    have i_4 : cX G (uA S 13 (S.1 12 3) kk) 0 0 0 := hI.A (by decide) (by decide) (by decide) (show 0 ≤ kk ∧ kk ≤ 26 from ⟨by omega, by omega⟩)
    refine lv_aload_n hx hb dX8_token_22 rfl (lv_at hl 0 rfl) ?_
    refine g_X8_15 Cx hW (k := 12) (by decide) rfl (v := .ref (G.2.2.1 + 14)) (rf_12_1 i_4) dX8_token_23 ?_
    refine lv_aload_n hx hb dX8_token_26 rfl (lv_at hl 0 rfl) ?_
    refine g_X8_22 Cx hW (k := 12) (by decide) rfl (v := S.1 12 3) uA_f dX8_token_27 ?_
    refine lv_iload_n hx hb dX8_token_30 rfl (lv_at hl 2 rfl) ?_
    refine rIast Cx hW hL (k := 14) (by decide) rfl (by decide) (by omega) (by omega) dX8_token_31 (fun H locs hW hL => ?_)
    have F_5 : Fr S (uA (uA S 13 (S.1 12 3) kk) 14 (S.1 12 3) sr) pQ := F_3.A rfl
    have i_6 : cX G (uA (uA S 13 (S.1 12 3) kk) 14 (S.1 12 3) sr) 0 0 0 := i_4.A (by decide) (by decide) (by decide) (show 0 ≤ sr ∧ sr ≤ 2000 from ⟨by omega, by omega⟩)
    refine lv_aload_n hx hb dX8_token_32 rfl (lv_at hl 0 rfl) ?_
    refine g_X8_18 Cx hW (k := 12) (by decide) rfl (v := .ref (G.2.2.1 + 15)) (rf_12_2 i_6) dX8_token_33 ?_
    refine lv_aload_n hx hb dX8_token_36 rfl (lv_at hl 0 rfl) ?_
    refine g_X8_22 Cx hW (k := 12) (by decide) rfl (v := S.1 12 3) ((uA_f).trans (uA_f)) dX8_token_37 ?_
    refine lv_lload_n hx hb dX8_token_40 rfl (lv_at hl 3 rfl) ?_
    refine rLast Cx hW hL (k := 15) (by decide) rfl (by decide) (by omega) (by omega) dX8_token_41 (fun H locs hW hL => ?_)
    have F_7 : Fr S (uL (uA (uA S 13 (S.1 12 3) kk) 14 (S.1 12 3) sr) 15 (S.1 12 3) v) pQ := F_5.L rfl
    have i_8 : cX G (uL (uA (uA S 13 (S.1 12 3) kk) 14 (S.1 12 3) sr) 15 (S.1 12 3) v) 0 0 0 := i_6.L ⟨by omega, by omega⟩
    refine lv_aload_n hx hb dX8_token_42 rfl (lv_at hl 0 rfl) ?_
    refine lv_dup hx hb dX8_token_43 rfl ?_
    refine g_X8_22 Cx hW (k := 12) (by decide) rfl (v := S.1 12 3) ((uL_f).trans ((uA_f).trans (uA_f))) dX8_token_44 ?_
    refine lv_iconst (v := iv 1) hx hb dX8_token_47 (by decide) ?_
    refine r_iadd hx hb dX8_token_48 ?_
    refine p_X8_22 Cx hW hL (k := 12) (by decide) rfl dX8_token_49 (fun H locs hW hL => ?_)
    have F_9 : Fr S (uF (uL (uA (uA S 13 (S.1 12 3) kk) 14 (S.1 12 3) sr) 15 (S.1 12 3) v) 12 3 ((S.1 12 3) + 1)) pQ := F_7.F rfl
    have i_10 : cX G (uF (uL (uA (uA S 13 (S.1 12 3) kk) 14 (S.1 12 3) sr) 15 (S.1 12 3) v) 12 3 ((S.1 12 3) + 1)) 0 0 0 := i_8.F rfl rfl (show 0 ≤ (S.1 12 3) + 1 ∧ (S.1 12 3) + 1 ≤ 2001 from ⟨by omega, by omega⟩)
    exact sVret Cx hr hlk hW hL ⟨i_10, F_9, tok_s hsa (by omega) hv (by rw [uF_on]) (fun j => by show (if (13 : Nat) = 13 ∧ j = S.1 12 3 then kk else S.2.1 13 j) = _; simp) (fun j => by show (if (15 : Nat) = 15 ∧ j = S.1 12 3 then v else S.2.2.1 15 j) = _; simp)⟩ dX8_token_52

set_option maxRecDepth 100000 in
set_option maxHeartbeats 4000000 in
theorem s_X8_scanNumber (l : Launch) (G : sG) (S : sS) {t N : Nat} {i0 : Int} (hI : cX G S 0 0 0) (ht : txt t N) (hi0 : 0 ≤ i0 ∧ i0 ≤ 1999 ∧ i0 < S.1 t 1) (hsa : SA S) : Met l yX8_scanNumber (.code yX8_scanNumber cX8_scanNumber 6 (some .int) :: tb) (rmk 2 0 0) (sPc G 294 S [.ref (G.2.2.1 + 12), .ref (G.2.2.1 + t), .int (iv i0)]) (sQi G 294 (fun r u => cX G u 0 0 0 ∧ Fr S u pQ ∧ ((i0 ≤ r ∧ r ≤ 2001) ∧ SQ u))) 0 0 (sF G) := by
  refine sEnter (by decide) (Nat.le_of_ble_eq_true rfl) ?_
  intro p e s m args below meth c Cx hr hlk hnm hW ls hl
  have Cx : sC G p m c cX8_scanNumber 6 s args RX8 := Cx
  obtain ⟨hx, hb, hml, hown, hts⟩ := id Cx.1
  have hL : sL G [] := sL_nil
  have hl : lv_has ls 6 [(0, .ref (G.2.2.1 + 12)), (1, .ref (G.2.2.1 + t)), (2, .int (iv i0))] := hl
  have hW0 := hW
  have hN3 := ht.2.2.2.2.2
  refine lv_iconst (v := iv 0) hx hb dX8_scanNumber_0 (by decide) ?_
  refine lv_istore_n (lv' := [(3, .int (iv 0)), (0, .ref (G.2.2.1 + 12)), (1, .ref (G.2.2.1 + t)), (2, .int (iv i0))]) hx hb dX8_scanNumber_1 rfl hl (by decide) rfl (fun ls hl => ?_)
  refine lv_iload_n hx hb dX8_scanNumber_2 rfl (lv_at hl 3 rfl) ?_
  refine lv_istore (lv' := [(4, .int (iv i0)), (3, .int (iv 0)), (0, .ref (G.2.2.1 + 12)), (1, .ref (G.2.2.1 + t)), (2, .int (iv i0))]) hx hb dX8_scanNumber_3 hl (by decide) rfl (fun ls hl => ?_)
  have loop_5 : ∀ (fuel : Nat) (S5 : sS) (i : Int) (v : Int) (H : Heap) (locs : List Loc) (ls : Array Slot), (2000 - i).toNat < fuel → (cX G S5 0 0 0) → (Fr S S5 pQ) → (Fr S S5 pQ) → (i0 ≤ i ∧ i ≤ 2000) → (SA S5) → (-2147483648 ≤ v ∧ v ≤ 2147483647) → ((i - i0 ≤ 0 → 0 ≤ v ∧ v ≤ 0) ∧ (i - i0 ≤ 1 → 0 ≤ v ∧ v ≤ 9) ∧ (i - i0 ≤ 2 → 0 ≤ v ∧ v ≤ 99) ∧ (i - i0 ≤ 3 → 0 ≤ v ∧ v ≤ 999) ∧ (i - i0 ≤ 4 → 0 ≤ v ∧ v ≤ 9999) ∧ (i - i0 ≤ 5 → 0 ≤ v ∧ v ≤ 99999)) → sW G 294 S5 H → sL G locs → lv_has ls 6 [(4, .int (iv i)), (3, .int (iv v)), (0, .ref (G.2.2.1 + 12)), (1, .ref (G.2.2.1 + t)), (2, .int (iv i0))] → W p l e (rmk 2 0 0) s m args below meth c H locs 0 0 (MQ below (sQi G 294 (fun r u => cX G u 0 0 0 ∧ Fr S u pQ ∧ ((i0 ≤ r ∧ r ≤ 2001) ∧ SQ u))) args s 0 0 (sF G)) (F0 m 5 ls []) := by
    intro fuel
    induction fuel with
    | zero => intro S5 i v H locs ls hmeas hI5 hFm5 hL5_ hi hsa hv hv5 hW hL hl; exact absurd hmeas (Nat.not_lt_zero _)
    | succ fuel ih_5 =>
      intro S5 i v H locs ls hmeas hI5 hFm5 hL5_ hi hsa hv hv5 hW hL hl
      refine lv_iload hx hb dX8_scanNumber_5 (lv_at hl 0 rfl) ?_
      refine lv_sipush (v := iv 2000) hx hb dX8_scanNumber_7 (by decide) ?_
      refine r_icmp_ge (tgt := 46) hx hb ⟨(by omega), (by omega)⟩ ⟨(by omega), (by omega)⟩ dX8_scanNumber_10 (by decide) (fun c_1 => ?_) (fun c_1 => ?_)
      · have join_71 : ∀ (S71 : sS) (bd : Int) (H : Heap) (locs : List Loc) (ls : Array Slot), (cX G S71 0 0 0) → (Fr S S71 pQ) → (Fr S S71 pQ) → (Fr S5 S71 pQ) → (SA S71) → (0 ≤ bd ∧ bd ≤ 1) → (bd = 0 → i - i0 ≤ 5) → sW G 294 S71 H → sL G locs → lv_has ls 6 [(4, .int (iv i)), (3, .int (iv v)), (0, .ref (G.2.2.1 + 12)), (1, .ref (G.2.2.1 + t)), (2, .int (iv i0))] → W p l e (rmk 2 0 0) s m args below meth c H locs 0 0 (MQ below (sQi G 294 (fun r u => cX G u 0 0 0 ∧ Fr S u pQ ∧ ((i0 ≤ r ∧ r ≤ 2001) ∧ SQ u))) args s 0 0 (sF G)) (F0 m 71 ls [.int (iv bd)]) := by
          intro S71 bd H locs ls hI71 hFm71 hFL571 hL71_ hsa hbd hb5 hW hL hl
          refine lv_istore (lv' := [(5, .int (iv bd)), (4, .int (iv i)), (3, .int (iv v)), (0, .ref (G.2.2.1 + 12)), (1, .ref (G.2.2.1 + t)), (2, .int (iv i0))]) hx hb dX8_scanNumber_71 hl (by decide) rfl (fun ls hl => ?_)
          refine lv_aload_n hx hb dX8_scanNumber_73 rfl (lv_at hl 3 rfl) ?_
          refine lv_iload hx hb dX8_scanNumber_74 (lv_at hl 0 rfl) ?_
          refine r_if_eq (tgt := 83) hx hb ⟨(by omega), (by omega)⟩ dX8_scanNumber_76 (by decide) (fun c_2 => ?_) (fun c_2 => ?_)
          · refine lv_iconst (v := iv 3) hx hb dX8_scanNumber_83 (by decide) ?_
            refine lv_iload_n hx hb dX8_scanNumber_84 rfl (lv_at hl 5 rfl) ?_
            refine lv_iload_n hx hb dX8_scanNumber_85 rfl (lv_at hl 2 rfl) ?_
            refine r_i2l hx hb ⟨(by omega), (by omega)⟩ dX8_scanNumber_86 ?_
            refine sBv (sV (As := [.int (iv 3), .int (iv i0), .long (jv v)]) (rest := []) (k := 12) Cx (s_X8_token l G S71 (kk := 3) (sr := i0) (v := v) hI71 (by omega) (by omega) (by omega) hsa (fun q => lb_i (by omega))) (c_X8_49 Cx rfl rfl (rmk_ok (by omega) (by decide))) hW (by decide) rfl rfl rfl hl.1 rfl (Nat.le_of_ble_eq_true rfl) dX8_scanNumber_87 ⟨Nat.le_of_ble_eq_true rfl, Nat.le_of_ble_eq_true rfl⟩) hL (fun u_3 H locs k_4 hW hL => ?_)
            obtain ⟨iu_3, fu_3, xu_3⟩ := k_4
            have F_5 := hFm71.trans fu_3
            have F_6 := hFL571.trans fu_3
            have F_7 := hL71_.trans fu_3
            have hq : SQ u_3 := tok_q xu_3 (by omega)
            refine lv_iload hx hb dX8_scanNumber_90 (lv_at hl 1 rfl) ?_
            exact sIret Cx hr hlk hW hL ⟨iu_3, F_5, ⟨(by omega), hq⟩⟩ dX8_scanNumber_92
          · refine lv_iconst (v := iv 1) hx hb dX8_scanNumber_79 (by decide) ?_
            refine lv_goto (tgt := 84) hx hb dX8_scanNumber_80 (by decide) ?_
            refine lv_iload_n hx hb dX8_scanNumber_84 rfl (lv_at hl 5 rfl) ?_
            refine lv_iload_n hx hb dX8_scanNumber_85 rfl (lv_at hl 2 rfl) ?_
            refine r_i2l hx hb ⟨(by omega), (by omega)⟩ dX8_scanNumber_86 ?_
            refine sBv (sV (As := [.int (iv 1), .int (iv i0), .long (jv v)]) (rest := []) (k := 12) Cx (s_X8_token l G S71 (kk := 1) (sr := i0) (v := v) hI71 (by omega) (by omega) (by omega) hsa (fun q => lb_i (by omega))) (c_X8_49 Cx rfl rfl (rmk_ok (by omega) (by decide))) hW (by decide) rfl rfl rfl hl.1 rfl (Nat.le_of_ble_eq_true rfl) dX8_scanNumber_87 ⟨Nat.le_of_ble_eq_true rfl, Nat.le_of_ble_eq_true rfl⟩) hL (fun u_8 H locs k_9 hW hL => ?_)
            obtain ⟨iu_8, fu_8, xu_8⟩ := k_9
            have F_10 := hFm71.trans fu_8
            have F_11 := hFL571.trans fu_8
            have F_12 := hL71_.trans fu_8
            have hq : SQ u_8 := tok_q xu_8 (by omega)
            refine lv_iload hx hb dX8_scanNumber_90 (lv_at hl 1 rfl) ?_
            exact sIret Cx hr hlk hW hL ⟨iu_8, F_10, ⟨(by omega), hq⟩⟩ dX8_scanNumber_92
        refine lv_iload hx hb dX8_scanNumber_46 (lv_at hl 0 rfl) ?_
        refine lv_iload_n hx hb dX8_scanNumber_48 rfl (lv_at hl 4 rfl) ?_
        refine r_isub hx hb dX8_scanNumber_49 ?_
        refine lv_iconst (v := iv 5) hx hb dX8_scanNumber_50 (by decide) ?_
        refine r_icmp_gt (tgt := 66) hx hb ⟨(by omega), (by omega)⟩ ⟨(by omega), (by omega)⟩ dX8_scanNumber_51 (by decide) (fun c_13 => ?_) (fun c_13 => ?_)
        · refine lv_iconst (v := iv 1) hx hb dX8_scanNumber_66 (by decide) ?_
          refine lv_goto (tgt := 71) hx hb dX8_scanNumber_67 (by decide) ?_
          exact join_71 S5 1 _ _ _ hI5 hFm5 hL5_ (Fr.rf : Fr S5 S5 pQ) hsa (by omega) (by omega) hW hL (lv_sub hl [0, 1, 2, 3, 4] rfl)
        · refine lv_aload_n hx hb dX8_scanNumber_54 rfl (lv_at hl 3 rfl) ?_
          refine lv_iload hx hb dX8_scanNumber_55 (lv_at hl 0 rfl) ?_
          have q_14 : 0 ≤ S.1 t 1 ∧ S.1 t 1 ≤ (N : Int) := txt_len ht hI
          have lk_15 : S5.1 t 1 = S.1 t 1 := (hL5_ t (txt_pQ ht).1).1 1
          refine sBi (sV (As := [.int (iv i)]) (rest := []) (k := t) Cx (s_X10_byteAt l G S5 (o := t) (k := i) (N := N) hI5 ht (by omega)) (c_X8_53 Cx rfl rfl (rmk_ok (by omega) (by decide))) hW (Nat.lt_trans ht.1 (by decide)) ht.2.1 rfl rfl hl.1 rfl (Nat.le_of_ble_eq_true rfl) dX8_scanNumber_57 ⟨Nat.le_of_ble_eq_true rfl, Nat.le_of_ble_eq_true rfl⟩) hL (fun r_18 u_16 H locs k_17 hW hL => ?_)
          obtain ⟨eu_16, xu_16⟩ := k_17
          rw [eu_16] at hW
          refine sBi (sSt (As := [.int (iv r_18)]) (rest := []) Cx (s_X8_isLetter l G S5 (k := r_18) (by omega)) (c_X8_56 Cx rfl rfl (rmk_ok (by omega) (by decide))) hW rfl hl.1 rfl (Nat.le_of_ble_eq_true rfl) dX8_scanNumber_60 ⟨Nat.le_of_ble_eq_true rfl, Nat.le_of_ble_eq_true rfl⟩) hL (fun r_21 u_19 H locs k_20 hW hL => ?_)
          obtain ⟨eu_19, xu_19⟩ := k_20
          rw [eu_19] at hW
          refine r_if_eq (tgt := 70) hx hb ⟨(by omega), (by omega)⟩ dX8_scanNumber_63 (by decide) (fun c_22 => ?_) (fun c_22 => ?_)
          · refine lv_iconst (v := iv 0) hx hb dX8_scanNumber_70 (by decide) ?_
            exact join_71 S5 0 _ _ _ hI5 hFm5 hL5_ (Fr.rf : Fr S5 S5 pQ) hsa (by omega) (by omega) hW hL (lv_sub hl [0, 1, 2, 3, 4] rfl)
          · refine lv_iconst (v := iv 1) hx hb dX8_scanNumber_66 (by decide) ?_
            refine lv_goto (tgt := 71) hx hb dX8_scanNumber_67 (by decide) ?_
            exact join_71 S5 1 _ _ _ hI5 hFm5 hL5_ (Fr.rf : Fr S5 S5 pQ) hsa (by omega) (by omega) hW hL (lv_sub hl [0, 1, 2, 3, 4] rfl)
      · refine lv_aload_n hx hb dX8_scanNumber_13 rfl (lv_at hl 3 rfl) ?_
        refine lv_iload hx hb dX8_scanNumber_14 (lv_at hl 0 rfl) ?_
        have q_23 : 0 ≤ S.1 t 1 ∧ S.1 t 1 ≤ (N : Int) := txt_len ht hI
        have lk_24 : S5.1 t 1 = S.1 t 1 := (hL5_ t (txt_pQ ht).1).1 1
        refine sBi (sV (As := [.int (iv i)]) (rest := []) (k := t) Cx (s_X10_byteAt l G S5 (o := t) (k := i) (N := N) hI5 ht (by omega)) (c_X8_53 Cx rfl rfl (rmk_ok (by omega) (by decide))) hW (Nat.lt_trans ht.1 (by decide)) ht.2.1 rfl rfl hl.1 rfl (Nat.le_of_ble_eq_true rfl) dX8_scanNumber_16 ⟨Nat.le_of_ble_eq_true rfl, Nat.le_of_ble_eq_true rfl⟩) hL (fun r_27 u_25 H locs k_26 hW hL => ?_)
        obtain ⟨eu_25, xu_25⟩ := k_26
        rw [eu_25] at hW
        refine sBi (sSt (As := [.int (iv r_27)]) (rest := []) Cx (s_X8_isDigit l G S5 (k := r_27) (by omega)) (c_X8_63 Cx rfl rfl (rmk_ok (by omega) (by decide))) hW rfl hl.1 rfl (Nat.le_of_ble_eq_true rfl) dX8_scanNumber_19 ⟨Nat.le_of_ble_eq_true rfl, Nat.le_of_ble_eq_true rfl⟩) hL (fun r_30 u_28 H locs k_29 hW hL => ?_)
        obtain ⟨eu_28, xu_28⟩ := k_29
        rw [eu_28] at hW
        refine r_if_eq (tgt := 46) hx hb ⟨(by omega), (by omega)⟩ dX8_scanNumber_22 (by decide) (fun c_31 => ?_) (fun c_31 => ?_)
        · have join_71 : ∀ (S71 : sS) (bd : Int) (H : Heap) (locs : List Loc) (ls : Array Slot), (cX G S71 0 0 0) → (Fr S S71 pQ) → (Fr S S71 pQ) → (Fr S5 S71 pQ) → (SA S71) → (0 ≤ bd ∧ bd ≤ 1) → (bd = 0 → i - i0 ≤ 5) → sW G 294 S71 H → sL G locs → lv_has ls 6 [(4, .int (iv i)), (3, .int (iv v)), (0, .ref (G.2.2.1 + 12)), (1, .ref (G.2.2.1 + t)), (2, .int (iv i0))] → W p l e (rmk 2 0 0) s m args below meth c H locs 0 0 (MQ below (sQi G 294 (fun r u => cX G u 0 0 0 ∧ Fr S u pQ ∧ ((i0 ≤ r ∧ r ≤ 2001) ∧ SQ u))) args s 0 0 (sF G)) (F0 m 71 ls [.int (iv bd)]) := by
            intro S71 bd H locs ls hI71 hFm71 hFL571 hL71_ hsa hbd hb5 hW hL hl
            refine lv_istore (lv' := [(5, .int (iv bd)), (4, .int (iv i)), (3, .int (iv v)), (0, .ref (G.2.2.1 + 12)), (1, .ref (G.2.2.1 + t)), (2, .int (iv i0))]) hx hb dX8_scanNumber_71 hl (by decide) rfl (fun ls hl => ?_)
            refine lv_aload_n hx hb dX8_scanNumber_73 rfl (lv_at hl 3 rfl) ?_
            refine lv_iload hx hb dX8_scanNumber_74 (lv_at hl 0 rfl) ?_
            refine r_if_eq (tgt := 83) hx hb ⟨(by omega), (by omega)⟩ dX8_scanNumber_76 (by decide) (fun c_32 => ?_) (fun c_32 => ?_)
            · refine lv_iconst (v := iv 3) hx hb dX8_scanNumber_83 (by decide) ?_
              refine lv_iload_n hx hb dX8_scanNumber_84 rfl (lv_at hl 5 rfl) ?_
              refine lv_iload_n hx hb dX8_scanNumber_85 rfl (lv_at hl 2 rfl) ?_
              refine r_i2l hx hb ⟨(by omega), (by omega)⟩ dX8_scanNumber_86 ?_
              refine sBv (sV (As := [.int (iv 3), .int (iv i0), .long (jv v)]) (rest := []) (k := 12) Cx (s_X8_token l G S71 (kk := 3) (sr := i0) (v := v) hI71 (by omega) (by omega) (by omega) hsa (fun q => lb_i (by omega))) (c_X8_49 Cx rfl rfl (rmk_ok (by omega) (by decide))) hW (by decide) rfl rfl rfl hl.1 rfl (Nat.le_of_ble_eq_true rfl) dX8_scanNumber_87 ⟨Nat.le_of_ble_eq_true rfl, Nat.le_of_ble_eq_true rfl⟩) hL (fun u_33 H locs k_34 hW hL => ?_)
              obtain ⟨iu_33, fu_33, xu_33⟩ := k_34
              have F_35 := hFm71.trans fu_33
              have F_36 := hFL571.trans fu_33
              have F_37 := hL71_.trans fu_33
              have hq : SQ u_33 := tok_q xu_33 (by omega)
              refine lv_iload hx hb dX8_scanNumber_90 (lv_at hl 1 rfl) ?_
              exact sIret Cx hr hlk hW hL ⟨iu_33, F_35, ⟨(by omega), hq⟩⟩ dX8_scanNumber_92
            · refine lv_iconst (v := iv 1) hx hb dX8_scanNumber_79 (by decide) ?_
              refine lv_goto (tgt := 84) hx hb dX8_scanNumber_80 (by decide) ?_
              refine lv_iload_n hx hb dX8_scanNumber_84 rfl (lv_at hl 5 rfl) ?_
              refine lv_iload_n hx hb dX8_scanNumber_85 rfl (lv_at hl 2 rfl) ?_
              refine r_i2l hx hb ⟨(by omega), (by omega)⟩ dX8_scanNumber_86 ?_
              refine sBv (sV (As := [.int (iv 1), .int (iv i0), .long (jv v)]) (rest := []) (k := 12) Cx (s_X8_token l G S71 (kk := 1) (sr := i0) (v := v) hI71 (by omega) (by omega) (by omega) hsa (fun q => lb_i (by omega))) (c_X8_49 Cx rfl rfl (rmk_ok (by omega) (by decide))) hW (by decide) rfl rfl rfl hl.1 rfl (Nat.le_of_ble_eq_true rfl) dX8_scanNumber_87 ⟨Nat.le_of_ble_eq_true rfl, Nat.le_of_ble_eq_true rfl⟩) hL (fun u_38 H locs k_39 hW hL => ?_)
              obtain ⟨iu_38, fu_38, xu_38⟩ := k_39
              have F_40 := hFm71.trans fu_38
              have F_41 := hFL571.trans fu_38
              have F_42 := hL71_.trans fu_38
              have hq : SQ u_38 := tok_q xu_38 (by omega)
              refine lv_iload hx hb dX8_scanNumber_90 (lv_at hl 1 rfl) ?_
              exact sIret Cx hr hlk hW hL ⟨iu_38, F_40, ⟨(by omega), hq⟩⟩ dX8_scanNumber_92
          refine lv_iload hx hb dX8_scanNumber_46 (lv_at hl 0 rfl) ?_
          refine lv_iload_n hx hb dX8_scanNumber_48 rfl (lv_at hl 4 rfl) ?_
          refine r_isub hx hb dX8_scanNumber_49 ?_
          refine lv_iconst (v := iv 5) hx hb dX8_scanNumber_50 (by decide) ?_
          refine r_icmp_gt (tgt := 66) hx hb ⟨(by omega), (by omega)⟩ ⟨(by omega), (by omega)⟩ dX8_scanNumber_51 (by decide) (fun c_43 => ?_) (fun c_43 => ?_)
          · refine lv_iconst (v := iv 1) hx hb dX8_scanNumber_66 (by decide) ?_
            refine lv_goto (tgt := 71) hx hb dX8_scanNumber_67 (by decide) ?_
            exact join_71 S5 1 _ _ _ hI5 hFm5 hL5_ (Fr.rf : Fr S5 S5 pQ) hsa (by omega) (by omega) hW hL (lv_sub hl [0, 1, 2, 3, 4] rfl)
          · refine lv_aload_n hx hb dX8_scanNumber_54 rfl (lv_at hl 3 rfl) ?_
            refine lv_iload hx hb dX8_scanNumber_55 (lv_at hl 0 rfl) ?_
            refine sBi (sV (As := [.int (iv i)]) (rest := []) (k := t) Cx (s_X10_byteAt l G S5 (o := t) (k := i) (N := N) hI5 ht (by omega)) (c_X8_53 Cx rfl rfl (rmk_ok (by omega) (by decide))) hW (Nat.lt_trans ht.1 (by decide)) ht.2.1 rfl rfl hl.1 rfl (Nat.le_of_ble_eq_true rfl) dX8_scanNumber_57 ⟨Nat.le_of_ble_eq_true rfl, Nat.le_of_ble_eq_true rfl⟩) hL (fun r_46 u_44 H locs k_45 hW hL => ?_)
            obtain ⟨eu_44, xu_44⟩ := k_45
            rw [eu_44] at hW
            refine sBi (sSt (As := [.int (iv r_46)]) (rest := []) Cx (s_X8_isLetter l G S5 (k := r_46) (by omega)) (c_X8_56 Cx rfl rfl (rmk_ok (by omega) (by decide))) hW rfl hl.1 rfl (Nat.le_of_ble_eq_true rfl) dX8_scanNumber_60 ⟨Nat.le_of_ble_eq_true rfl, Nat.le_of_ble_eq_true rfl⟩) hL (fun r_49 u_47 H locs k_48 hW hL => ?_)
            obtain ⟨eu_47, xu_47⟩ := k_48
            rw [eu_47] at hW
            refine r_if_eq (tgt := 70) hx hb ⟨(by omega), (by omega)⟩ dX8_scanNumber_63 (by decide) (fun c_50 => ?_) (fun c_50 => ?_)
            · refine lv_iconst (v := iv 0) hx hb dX8_scanNumber_70 (by decide) ?_
              exact join_71 S5 0 _ _ _ hI5 hFm5 hL5_ (Fr.rf : Fr S5 S5 pQ) hsa (by omega) (by omega) hW hL (lv_sub hl [0, 1, 2, 3, 4] rfl)
            · refine lv_iconst (v := iv 1) hx hb dX8_scanNumber_66 (by decide) ?_
              refine lv_goto (tgt := 71) hx hb dX8_scanNumber_67 (by decide) ?_
              exact join_71 S5 1 _ _ _ hI5 hFm5 hL5_ (Fr.rf : Fr S5 S5 pQ) hsa (by omega) (by omega) hW hL (lv_sub hl [0, 1, 2, 3, 4] rfl)
        · refine lv_bipush (v := iv 10) hx hb dX8_scanNumber_25 (by decide) ?_
          refine lv_iload_n hx hb dX8_scanNumber_27 rfl (lv_at hl 1 rfl) ?_
          refine r_imul hx hb dX8_scanNumber_28 ?_
          refine lv_aload_n hx hb dX8_scanNumber_29 rfl (lv_at hl 3 rfl) ?_
          refine lv_iload hx hb dX8_scanNumber_30 (lv_at hl 0 rfl) ?_
          refine sBi (sV (As := [.int (iv i)]) (rest := [.int (iv (10 * v))]) (k := t) Cx (s_X10_byteAt l G S5 (o := t) (k := i) (N := N) hI5 ht (by omega)) (c_X8_53 Cx rfl rfl (rmk_ok (by omega) (by decide))) hW (Nat.lt_trans ht.1 (by decide)) ht.2.1 rfl rfl hl.1 rfl (Nat.le_of_ble_eq_true rfl) dX8_scanNumber_32 ⟨Nat.le_of_ble_eq_true rfl, Nat.le_of_ble_eq_true rfl⟩) hL (fun r_53 u_51 H locs k_52 hW hL => ?_)
          obtain ⟨eu_51, xu_51⟩ := k_52
          rw [eu_51] at hW
          refine r_iadd hx hb dX8_scanNumber_35 ?_
          refine lv_bipush (v := iv 48) hx hb dX8_scanNumber_36 (by decide) ?_
          refine r_isub hx hb dX8_scanNumber_38 ?_
          obtain ⟨zv, ezv, hzv, kzv, fzv⟩ := iv_n (((10 * v) + r_53) - 48)
          rw [ezv]
          refine lv_istore_n (lv' := [(3, .int (iv zv)), (4, .int (iv i)), (0, .ref (G.2.2.1 + 12)), (1, .ref (G.2.2.1 + t)), (2, .int (iv i0))]) hx hb dX8_scanNumber_39 rfl hl (by decide) rfl (fun ls hl => ?_)
          refine lv_iinc (v := iv (i + 1)) (lv' := [(4, .int (iv (i + 1))), (3, .int (iv zv)), (0, .ref (G.2.2.1 + 12)), (1, .ref (G.2.2.1 + t)), (2, .int (iv i0))]) hx hb dX8_scanNumber_40 hl (k := 1) rfl ((Int32.ofInt_add _ _).symm) (by decide) rfl (fun ls hl => ?_)
          refine lv_goto (tgt := 5) hx hb dX8_scanNumber_43 (by decide) ?_
          exact ih_5 S5 (i + 1) zv _ _ _ (by omega) hI5 hFm5 hL5_ (by omega) hsa (by omega) (by omega) hW hL (lv_sub hl [0, 1, 2, 3, 4] rfl)
  exact loop_5 (_ + 1) S i0 0 _ _ _ (Nat.lt_succ_self _) hI (Fr.rf : Fr S S pQ) Fr.rf (by omega) hsa (by omega) (by omega) hW hL (lv_sub hl [0, 1, 2, 3, 4] rfl)

set_option maxRecDepth 100000 in
set_option maxHeartbeats 4000000 in
theorem s_X8_scanName (l : Launch) (G : sG) (S : sS) {t N : Nat} {i0 : Int} (hI : cX G S 0 0 0) (ht : txt t N) (hi0 : 0 ≤ i0 ∧ i0 ≤ 1999 ∧ i0 < S.1 t 1) (hsa : SA S) : Met l yX8_scanName (.code yX8_scanName cX8_scanName 8 (some .int) :: tb) (rmk 3 0 0) (sPc G 294 S [.ref (G.2.2.1 + 12), .ref (G.2.2.1 + t), .int (iv i0)]) (sQi G 294 (fun r u => cX G u 0 0 0 ∧ Fr S u pQ ∧ ((i0 ≤ r ∧ r ≤ 2001) ∧ SQ u))) 0 0 (sF G) := by
  refine sEnter (by decide) (Nat.le_of_ble_eq_true rfl) ?_
  intro p e s m args below meth c Cx hr hlk hnm hW ls hl
  have Cx : sC G p m c cX8_scanName 8 s args RX8 := Cx
  obtain ⟨hx, hb, hml, hown, hts⟩ := id Cx.1
  have hL : sL G [] := sL_nil
  have hl : lv_has ls 8 [(0, .ref (G.2.2.1 + 12)), (1, .ref (G.2.2.1 + t)), (2, .int (iv i0))] := hl
  have hW0 := hW
  have hN3 := ht.2.2.2.2.2
  refine lv_lconst (v := jv 0) hx hb dX8_scanName_0 (by decide) ?_
  refine lv_lstore_n (lv' := [(3, .long (jv 0)), (0, .ref (G.2.2.1 + 12)), (1, .ref (G.2.2.1 + t)), (2, .int (iv i0))]) hx hb dX8_scanName_1 rfl hl (by decide) rfl (fun ls hl => ?_)
  refine lv_iload_n hx hb dX8_scanName_2 rfl (lv_at hl 3 rfl) ?_
  refine lv_istore (lv' := [(5, .int (iv i0)), (3, .long (jv 0)), (0, .ref (G.2.2.1 + 12)), (1, .ref (G.2.2.1 + t)), (2, .int (iv i0))]) hx hb dX8_scanName_3 hl (by decide) rfl (fun ls hl => ?_)
  have loop_5 : ∀ (fuel : Nat) (S5 : sS) (i : Int) (pk : Int) (H : Heap) (locs : List Loc) (ls : Array Slot), (2000 - i).toNat < fuel → (cX G S5 0 0 0) → (Fr S S5 pQ) → (Fr S S5 pQ) → (i0 ≤ i ∧ i ≤ 2000) → (SA S5) → (-9223372036854775808 ≤ pk ∧ pk ≤ 9223372036854775807) → (pk % 256 ≤ 122 ∧ pk % 65536 ≤ 31354 ∧ pk % 16777216 ≤ 8026746 ∧ pk % 4294967296 ≤ 2054847098) → sW G 294 S5 H → sL G locs → lv_has ls 8 [(5, .int (iv i)), (3, .long (jv pk)), (0, .ref (G.2.2.1 + 12)), (1, .ref (G.2.2.1 + t)), (2, .int (iv i0))] → W p l e (rmk 3 0 0) s m args below meth c H locs 0 0 (MQ below (sQi G 294 (fun r u => cX G u 0 0 0 ∧ Fr S u pQ ∧ ((i0 ≤ r ∧ r ≤ 2001) ∧ SQ u))) args s 0 0 (sF G)) (F0 m 5 ls []) := by
    intro fuel
    induction fuel with
    | zero => intro S5 i pk H locs ls hmeas hI5 hFm5 hL5_ hi hsa hp hm hW hL hl; exact absurd hmeas (Nat.not_lt_zero _)
    | succ fuel ih_5 =>
      intro S5 i pk H locs ls hmeas hI5 hFm5 hL5_ hi hsa hp hm hW hL hl
      refine lv_iload hx hb dX8_scanName_5 (lv_at hl 0 rfl) ?_
      refine lv_sipush (v := iv 2000) hx hb dX8_scanName_7 (by decide) ?_
      refine r_icmp_ge (tgt := 44) hx hb ⟨(by omega), (by omega)⟩ ⟨(by omega), (by omega)⟩ dX8_scanName_10 (by decide) (fun c_1 => ?_) (fun c_1 => ?_)
      · have join_58 : ∀ (k0 : Int) (H : Heap) (locs : List Loc) (ls : Array Slot), (SA S5) → (k0 = 1 ∨ k0 = 2) → sW G 294 S5 H → sL G locs → lv_has ls 8 [(5, .int (iv i)), (3, .long (jv pk)), (0, .ref (G.2.2.1 + 12)), (1, .ref (G.2.2.1 + t)), (2, .int (iv i0))] → W p l e (rmk 3 0 0) s m args below meth c H locs 0 0 (MQ below (sQi G 294 (fun r u => cX G u 0 0 0 ∧ Fr S u pQ ∧ ((i0 ≤ r ∧ r ≤ 2001) ∧ SQ u))) args s 0 0 (sF G)) (F0 m 58 ls [.int (iv k0)]) := by
          intro k0 H locs ls hsa hk0 hW hL hl
          refine lv_istore (lv' := [(6, .int (iv k0)), (5, .int (iv i)), (3, .long (jv pk)), (0, .ref (G.2.2.1 + 12)), (1, .ref (G.2.2.1 + t)), (2, .int (iv i0))]) hx hb dX8_scanName_58 hl (by decide) rfl (fun ls hl => ?_)
          refine lv_iconst (v := iv 0) hx hb dX8_scanName_60 (by decide) ?_
          refine lv_istore (lv' := [(7, .int (iv 0)), (6, .int (iv k0)), (5, .int (iv i)), (3, .long (jv pk)), (0, .ref (G.2.2.1 + 12)), (1, .ref (G.2.2.1 + t)), (2, .int (iv i0))]) hx hb dX8_scanName_61 hl (by decide) rfl (fun ls hl => ?_)
          have loop_63 : ∀ (fuel : Nat) (wd : Int) (kn : Int) (H : Heap) (locs : List Loc) (ls : Array Slot), (9 - wd).toNat < fuel → (SA S5) → (0 ≤ wd ∧ wd ≤ 9) → (kn = 1 ∨ (2 ≤ kn ∧ kn ≤ 12)) → sW G 294 S5 H → sL G locs → lv_has ls 8 [(7, .int (iv wd)), (6, .int (iv kn)), (5, .int (iv i)), (3, .long (jv pk)), (0, .ref (G.2.2.1 + 12)), (1, .ref (G.2.2.1 + t)), (2, .int (iv i0))] → W p l e (rmk 3 0 0) s m args below meth c H locs 0 0 (MQ below (sQi G 294 (fun r u => cX G u 0 0 0 ∧ Fr S u pQ ∧ ((i0 ≤ r ∧ r ≤ 2001) ∧ SQ u))) args s 0 0 (sF G)) (F0 m 63 ls []) := by
            intro fuel
            induction fuel with
            | zero => intro wd kn H locs ls hmeas hsa hw hkn hW hL hl; exact absurd hmeas (Nat.not_lt_zero _)
            | succ fuel ih_63 =>
              intro wd kn H locs ls hmeas hsa hw hkn hW hL hl
              refine lv_iload hx hb dX8_scanName_63 (lv_at hl 0 rfl) ?_
              refine zWords Cx hW0 hW hL w_800 dX8_scanName_65 ?_
              refine zWlen Cx hW0 hW hL dX8_scanName_68 ?_
              refine r_icmp_ge (tgt := 101) hx hb ⟨(by omega), (by omega)⟩ ⟨(by omega), (by omega)⟩ dX8_scanName_69 (by decide) (fun c_2 => ?_) (fun c_2 => ?_)
              · refine lv_aload_n hx hb dX8_scanName_101 rfl (lv_at hl 4 rfl) ?_
                refine lv_iload hx hb dX8_scanName_102 (lv_at hl 1 rfl) ?_
                refine lv_iload_n hx hb dX8_scanName_104 rfl (lv_at hl 6 rfl) ?_
                refine lv_lload_n hx hb dX8_scanName_105 rfl (lv_at hl 3 rfl) ?_
                refine sBv (sV (As := [.int (iv kn), .int (iv i0), .long (jv pk)]) (rest := []) (k := 12) Cx (s_X8_token l G S5 (kk := kn) (sr := i0) (v := pk) hI5 (by omega) (by omega) (by omega) hsa (fun _ => hm.2.2.2)) (c_X8_49 Cx rfl rfl (rmk_ok (by omega) (by decide))) hW (by decide) rfl rfl rfl hl.1 rfl (Nat.le_of_ble_eq_true rfl) dX8_scanName_106 ⟨Nat.le_of_ble_eq_true rfl, Nat.le_of_ble_eq_true rfl⟩) hL (fun u_3 H locs k_4 hW hL => ?_)
                obtain ⟨iu_3, fu_3, xu_3⟩ := k_4
                have F_5 := hFm5.trans fu_3
                have F_6 := hL5_.trans fu_3
                have hq : SQ u_3 := tok_q xu_3 (by omega)
                refine lv_iload hx hb dX8_scanName_109 (lv_at hl 2 rfl) ?_
                exact sIret Cx hr hlk hW hL ⟨iu_3, F_5, ⟨(by omega), hq⟩⟩ dX8_scanName_111
              · have join_95 : ∀ (kn2 : Int) (H : Heap) (locs : List Loc) (ls : Array Slot), (SA S5) → (kn2 = 1 ∨ (2 ≤ kn2 ∧ kn2 ≤ 12)) → sW G 294 S5 H → sL G locs → lv_has ls 8 [(7, .int (iv wd)), (6, .int (iv kn2)), (5, .int (iv i)), (3, .long (jv pk)), (0, .ref (G.2.2.1 + 12)), (1, .ref (G.2.2.1 + t)), (2, .int (iv i0))] → W p l e (rmk 3 0 0) s m args below meth c H locs 0 0 (MQ below (sQi G 294 (fun r u => cX G u 0 0 0 ∧ Fr S u pQ ∧ ((i0 ≤ r ∧ r ≤ 2001) ∧ SQ u))) args s 0 0 (sF G)) (F0 m 95 ls []) := by
                  intro kn2 H locs ls hsa hkn2 hW hL hl
                  refine lv_iinc (v := iv (wd + 1)) (lv' := [(7, .int (iv (wd + 1))), (6, .int (iv kn2)), (5, .int (iv i)), (3, .long (jv pk)), (0, .ref (G.2.2.1 + 12)), (1, .ref (G.2.2.1 + t)), (2, .int (iv i0))]) hx hb dX8_scanName_95 hl (k := 0) rfl ((Int32.ofInt_add _ _).symm) (by decide) rfl (fun ls hl => ?_)
                  refine lv_goto (tgt := 63) hx hb dX8_scanName_98 (by decide) ?_
                  exact ih_63 (wd + 1) kn2 _ _ _ (by omega) hsa (by omega) (by omega) hW hL (lv_sub hl [0, 1, 2, 3, 4, 5, 6] rfl)
                refine lv_iload hx hb dX8_scanName_72 (lv_at hl 1 rfl) ?_
                refine lv_iconst (v := iv 2) hx hb dX8_scanName_74 (by decide) ?_
                refine r_icmp_ne (tgt := 95) hx hb ⟨(by omega), (by omega)⟩ ⟨(by omega), (by omega)⟩ dX8_scanName_75 (by decide) (fun c_7 => ?_) (fun c_7 => ?_)
                · exact join_95 kn _ _ _ hsa (by omega) hW hL (lv_sub hl [0, 1, 2, 3, 4, 5, 6] rfl)
                · refine lv_lload_n hx hb dX8_scanName_78 rfl (lv_at hl 3 rfl) ?_
                  refine zWords Cx hW0 hW hL w_800 dX8_scanName_79 ?_
                  refine lv_iload hx hb dX8_scanName_82 (lv_at hl 0 rfl) ?_
                  refine zWat Cx hW0 hW hL ⟨(by omega), (by omega)⟩ dX8_scanName_84 (fun z_8 hz_8 kz_8 => ?_)
                  refine r_lcmp hx hb ⟨(by omega), (by omega)⟩ ⟨(by omega), (by omega)⟩ dX8_scanName_85 (fun z_9 az_9 bz_9 cz_9 => ?_)
                  refine r_if_ne (tgt := 95) hx hb ⟨(by omega), (by omega)⟩ dX8_scanName_86 (by decide) (fun c_10 => ?_) (fun c_10 => ?_)
                  · exact join_95 kn _ _ _ hsa (by omega) hW hL (lv_sub hl [0, 1, 2, 3, 4, 5, 6] rfl)
                  · refine lv_iconst (v := iv 4) hx hb dX8_scanName_89 (by decide) ?_
                    refine lv_iload hx hb dX8_scanName_90 (lv_at hl 0 rfl) ?_
                    refine r_iadd hx hb dX8_scanName_92 ?_
                    refine lv_istore (lv' := [(6, .int (iv (4 + wd))), (7, .int (iv wd)), (5, .int (iv i)), (3, .long (jv pk)), (0, .ref (G.2.2.1 + 12)), (1, .ref (G.2.2.1 + t)), (2, .int (iv i0))]) hx hb dX8_scanName_93 hl (by decide) rfl (fun ls hl => ?_)
                    exact join_95 (4 + wd) _ _ _ hsa (by omega) hW hL (lv_sub hl [1, 0, 2, 3, 4, 5, 6] rfl)
          exact loop_63 (_ + 1) 0 k0 _ _ _ (Nat.lt_succ_self _) hsa (by omega) (by omega) hW hL (lv_sub hl [0, 1, 2, 3, 4, 5, 6] rfl)
        refine lv_iload hx hb dX8_scanName_44 (lv_at hl 0 rfl) ?_
        refine lv_iload_n hx hb dX8_scanName_46 rfl (lv_at hl 4 rfl) ?_
        refine r_isub hx hb dX8_scanName_47 ?_
        refine lv_bipush (v := iv 8) hx hb dX8_scanName_48 (by decide) ?_
        refine r_icmp_le (tgt := 57) hx hb ⟨(by omega), (by omega)⟩ ⟨(by omega), (by omega)⟩ dX8_scanName_50 (by decide) (fun c_11 => ?_) (fun c_11 => ?_)
        · refine lv_iconst (v := iv 2) hx hb dX8_scanName_57 (by decide) ?_
          exact join_58 2 _ _ _ hsa (by omega) hW hL (lv_sub hl [0, 1, 2, 3, 4] rfl)
        · refine lv_iconst (v := iv 1) hx hb dX8_scanName_53 (by decide) ?_
          refine lv_goto (tgt := 58) hx hb dX8_scanName_54 (by decide) ?_
          exact join_58 1 _ _ _ hsa (by omega) hW hL (lv_sub hl [0, 1, 2, 3, 4] rfl)
      · refine lv_aload_n hx hb dX8_scanName_13 rfl (lv_at hl 3 rfl) ?_
        refine lv_iload hx hb dX8_scanName_14 (lv_at hl 0 rfl) ?_
        have q_12 : 0 ≤ S.1 t 1 ∧ S.1 t 1 ≤ (N : Int) := txt_len ht hI
        have lk_13 : S5.1 t 1 = S.1 t 1 := (hL5_ t (txt_pQ ht).1).1 1
        refine sBi (sV (As := [.int (iv i)]) (rest := []) (k := t) Cx (s_X10_byteAt l G S5 (o := t) (k := i) (N := N) hI5 ht (by omega)) (c_X8_53 Cx rfl rfl (rmk_ok (by omega) (by decide))) hW (Nat.lt_trans ht.1 (by decide)) ht.2.1 rfl rfl hl.1 rfl (Nat.le_of_ble_eq_true rfl) dX8_scanName_16 ⟨Nat.le_of_ble_eq_true rfl, Nat.le_of_ble_eq_true rfl⟩) hL (fun r_16 u_14 H locs k_15 hW hL => ?_)
        obtain ⟨eu_14, xu_14⟩ := k_15
        rw [eu_14] at hW
        refine sBi (sSt (As := [.int (iv r_16)]) (rest := []) Cx (s_X8_isNamePart l G S5 (k := r_16) (by omega)) (c_X8_76 Cx rfl rfl (rmk_ok (by omega) (by decide))) hW rfl hl.1 rfl (Nat.le_of_ble_eq_true rfl) dX8_scanName_19 ⟨Nat.le_of_ble_eq_true rfl, Nat.le_of_ble_eq_true rfl⟩) hL (fun r_19 u_17 H locs k_18 hW hL => ?_)
        obtain ⟨eu_17, xu_17⟩ := k_18
        rw [eu_17] at hW
        refine r_if_eq (tgt := 44) hx hb ⟨(by omega), (by omega)⟩ dX8_scanName_22 (by decide) (fun c_20 => ?_) (fun c_20 => ?_)
        · have join_58 : ∀ (k0 : Int) (H : Heap) (locs : List Loc) (ls : Array Slot), (SA S5) → (k0 = 1 ∨ k0 = 2) → sW G 294 S5 H → sL G locs → lv_has ls 8 [(5, .int (iv i)), (3, .long (jv pk)), (0, .ref (G.2.2.1 + 12)), (1, .ref (G.2.2.1 + t)), (2, .int (iv i0))] → W p l e (rmk 3 0 0) s m args below meth c H locs 0 0 (MQ below (sQi G 294 (fun r u => cX G u 0 0 0 ∧ Fr S u pQ ∧ ((i0 ≤ r ∧ r ≤ 2001) ∧ SQ u))) args s 0 0 (sF G)) (F0 m 58 ls [.int (iv k0)]) := by
            intro k0 H locs ls hsa hk0 hW hL hl
            refine lv_istore (lv' := [(6, .int (iv k0)), (5, .int (iv i)), (3, .long (jv pk)), (0, .ref (G.2.2.1 + 12)), (1, .ref (G.2.2.1 + t)), (2, .int (iv i0))]) hx hb dX8_scanName_58 hl (by decide) rfl (fun ls hl => ?_)
            refine lv_iconst (v := iv 0) hx hb dX8_scanName_60 (by decide) ?_
            refine lv_istore (lv' := [(7, .int (iv 0)), (6, .int (iv k0)), (5, .int (iv i)), (3, .long (jv pk)), (0, .ref (G.2.2.1 + 12)), (1, .ref (G.2.2.1 + t)), (2, .int (iv i0))]) hx hb dX8_scanName_61 hl (by decide) rfl (fun ls hl => ?_)
            have loop_63 : ∀ (fuel : Nat) (wd : Int) (kn : Int) (H : Heap) (locs : List Loc) (ls : Array Slot), (9 - wd).toNat < fuel → (SA S5) → (0 ≤ wd ∧ wd ≤ 9) → (kn = 1 ∨ (2 ≤ kn ∧ kn ≤ 12)) → sW G 294 S5 H → sL G locs → lv_has ls 8 [(7, .int (iv wd)), (6, .int (iv kn)), (5, .int (iv i)), (3, .long (jv pk)), (0, .ref (G.2.2.1 + 12)), (1, .ref (G.2.2.1 + t)), (2, .int (iv i0))] → W p l e (rmk 3 0 0) s m args below meth c H locs 0 0 (MQ below (sQi G 294 (fun r u => cX G u 0 0 0 ∧ Fr S u pQ ∧ ((i0 ≤ r ∧ r ≤ 2001) ∧ SQ u))) args s 0 0 (sF G)) (F0 m 63 ls []) := by
              intro fuel
              induction fuel with
              | zero => intro wd kn H locs ls hmeas hsa hw hkn hW hL hl; exact absurd hmeas (Nat.not_lt_zero _)
              | succ fuel ih_63 =>
                intro wd kn H locs ls hmeas hsa hw hkn hW hL hl
                refine lv_iload hx hb dX8_scanName_63 (lv_at hl 0 rfl) ?_
                refine zWords Cx hW0 hW hL w_800 dX8_scanName_65 ?_
                refine zWlen Cx hW0 hW hL dX8_scanName_68 ?_
                refine r_icmp_ge (tgt := 101) hx hb ⟨(by omega), (by omega)⟩ ⟨(by omega), (by omega)⟩ dX8_scanName_69 (by decide) (fun c_21 => ?_) (fun c_21 => ?_)
                · refine lv_aload_n hx hb dX8_scanName_101 rfl (lv_at hl 4 rfl) ?_
                  refine lv_iload hx hb dX8_scanName_102 (lv_at hl 1 rfl) ?_
                  refine lv_iload_n hx hb dX8_scanName_104 rfl (lv_at hl 6 rfl) ?_
                  refine lv_lload_n hx hb dX8_scanName_105 rfl (lv_at hl 3 rfl) ?_
                  refine sBv (sV (As := [.int (iv kn), .int (iv i0), .long (jv pk)]) (rest := []) (k := 12) Cx (s_X8_token l G S5 (kk := kn) (sr := i0) (v := pk) hI5 (by omega) (by omega) (by omega) hsa (fun _ => hm.2.2.2)) (c_X8_49 Cx rfl rfl (rmk_ok (by omega) (by decide))) hW (by decide) rfl rfl rfl hl.1 rfl (Nat.le_of_ble_eq_true rfl) dX8_scanName_106 ⟨Nat.le_of_ble_eq_true rfl, Nat.le_of_ble_eq_true rfl⟩) hL (fun u_22 H locs k_23 hW hL => ?_)
                  obtain ⟨iu_22, fu_22, xu_22⟩ := k_23
                  have F_24 := hFm5.trans fu_22
                  have F_25 := hL5_.trans fu_22
                  have hq : SQ u_22 := tok_q xu_22 (by omega)
                  refine lv_iload hx hb dX8_scanName_109 (lv_at hl 2 rfl) ?_
                  exact sIret Cx hr hlk hW hL ⟨iu_22, F_24, ⟨(by omega), hq⟩⟩ dX8_scanName_111
                · have join_95 : ∀ (kn2 : Int) (H : Heap) (locs : List Loc) (ls : Array Slot), (SA S5) → (kn2 = 1 ∨ (2 ≤ kn2 ∧ kn2 ≤ 12)) → sW G 294 S5 H → sL G locs → lv_has ls 8 [(7, .int (iv wd)), (6, .int (iv kn2)), (5, .int (iv i)), (3, .long (jv pk)), (0, .ref (G.2.2.1 + 12)), (1, .ref (G.2.2.1 + t)), (2, .int (iv i0))] → W p l e (rmk 3 0 0) s m args below meth c H locs 0 0 (MQ below (sQi G 294 (fun r u => cX G u 0 0 0 ∧ Fr S u pQ ∧ ((i0 ≤ r ∧ r ≤ 2001) ∧ SQ u))) args s 0 0 (sF G)) (F0 m 95 ls []) := by
                    intro kn2 H locs ls hsa hkn2 hW hL hl
                    refine lv_iinc (v := iv (wd + 1)) (lv' := [(7, .int (iv (wd + 1))), (6, .int (iv kn2)), (5, .int (iv i)), (3, .long (jv pk)), (0, .ref (G.2.2.1 + 12)), (1, .ref (G.2.2.1 + t)), (2, .int (iv i0))]) hx hb dX8_scanName_95 hl (k := 0) rfl ((Int32.ofInt_add _ _).symm) (by decide) rfl (fun ls hl => ?_)
                    refine lv_goto (tgt := 63) hx hb dX8_scanName_98 (by decide) ?_
                    exact ih_63 (wd + 1) kn2 _ _ _ (by omega) hsa (by omega) (by omega) hW hL (lv_sub hl [0, 1, 2, 3, 4, 5, 6] rfl)
                  refine lv_iload hx hb dX8_scanName_72 (lv_at hl 1 rfl) ?_
                  refine lv_iconst (v := iv 2) hx hb dX8_scanName_74 (by decide) ?_
                  refine r_icmp_ne (tgt := 95) hx hb ⟨(by omega), (by omega)⟩ ⟨(by omega), (by omega)⟩ dX8_scanName_75 (by decide) (fun c_26 => ?_) (fun c_26 => ?_)
                  · exact join_95 kn _ _ _ hsa (by omega) hW hL (lv_sub hl [0, 1, 2, 3, 4, 5, 6] rfl)
                  · refine lv_lload_n hx hb dX8_scanName_78 rfl (lv_at hl 3 rfl) ?_
                    refine zWords Cx hW0 hW hL w_800 dX8_scanName_79 ?_
                    refine lv_iload hx hb dX8_scanName_82 (lv_at hl 0 rfl) ?_
                    refine zWat Cx hW0 hW hL ⟨(by omega), (by omega)⟩ dX8_scanName_84 (fun z_27 hz_27 kz_27 => ?_)
                    refine r_lcmp hx hb ⟨(by omega), (by omega)⟩ ⟨(by omega), (by omega)⟩ dX8_scanName_85 (fun z_28 az_28 bz_28 cz_28 => ?_)
                    refine r_if_ne (tgt := 95) hx hb ⟨(by omega), (by omega)⟩ dX8_scanName_86 (by decide) (fun c_29 => ?_) (fun c_29 => ?_)
                    · exact join_95 kn _ _ _ hsa (by omega) hW hL (lv_sub hl [0, 1, 2, 3, 4, 5, 6] rfl)
                    · refine lv_iconst (v := iv 4) hx hb dX8_scanName_89 (by decide) ?_
                      refine lv_iload hx hb dX8_scanName_90 (lv_at hl 0 rfl) ?_
                      refine r_iadd hx hb dX8_scanName_92 ?_
                      refine lv_istore (lv' := [(6, .int (iv (4 + wd))), (7, .int (iv wd)), (5, .int (iv i)), (3, .long (jv pk)), (0, .ref (G.2.2.1 + 12)), (1, .ref (G.2.2.1 + t)), (2, .int (iv i0))]) hx hb dX8_scanName_93 hl (by decide) rfl (fun ls hl => ?_)
                      exact join_95 (4 + wd) _ _ _ hsa (by omega) hW hL (lv_sub hl [1, 0, 2, 3, 4, 5, 6] rfl)
            exact loop_63 (_ + 1) 0 k0 _ _ _ (Nat.lt_succ_self _) hsa (by omega) (by omega) hW hL (lv_sub hl [0, 1, 2, 3, 4, 5, 6] rfl)
          refine lv_iload hx hb dX8_scanName_44 (lv_at hl 0 rfl) ?_
          refine lv_iload_n hx hb dX8_scanName_46 rfl (lv_at hl 4 rfl) ?_
          refine r_isub hx hb dX8_scanName_47 ?_
          refine lv_bipush (v := iv 8) hx hb dX8_scanName_48 (by decide) ?_
          refine r_icmp_le (tgt := 57) hx hb ⟨(by omega), (by omega)⟩ ⟨(by omega), (by omega)⟩ dX8_scanName_50 (by decide) (fun c_30 => ?_) (fun c_30 => ?_)
          · refine lv_iconst (v := iv 2) hx hb dX8_scanName_57 (by decide) ?_
            exact join_58 2 _ _ _ hsa (by omega) hW hL (lv_sub hl [0, 1, 2, 3, 4] rfl)
          · refine lv_iconst (v := iv 1) hx hb dX8_scanName_53 (by decide) ?_
            refine lv_goto (tgt := 58) hx hb dX8_scanName_54 (by decide) ?_
            exact join_58 1 _ _ _ hsa (by omega) hW hL (lv_sub hl [0, 1, 2, 3, 4] rfl)
        · refine lv_lload_n hx hb dX8_scanName_25 rfl (lv_at hl 1 rfl) ?_
          refine lv_bipush (v := iv 8) hx hb dX8_scanName_26 (by decide) ?_
          refine r_lshl8 hx hb dX8_scanName_28 ?_
          refine lv_aload_n hx hb dX8_scanName_29 rfl (lv_at hl 3 rfl) ?_
          refine lv_iload hx hb dX8_scanName_30 (lv_at hl 0 rfl) ?_
          refine sBi (sV (As := [.int (iv i)]) (rest := [.long (jv (pk * 256))]) (k := t) Cx (s_X10_byteAt l G S5 (o := t) (k := i) (N := N) hI5 ht (by omega)) (c_X8_53 Cx rfl rfl (rmk_ok (by omega) (by decide))) hW (Nat.lt_trans ht.1 (by decide)) ht.2.1 rfl rfl hl.1 rfl (Nat.le_of_ble_eq_true rfl) dX8_scanName_32 ⟨Nat.le_of_ble_eq_true rfl, Nat.le_of_ble_eq_true rfl⟩) hL (fun r_33 u_31 H locs k_32 hW hL => ?_)
          obtain ⟨eu_31, xu_31⟩ := k_32
          rw [eu_31] at hW
          refine r_i2l hx hb ⟨(by omega), (by omega)⟩ dX8_scanName_35 ?_
          refine r_lor8 hx hb (b := r_33) ⟨(by omega), (by omega)⟩ dX8_scanName_36 (fun zp qzp hzp kzp ezp => ?_)
          refine lv_lstore_n (lv' := [(3, .long (jv zp)), (5, .int (iv i)), (0, .ref (G.2.2.1 + 12)), (1, .ref (G.2.2.1 + t)), (2, .int (iv i0))]) hx hb dX8_scanName_37 rfl hl (by decide) rfl (fun ls hl => ?_)
          refine lv_iinc (v := iv (i + 1)) (lv' := [(5, .int (iv (i + 1))), (3, .long (jv zp)), (0, .ref (G.2.2.1 + 12)), (1, .ref (G.2.2.1 + t)), (2, .int (iv i0))]) hx hb dX8_scanName_38 hl (k := 1) rfl ((Int32.ofInt_add _ _).symm) (by decide) rfl (fun ls hl => ?_)
          refine lv_goto (tgt := 5) hx hb dX8_scanName_41 (by decide) ?_
          exact ih_5 S5 (i + 1) zp _ _ _ (by omega) hI5 hFm5 hL5_ (by omega) hsa (by omega) (nm_st hm (by omega) ezp) hW hL (lv_sub hl [0, 1, 2, 3, 4] rfl)
  exact loop_5 (_ + 1) S i0 0 _ _ _ (Nat.lt_succ_self _) hI (Fr.rf : Fr S S pQ) Fr.rf (by omega) hsa (by omega) (by decide) hW hL (lv_sub hl [0, 1, 2, 3, 4] rfl)

set_option maxRecDepth 100000 in
set_option maxHeartbeats 4000000 in
theorem s_X8_scanOne (l : Launch) (G : sG) (S : sS) {t N : Nat} {i0 : Int} (hI : cX G S 0 0 0) (ht : txt t N) (hi0 : 0 ≤ i0 ∧ i0 ≤ 1999 ∧ i0 < S.1 t 1) (hsa : SA S) : Met l yX8_scanOne (.code yX8_scanOne cX8_scanOne 6 (some .int) :: tb) (rmk 5 0 0) (sPc G 294 S [.ref (G.2.2.1 + 12), .ref (G.2.2.1 + t), .int (iv i0)]) (sQi G 294 (fun r u => cX G u 0 0 0 ∧ Fr S u pQ ∧ ((i0 ≤ r ∧ r ≤ 2001) ∧ SQ u))) 0 0 (sF G) := by
  refine sEnter (by decide) (Nat.le_of_ble_eq_true rfl) ?_
  intro p e s m args below meth c Cx hr hlk hnm hW ls hl
  have Cx : sC G p m c cX8_scanOne 6 s args RX8 := Cx
  obtain ⟨hx, hb, hml, hown, hts⟩ := id Cx.1
  have hL : sL G [] := sL_nil
  have hl : lv_has ls 6 [(0, .ref (G.2.2.1 + 12)), (1, .ref (G.2.2.1 + t)), (2, .int (iv i0))] := hl
  have hW0 := hW
  have hN3 := ht.2.2.2.2.2
  refine lv_aload_n hx hb dX8_scanOne_0 rfl (lv_at hl 1 rfl) ?_
  refine lv_iload_n hx hb dX8_scanOne_1 rfl (lv_at hl 2 rfl) ?_
  have q_1 : 0 ≤ S.1 t 1 ∧ S.1 t 1 ≤ (N : Int) := txt_len ht hI
  refine sBi (sV (As := [.int (iv i0)]) (rest := []) (k := t) Cx (s_X10_byteAt l G S (o := t) (k := i0) (N := N) hI ht (by omega)) (c_X8_53 Cx rfl rfl (rmk_ok (by omega) (by decide))) hW (Nat.lt_trans ht.1 (by decide)) ht.2.1 rfl rfl hl.1 rfl (Nat.le_of_ble_eq_true rfl) dX8_scanOne_2 ⟨Nat.le_of_ble_eq_true rfl, Nat.le_of_ble_eq_true rfl⟩) hL (fun r_4 u_2 H locs k_3 hW hL => ?_)
  obtain ⟨eu_2, xu_2⟩ := k_3
  rw [eu_2] at hW
  refine lv_istore_n (lv' := [(3, .int (iv r_4)), (0, .ref (G.2.2.1 + 12)), (1, .ref (G.2.2.1 + t)), (2, .int (iv i0))]) hx hb dX8_scanOne_5 rfl hl (by decide) rfl (fun ls hl => ?_)
  refine lv_iload_n hx hb dX8_scanOne_6 rfl (lv_at hl 0 rfl) ?_
  refine lv_bipush (v := iv 32) hx hb dX8_scanOne_7 (by decide) ?_
  refine r_icmp_eq (tgt := 18) hx hb ⟨(by omega), (by omega)⟩ ⟨(by omega), (by omega)⟩ dX8_scanOne_9 (by decide) (fun c_5 => ?_) (fun c_5 => ?_)
  · refine lv_iload_n hx hb dX8_scanOne_18 rfl (lv_at hl 3 rfl) ?_
    refine lv_iconst (v := iv 1) hx hb dX8_scanOne_19 (by decide) ?_
    refine r_iadd hx hb dX8_scanOne_20 ?_
    exact sIret Cx hr hlk hW hL ⟨hI, (Fr.rf : Fr S S pQ), ⟨(by omega), hsa.q⟩⟩ dX8_scanOne_21
  · refine lv_iload_n hx hb dX8_scanOne_12 rfl (lv_at hl 0 rfl) ?_
    refine lv_bipush (v := iv 10) hx hb dX8_scanOne_13 (by decide) ?_
    refine r_icmp_ne (tgt := 22) hx hb ⟨(by omega), (by omega)⟩ ⟨(by omega), (by omega)⟩ dX8_scanOne_15 (by decide) (fun c_6 => ?_) (fun c_6 => ?_)
    · refine lv_iload_n hx hb dX8_scanOne_22 rfl (lv_at hl 0 rfl) ?_
      refine sBi (sSt (As := [.int (iv r_4)]) (rest := []) Cx (s_X8_isLetter l G S (k := r_4) (by omega)) (c_X8_56 Cx rfl rfl (rmk_ok (by omega) (by decide))) hW rfl hl.1 rfl (Nat.le_of_ble_eq_true rfl) dX8_scanOne_23 ⟨Nat.le_of_ble_eq_true rfl, Nat.le_of_ble_eq_true rfl⟩) hL (fun r_9 u_7 H locs k_8 hW hL => ?_)
      obtain ⟨eu_7, xu_7⟩ := k_8
      rw [eu_7] at hW
      refine r_if_eq (tgt := 36) hx hb ⟨(by omega), (by omega)⟩ dX8_scanOne_26 (by decide) (fun c_10 => ?_) (fun c_10 => ?_)
      · refine lv_iload_n hx hb dX8_scanOne_36 rfl (lv_at hl 0 rfl) ?_
        refine sBi (sSt (As := [.int (iv r_4)]) (rest := []) Cx (s_X8_isDigit l G S (k := r_4) (by omega)) (c_X8_63 Cx rfl rfl (rmk_ok (by omega) (by decide))) hW rfl hl.1 rfl (Nat.le_of_ble_eq_true rfl) dX8_scanOne_37 ⟨Nat.le_of_ble_eq_true rfl, Nat.le_of_ble_eq_true rfl⟩) hL (fun r_13 u_11 H locs k_12 hW hL => ?_)
        obtain ⟨eu_11, xu_11⟩ := k_12
        rw [eu_11] at hW
        refine r_if_eq (tgt := 50) hx hb ⟨(by omega), (by omega)⟩ dX8_scanOne_40 (by decide) (fun c_14 => ?_) (fun c_14 => ?_)
        · have join_78 : ∀ (S78 : sS) (tw : Int) (H : Heap) (locs : List Loc) (ls : Array Slot), (cX G S78 0 0 0) → (Fr S S78 pQ) → (Fr S S78 pQ) → (SA S78) → (0 ≤ tw ∧ tw ≤ 1) → sW G 294 S78 H → sL G locs → lv_has ls 6 [(3, .int (iv r_4)), (0, .ref (G.2.2.1 + 12)), (1, .ref (G.2.2.1 + t)), (2, .int (iv i0))] → W p l e (rmk 5 0 0) s m args below meth c H locs 0 0 (MQ below (sQi G 294 (fun r u => cX G u 0 0 0 ∧ Fr S u pQ ∧ ((i0 ≤ r ∧ r ≤ 2001) ∧ SQ u))) args s 0 0 (sF G)) (F0 m 78 ls [.int (iv tw)]) := by
            intro S78 tw H locs ls hI78 hFm78 hL78_ hsa htw hW hL hl
            refine lv_istore (lv' := [(4, .int (iv tw)), (3, .int (iv r_4)), (0, .ref (G.2.2.1 + 12)), (1, .ref (G.2.2.1 + t)), (2, .int (iv i0))]) hx hb dX8_scanOne_78 hl (by decide) rfl (fun ls hl => ?_)
            have join_137 : ∀ (S137 : sS)  (H : Heap) (locs : List Loc) (ls : Array Slot), (cX G S137 0 0 0) → (Fr S S137 pQ) → (Fr S S137 pQ) → (Fr S78 S137 pQ) → (SA S137) → sW G 294 S137 H → sL G locs → lv_has ls 6 [(4, .int (iv tw)), (3, .int (iv r_4)), (0, .ref (G.2.2.1 + 12)), (1, .ref (G.2.2.1 + t)), (2, .int (iv i0))] → W p l e (rmk 5 0 0) s m args below meth c H locs 0 0 (MQ below (sQi G 294 (fun r u => cX G u 0 0 0 ∧ Fr S u pQ ∧ ((i0 ≤ r ∧ r ≤ 2001) ∧ SQ u))) args s 0 0 (sF G)) (F0 m 137 ls []) := by
              intro S137  H locs ls hI137 hFm137 hFL78137 hL137_ hsa hW hL hl
              have join_155 : ∀ (sg : Int) (H : Heap) (locs : List Loc) (ls : Array Slot), (SA S137) → (-1 ≤ sg ∧ sg < 10) → sW G 294 S137 H → sL G locs → lv_has ls 6 [(4, .int (iv tw)), (3, .int (iv r_4)), (0, .ref (G.2.2.1 + 12)), (1, .ref (G.2.2.1 + t)), (2, .int (iv i0))] → W p l e (rmk 5 0 0) s m args below meth c H locs 0 0 (MQ below (sQi G 294 (fun r u => cX G u 0 0 0 ∧ Fr S u pQ ∧ ((i0 ≤ r ∧ r ≤ 2001) ∧ SQ u))) args s 0 0 (sF G)) (F0 m 155 ls [.int (iv sg)]) := by
                intro sg H locs ls hsa hsg hW hL hl
                refine lv_istore (lv' := [(5, .int (iv sg)), (4, .int (iv tw)), (3, .int (iv r_4)), (0, .ref (G.2.2.1 + 12)), (1, .ref (G.2.2.1 + t)), (2, .int (iv i0))]) hx hb dX8_scanOne_155 hl (by decide) rfl (fun ls hl => ?_)
                refine lv_aload_n hx hb dX8_scanOne_157 rfl (lv_at hl 3 rfl) ?_
                have join_183 : ∀ (kb : Int) (H : Heap) (locs : List Loc) (ls : Array Slot), (SA S137) → (1 ≤ kb ∧ kb ≤ 26) → sW G 294 S137 H → sL G locs → lv_has ls 6 [(5, .int (iv sg)), (4, .int (iv tw)), (3, .int (iv r_4)), (0, .ref (G.2.2.1 + 12)), (1, .ref (G.2.2.1 + t)), (2, .int (iv i0))] → W p l e (rmk 5 0 0) s m args below meth c H locs 0 0 (MQ below (sQi G 294 (fun r u => cX G u 0 0 0 ∧ Fr S u pQ ∧ ((i0 ≤ r ∧ r ≤ 2001) ∧ SQ u))) args s 0 0 (sF G)) (F0 m 183 ls [.int (iv kb), .ref (G.2.2.1 + 12)]) := by
                  intro kb H locs ls hsa hkb hW hL hl
                  refine lv_iload_n hx hb dX8_scanOne_183 rfl (lv_at hl 5 rfl) ?_
                  refine lv_lconst (v := jv 0) hx hb dX8_scanOne_184 (by decide) ?_
                  refine sBv (sV (As := [.int (iv kb), .int (iv i0), .long (jv 0)]) (rest := []) (k := 12) Cx (s_X8_token l G S137 (kk := kb) (sr := i0) (v := 0) hI137 (by omega) (by omega) (by omega) hsa (fun _ => lb0)) (c_X8_49 Cx rfl rfl (rmk_ok (by omega) (by decide))) hW (by decide) rfl rfl rfl hl.1 rfl (Nat.le_of_ble_eq_true rfl) dX8_scanOne_185 ⟨Nat.le_of_ble_eq_true rfl, Nat.le_of_ble_eq_true rfl⟩) hL (fun u_15 H locs k_16 hW hL => ?_)
                  obtain ⟨iu_15, fu_15, xu_15⟩ := k_16
                  have F_17 := hFm137.trans fu_15
                  have F_18 := hFL78137.trans fu_15
                  have F_19 := hL137_.trans fu_15
                  have hq : SQ u_15 := tok_q xu_15 (by omega)
                  refine lv_iload_n hx hb dX8_scanOne_188 rfl (lv_at hl 5 rfl) ?_
                  refine lv_iconst (v := iv 1) hx hb dX8_scanOne_189 (by decide) ?_
                  refine r_iadd hx hb dX8_scanOne_190 ?_
                  exact sIret Cx hr hlk hW hL ⟨iu_15, F_17, ⟨(by omega), hq⟩⟩ dX8_scanOne_191
                refine lv_iload_n hx hb dX8_scanOne_158 rfl (lv_at hl 2 rfl) ?_
                refine lv_bipush (v := iv 61) hx hb dX8_scanOne_159 (by decide) ?_
                refine r_icmp_ne (tgt := 169) hx hb ⟨(by omega), (by omega)⟩ ⟨(by omega), (by omega)⟩ dX8_scanOne_161 (by decide) (fun c_20 => ?_) (fun c_20 => ?_)
                · refine lv_iload hx hb dX8_scanOne_169 (lv_at hl 0 rfl) ?_
                  refine r_if_lt (tgt := 182) hx hb ⟨(by omega), (by omega)⟩ dX8_scanOne_171 (by decide) (fun c_21 => ?_) (fun c_21 => ?_)
                  · refine lv_iconst (v := iv 1) hx hb dX8_scanOne_182 (by decide) ?_
                    exact join_183 1 _ _ _ hsa (by omega) hW hL (lv_sub hl [0, 1, 2, 3, 4, 5] rfl)
                  · refine lv_bipush (v := iv 15) hx hb dX8_scanOne_174 (by decide) ?_
                    refine lv_iload hx hb dX8_scanOne_176 (lv_at hl 0 rfl) ?_
                    refine r_iadd hx hb dX8_scanOne_178 ?_
                    refine lv_goto (tgt := 183) hx hb dX8_scanOne_179 (by decide) ?_
                    exact join_183 (15 + sg) _ _ _ hsa (by omega) hW hL (lv_sub hl [0, 1, 2, 3, 4, 5] rfl)
                · refine lv_bipush (v := iv 13) hx hb dX8_scanOne_164 (by decide) ?_
                  refine lv_goto (tgt := 183) hx hb dX8_scanOne_166 (by decide) ?_
                  exact join_183 13 _ _ _ hsa (by omega) hW hL (lv_sub hl [0, 1, 2, 3, 4, 5] rfl)
              refine lv_iload_n hx hb dX8_scanOne_137 rfl (lv_at hl 1 rfl) ?_
              refine lv_sipush (v := iv 128) hx hb dX8_scanOne_138 (by decide) ?_
              refine r_icmp_ge (tgt := 154) hx hb ⟨(by omega), (by omega)⟩ ⟨(by omega), (by omega)⟩ dX8_scanOne_141 (by decide) (fun c_22 => ?_) (fun c_22 => ?_)
              · refine lv_iconst (v := iv (-1)) hx hb dX8_scanOne_154 (by decide) ?_
                exact join_155 ((-1)) _ _ _ hsa (by omega) hW hL (lv_sub hl [0, 1, 2, 3, 4] rfl)
              · refine zLdc Cx 0 (by decide) ⟨rfl, rfl⟩ dX8_scanOne_144 ?_
                refine lv_iload_n hx hb dX8_scanOne_146 rfl (lv_at hl 1 rfl) ?_
                refine r_i2c hx hb ⟨(by omega), (by omega)⟩ dX8_scanOne_147 ?_
                refine sBi (sVz (As := [.int (iv r_4)]) (rest := []) (a := G.1.2 100 0) Cx (s_J0_indexOf_z l G S137 (si := 0) (k := r_4) (by decide) (by omega)) (c_X8_71 Cx rfl rfl (rmk_ok (by omega) (by decide))) hW (zRecv Cx hW0 hW (by decide)) rfl hl.1 rfl (Nat.le_of_ble_eq_true rfl) dX8_scanOne_148 ⟨Nat.le_of_ble_eq_true rfl, Nat.le_of_ble_eq_true rfl⟩) hL (fun r_25 u_23 H locs k_24 hW hL => ?_)
                obtain ⟨eu_23, xu_23⟩ := k_24
                rw [eu_23] at hW
                have h10 : ((strN.getD 0 0 : Nat) : Int) = 10 := by decide
                refine lv_goto (tgt := 155) hx hb dX8_scanOne_151 (by decide) ?_
                exact join_155 r_25 _ _ _ hsa (by omega) hW hL (lv_sub hl [0, 1, 2, 3, 4] rfl)
            refine lv_iload hx hb dX8_scanOne_80 (lv_at hl 0 rfl) ?_
            refine r_if_eq (tgt := 137) hx hb ⟨(by omega), (by omega)⟩ dX8_scanOne_82 (by decide) (fun c_26 => ?_) (fun c_26 => ?_)
            · exact join_137 S78  _ _ _ hI78 hFm78 hL78_ (Fr.rf : Fr S78 S78 pQ) hsa hW hL (lv_sub hl [0, 1, 2, 3, 4] rfl)
            · have join_103 : ∀  (H : Heap) (locs : List Loc) (ls : Array Slot), (SA S78) → sW G 294 S78 H → sL G locs → lv_has ls 6 [(4, .int (iv tw)), (3, .int (iv r_4)), (0, .ref (G.2.2.1 + 12)), (1, .ref (G.2.2.1 + t)), (2, .int (iv i0))] → W p l e (rmk 5 0 0) s m args below meth c H locs 0 0 (MQ below (sQi G 294 (fun r u => cX G u 0 0 0 ∧ Fr S u pQ ∧ ((i0 ≤ r ∧ r ≤ 2001) ∧ SQ u))) args s 0 0 (sF G)) (F0 m 103 ls []) := by
                intro  H locs ls hsa hW hL hl
                refine lv_aload_n hx hb dX8_scanOne_103 rfl (lv_at hl 2 rfl) ?_
                have join_128 : ∀ (ka : Int) (H : Heap) (locs : List Loc) (ls : Array Slot), (SA S78) → (2 ≤ ka ∧ ka ≤ 26) → sW G 294 S78 H → sL G locs → lv_has ls 6 [(4, .int (iv tw)), (3, .int (iv r_4)), (0, .ref (G.2.2.1 + 12)), (1, .ref (G.2.2.1 + t)), (2, .int (iv i0))] → W p l e (rmk 5 0 0) s m args below meth c H locs 0 0 (MQ below (sQi G 294 (fun r u => cX G u 0 0 0 ∧ Fr S u pQ ∧ ((i0 ≤ r ∧ r ≤ 2001) ∧ SQ u))) args s 0 0 (sF G)) (F0 m 128 ls [.int (iv ka), .ref (G.2.2.1 + 12)]) := by
                  intro ka H locs ls hsa hka hW hL hl
                  refine lv_iload_n hx hb dX8_scanOne_128 rfl (lv_at hl 4 rfl) ?_
                  refine lv_lconst (v := jv 0) hx hb dX8_scanOne_129 (by decide) ?_
                  refine sBv (sV (As := [.int (iv ka), .int (iv i0), .long (jv 0)]) (rest := []) (k := 12) Cx (s_X8_token l G S78 (kk := ka) (sr := i0) (v := 0) hI78 (by omega) (by omega) (by omega) hsa (fun _ => lb0)) (c_X8_49 Cx rfl rfl (rmk_ok (by omega) (by decide))) hW (by decide) rfl rfl rfl hl.1 rfl (Nat.le_of_ble_eq_true rfl) dX8_scanOne_130 ⟨Nat.le_of_ble_eq_true rfl, Nat.le_of_ble_eq_true rfl⟩) hL (fun u_27 H locs k_28 hW hL => ?_)
                  obtain ⟨iu_27, fu_27, xu_27⟩ := k_28
                  have F_29 := hFm78.trans fu_27
                  have F_30 := hL78_.trans fu_27
                  have F_31 := (Fr.rf : Fr S78 S78 pQ).trans fu_27
                  have hq : SQ u_27 := tok_q xu_27 (by omega)
                  refine lv_iload_n hx hb dX8_scanOne_133 rfl (lv_at hl 4 rfl) ?_
                  refine lv_iconst (v := iv 2) hx hb dX8_scanOne_134 (by decide) ?_
                  refine r_iadd hx hb dX8_scanOne_135 ?_
                  exact sIret Cx hr hlk hW hL ⟨iu_27, F_29, ⟨(by omega), hq⟩⟩ dX8_scanOne_136
                refine lv_iload_n hx hb dX8_scanOne_104 rfl (lv_at hl 1 rfl) ?_
                refine lv_bipush (v := iv 46) hx hb dX8_scanOne_105 (by decide) ?_
                refine r_icmp_ne (tgt := 115) hx hb ⟨(by omega), (by omega)⟩ ⟨(by omega), (by omega)⟩ dX8_scanOne_107 (by decide) (fun c_32 => ?_) (fun c_32 => ?_)
                · refine lv_iload_n hx hb dX8_scanOne_115 rfl (lv_at hl 1 rfl) ?_
                  refine lv_bipush (v := iv 60) hx hb dX8_scanOne_116 (by decide) ?_
                  refine r_icmp_ne (tgt := 126) hx hb ⟨(by omega), (by omega)⟩ ⟨(by omega), (by omega)⟩ dX8_scanOne_118 (by decide) (fun c_33 => ?_) (fun c_33 => ?_)
                  · refine lv_bipush (v := iv 26) hx hb dX8_scanOne_126 (by decide) ?_
                    exact join_128 26 _ _ _ hsa (by omega) hW hL (lv_sub hl [0, 1, 2, 3, 4] rfl)
                  · refine lv_bipush (v := iv 25) hx hb dX8_scanOne_121 (by decide) ?_
                    refine lv_goto (tgt := 128) hx hb dX8_scanOne_123 (by decide) ?_
                    exact join_128 25 _ _ _ hsa (by omega) hW hL (lv_sub hl [0, 1, 2, 3, 4] rfl)
                · refine lv_bipush (v := iv 14) hx hb dX8_scanOne_110 (by decide) ?_
                  refine lv_goto (tgt := 128) hx hb dX8_scanOne_112 (by decide) ?_
                  exact join_128 14 _ _ _ hsa (by omega) hW hL (lv_sub hl [0, 1, 2, 3, 4] rfl)
              refine lv_iload_n hx hb dX8_scanOne_85 rfl (lv_at hl 1 rfl) ?_
              refine lv_bipush (v := iv 46) hx hb dX8_scanOne_86 (by decide) ?_
              refine r_icmp_eq (tgt := 103) hx hb ⟨(by omega), (by omega)⟩ ⟨(by omega), (by omega)⟩ dX8_scanOne_88 (by decide) (fun c_34 => ?_) (fun c_34 => ?_)
              · exact join_103  _ _ _ hsa hW hL (lv_sub hl [0, 1, 2, 3, 4] rfl)
              · refine lv_iload_n hx hb dX8_scanOne_91 rfl (lv_at hl 1 rfl) ?_
                refine lv_bipush (v := iv 60) hx hb dX8_scanOne_92 (by decide) ?_
                refine r_icmp_eq (tgt := 103) hx hb ⟨(by omega), (by omega)⟩ ⟨(by omega), (by omega)⟩ dX8_scanOne_94 (by decide) (fun c_35 => ?_) (fun c_35 => ?_)
                · exact join_103  _ _ _ hsa hW hL (lv_sub hl [0, 1, 2, 3, 4] rfl)
                · refine lv_iload_n hx hb dX8_scanOne_97 rfl (lv_at hl 1 rfl) ?_
                  refine lv_bipush (v := iv 62) hx hb dX8_scanOne_98 (by decide) ?_
                  refine r_icmp_ne (tgt := 137) hx hb ⟨(by omega), (by omega)⟩ ⟨(by omega), (by omega)⟩ dX8_scanOne_100 (by decide) (fun c_36 => ?_) (fun c_36 => ?_)
                  · exact join_137 S78  _ _ _ hI78 hFm78 hL78_ (Fr.rf : Fr S78 S78 pQ) hsa hW hL (lv_sub hl [0, 1, 2, 3, 4] rfl)
                  · exact join_103  _ _ _ hsa hW hL (lv_sub hl [0, 1, 2, 3, 4] rfl)
          refine lv_aload_n hx hb dX8_scanOne_50 rfl (lv_at hl 2 rfl) ?_
          refine lv_iload_n hx hb dX8_scanOne_51 rfl (lv_at hl 3 rfl) ?_
          refine lv_iconst (v := iv 1) hx hb dX8_scanOne_52 (by decide) ?_
          refine r_iadd hx hb dX8_scanOne_53 ?_
          refine sBi (sV (As := [.int (iv (i0 + 1))]) (rest := []) (k := t) Cx (s_X10_byteAt l G S (o := t) (k := i0 + 1) (N := N) hI ht (by omega)) (c_X8_53 Cx rfl rfl (rmk_ok (by omega) (by decide))) hW (Nat.lt_trans ht.1 (by decide)) ht.2.1 rfl rfl hl.1 rfl (Nat.le_of_ble_eq_true rfl) dX8_scanOne_54 ⟨Nat.le_of_ble_eq_true rfl, Nat.le_of_ble_eq_true rfl⟩) hL (fun r_39 u_37 H locs k_38 hW hL => ?_)
          obtain ⟨eu_37, xu_37⟩ := k_38
          rw [eu_37] at hW
          refine lv_iload_n hx hb dX8_scanOne_57 rfl (lv_at hl 0 rfl) ?_
          refine lv_bipush (v := iv 46) hx hb dX8_scanOne_58 (by decide) ?_
          refine r_icmp_ne (tgt := 68) hx hb ⟨(by omega), (by omega)⟩ ⟨(by omega), (by omega)⟩ dX8_scanOne_60 (by decide) (fun c_40 => ?_) (fun c_40 => ?_)
          · refine lv_bipush (v := iv 61) hx hb dX8_scanOne_68 (by decide) ?_
            refine r_icmp_ne (tgt := 77) hx hb ⟨(by omega), (by omega)⟩ ⟨(by omega), (by omega)⟩ dX8_scanOne_70 (by decide) (fun c_41 => ?_) (fun c_41 => ?_)
            · refine lv_iconst (v := iv 0) hx hb dX8_scanOne_77 (by decide) ?_
              exact join_78 S 0 _ _ _ hI (Fr.rf : Fr S S pQ) (Fr.rf : Fr S S pQ) hsa (by omega) hW hL (lv_sub hl [0, 1, 2, 3] rfl)
            · refine lv_iconst (v := iv 1) hx hb dX8_scanOne_73 (by decide) ?_
              refine lv_goto (tgt := 78) hx hb dX8_scanOne_74 (by decide) ?_
              exact join_78 S 1 _ _ _ hI (Fr.rf : Fr S S pQ) (Fr.rf : Fr S S pQ) hsa (by omega) hW hL (lv_sub hl [0, 1, 2, 3] rfl)
          · refine lv_bipush (v := iv 46) hx hb dX8_scanOne_63 (by decide) ?_
            refine lv_goto (tgt := 70) hx hb dX8_scanOne_65 (by decide) ?_
            refine r_icmp_ne (tgt := 77) hx hb ⟨(by omega), (by omega)⟩ ⟨(by omega), (by omega)⟩ dX8_scanOne_70 (by decide) (fun c_42 => ?_) (fun c_42 => ?_)
            · refine lv_iconst (v := iv 0) hx hb dX8_scanOne_77 (by decide) ?_
              exact join_78 S 0 _ _ _ hI (Fr.rf : Fr S S pQ) (Fr.rf : Fr S S pQ) hsa (by omega) hW hL (lv_sub hl [0, 1, 2, 3] rfl)
            · refine lv_iconst (v := iv 1) hx hb dX8_scanOne_73 (by decide) ?_
              refine lv_goto (tgt := 78) hx hb dX8_scanOne_74 (by decide) ?_
              exact join_78 S 1 _ _ _ hI (Fr.rf : Fr S S pQ) (Fr.rf : Fr S S pQ) hsa (by omega) hW hL (lv_sub hl [0, 1, 2, 3] rfl)
        · refine lv_aload_n hx hb dX8_scanOne_43 rfl (lv_at hl 1 rfl) ?_
          refine lv_aload_n hx hb dX8_scanOne_44 rfl (lv_at hl 2 rfl) ?_
          refine lv_iload_n hx hb dX8_scanOne_45 rfl (lv_at hl 3 rfl) ?_
          refine sBi (sV (As := [.ref (G.2.2.1 + t), .int (iv i0)]) (rest := []) (k := 12) Cx (s_X8_scanNumber l G S (t := t) (i0 := i0) (N := N) hI ht (by omega) hsa) (c_X8_66 Cx rfl rfl (rmk_ok (by omega) (by decide))) hW (by decide) rfl rfl rfl hl.1 rfl (Nat.le_of_ble_eq_true rfl) dX8_scanOne_46 ⟨Nat.le_of_ble_eq_true rfl, Nat.le_of_ble_eq_true rfl⟩) hL (fun r_45 u_43 H locs k_44 hW hL => ?_)
          obtain ⟨iu_43, fu_43, xu_43⟩ := k_44
          have F_46 := (Fr.rf : Fr S S pQ).trans fu_43
          have hq : SQ u_43 := (xu_43).2
          exact sIret Cx hr hlk hW hL ⟨iu_43, F_46, ⟨(by omega), hq⟩⟩ dX8_scanOne_49
      · refine lv_aload_n hx hb dX8_scanOne_29 rfl (lv_at hl 1 rfl) ?_
        refine lv_aload_n hx hb dX8_scanOne_30 rfl (lv_at hl 2 rfl) ?_
        refine lv_iload_n hx hb dX8_scanOne_31 rfl (lv_at hl 3 rfl) ?_
        refine sBi (sV (As := [.ref (G.2.2.1 + t), .int (iv i0)]) (rest := []) (k := 12) Cx (s_X8_scanName l G S (t := t) (i0 := i0) (N := N) hI ht (by omega) hsa) (c_X8_60 Cx rfl rfl (rmk_ok (by omega) (by decide))) hW (by decide) rfl rfl rfl hl.1 rfl (Nat.le_of_ble_eq_true rfl) dX8_scanOne_32 ⟨Nat.le_of_ble_eq_true rfl, Nat.le_of_ble_eq_true rfl⟩) hL (fun r_49 u_47 H locs k_48 hW hL => ?_)
        obtain ⟨iu_47, fu_47, xu_47⟩ := k_48
        have F_50 := (Fr.rf : Fr S S pQ).trans fu_47
        have hq : SQ u_47 := (xu_47).2
        exact sIret Cx hr hlk hW hL ⟨iu_47, F_50, ⟨(by omega), hq⟩⟩ dX8_scanOne_35
    · refine lv_iload_n hx hb dX8_scanOne_18 rfl (lv_at hl 3 rfl) ?_
      refine lv_iconst (v := iv 1) hx hb dX8_scanOne_19 (by decide) ?_
      refine r_iadd hx hb dX8_scanOne_20 ?_
      exact sIret Cx hr hlk hW hL ⟨hI, (Fr.rf : Fr S S pQ), ⟨(by omega), hsa.q⟩⟩ dX8_scanOne_21

set_option maxRecDepth 100000 in
set_option maxHeartbeats 4000000 in
theorem s_X8_scan (l : Launch) (G : sG) (S : sS) {t N : Nat} (hI : cX G S 0 0 0) (ht : txt t N) : Met l yX8_scan (.code yX8_scan cX8_scan 5 none :: tb) (rmk 6 0 0) (sPc G 294 S [.ref (G.2.2.1 + 12), .ref (G.2.2.1 + t)]) (sQv G 294 (fun u => cX G u 0 0 0 ∧ Fr S u pQ ∧ (SE u))) 0 0 (sF G) := by
  refine sEnter (by decide) (Nat.le_of_ble_eq_true rfl) ?_
  intro p e s m args below meth c Cx hr hlk hnm hW ls hl
  have Cx : sC G p m c cX8_scan 5 s args RX8 := Cx
  obtain ⟨hx, hb, hml, hown, hts⟩ := id Cx.1
  have hL : sL G [] := sL_nil
  have hl : lv_has ls 5 [(0, .ref (G.2.2.1 + 12)), (1, .ref (G.2.2.1 + t))] := hl
  have hW0 := hW
  have hN3 := ht.2.2.2.2.2
  refine lv_aload_n hx hb dX8_scan_0 rfl (lv_at hl 0 rfl) ?_
  refine lv_iconst (v := iv 0) hx hb dX8_scan_1 (by decide) ?_
  refine p_X8_22 Cx hW hL (k := 12) (by decide) rfl dX8_scan_2 (fun H locs hW hL => ?_)
  have F_1 : Fr S (uF S 12 3 0) pQ := (Fr.rf : Fr S S pQ).F rfl
  have i_2 : cX G (uF S 12 3 0) 0 0 0 := hI.F rfl rfl (show 0 ≤ 0 ∧ 0 ≤ 2001 from ⟨by omega, by omega⟩)
  refine lv_aload_n hx hb dX8_scan_5 rfl (lv_at hl 1 rfl) ?_
  have q_3 : 0 ≤ S.1 t 1 ∧ S.1 t 1 ≤ (N : Int) := txt_len ht hI
  have lk_4 : (uF S 12 3 0).1 t 1 = S.1 t 1 := uF_ne (fun h => absurd h.2 (by decide))
  refine sBi (sV (As := []) (rest := []) (k := t) Cx (s_X10_length l G (uF S 12 3 0) (o := t) (N := N) i_2 ht) (c_X8_33 Cx rfl rfl (rmk_ok (by omega) (by decide))) hW (Nat.lt_trans ht.1 (by decide)) ht.2.1 rfl rfl hl.1 rfl (Nat.le_of_ble_eq_true rfl) dX8_scan_6 ⟨Nat.le_of_ble_eq_true rfl, Nat.le_of_ble_eq_true rfl⟩) hL (fun r_7 u_5 H locs k_6 hW hL => ?_)
  obtain ⟨eu_5, xu_5⟩ := k_6
  rw [eu_5] at hW
  refine lv_sipush (v := iv 2000) hx hb dX8_scan_9 (by decide) ?_
  refine r_min hx hb (hml.trans hl.1.symm) hown (hts _ w_776) (hts _ w_777) (hts _ w_206) (hts _ w_778) (rmk_f (by omega)) (rmk_l (by omega) (Nat.le_of_ble_eq_true rfl)) (Nat.le_of_ble_eq_true rfl) (Nat.le_of_ble_eq_true rfl) ⟨(by omega), (by omega)⟩ ⟨(by omega), (by omega)⟩ dX8_scan_12 (fun z_8 hz_8 => ?_)
  refine lv_istore_n (lv' := [(2, .int (iv z_8)), (0, .ref (G.2.2.1 + 12)), (1, .ref (G.2.2.1 + t))]) hx hb dX8_scan_15 rfl hl (by decide) rfl (fun ls hl => ?_)
  refine lv_iconst (v := iv 0) hx hb dX8_scan_16 (by decide) ?_
  refine lv_istore_n (lv' := [(3, .int (iv 0)), (2, .int (iv z_8)), (0, .ref (G.2.2.1 + 12)), (1, .ref (G.2.2.1 + t))]) hx hb dX8_scan_17 rfl hl (by decide) rfl (fun ls hl => ?_)
  refine lv_iconst (v := iv 0) hx hb dX8_scan_18 (by decide) ?_
  refine lv_istore (lv' := [(4, .int (iv 0)), (3, .int (iv 0)), (2, .int (iv z_8)), (0, .ref (G.2.2.1 + 12)), (1, .ref (G.2.2.1 + t))]) hx hb dX8_scan_19 hl (by decide) rfl (fun ls hl => ?_)
  have loop_21 : ∀ (fuel : Nat) (S21 : sS) (tn : Int) (i : Int) (H : Heap) (locs : List Loc) (ls : Array Slot), (2000 - tn).toNat < fuel → (cX G S21 0 0 0) → (Fr S S21 pQ) → (Fr ((uF S 12 3 0)) S21 pQ) → (0 ≤ i ∧ i ≤ 2001) → (0 ≤ tn ∧ tn ≤ 2000) → (SA S21) → sW G 294 S21 H → sL G locs → lv_has ls 5 [(4, .int (iv tn)), (3, .int (iv i)), (2, .int (iv z_8)), (0, .ref (G.2.2.1 + 12)), (1, .ref (G.2.2.1 + t))] → W p l e (rmk 6 0 0) s m args below meth c H locs 0 0 (MQ below (sQv G 294 (fun u => cX G u 0 0 0 ∧ Fr S u pQ ∧ (SE u))) args s 0 0 (sF G)) (F0 m 21 ls []) := by
    intro fuel
    induction fuel with
    | zero => intro S21 tn i H locs ls hmeas hI21 hFm21 hL21_ hi htn hsa hW hL hl; exact absurd hmeas (Nat.not_lt_zero _)
    | succ fuel ih_21 =>
      intro S21 tn i H locs ls hmeas hI21 hFm21 hL21_ hi htn hsa hW hL hl
      refine lv_iload hx hb dX8_scan_21 (lv_at hl 0 rfl) ?_
      refine lv_sipush (v := iv 2000) hx hb dX8_scan_23 (by decide) ?_
      refine r_icmp_ge (tgt := 70) hx hb ⟨(by omega), (by omega)⟩ ⟨(by omega), (by omega)⟩ dX8_scan_26 (by decide) (fun c_9 => ?_) (fun c_9 => ?_)
      · refine lv_aload_n hx hb dX8_scan_70 rfl (lv_at hl 3 rfl) ?_
        refine lv_iconst (v := iv 0) hx hb dX8_scan_71 (by decide) ?_
        refine lv_iload_n hx hb dX8_scan_72 rfl (lv_at hl 2 rfl) ?_
        refine lv_lconst (v := jv 0) hx hb dX8_scan_73 (by decide) ?_
        refine sBv (sV (As := [.int (iv 0), .int (iv z_8), .long (jv 0)]) (rest := []) (k := 12) Cx (s_X8_token l G S21 (kk := 0) (sr := z_8) (v := 0) hI21 (by omega) (by omega) (by omega) hsa (fun _ => lb0)) (c_X8_49 Cx rfl rfl (rmk_ok (by omega) (by decide))) hW (by decide) rfl rfl rfl hl.1 rfl (Nat.le_of_ble_eq_true rfl) dX8_scan_74 ⟨Nat.le_of_ble_eq_true rfl, Nat.le_of_ble_eq_true rfl⟩) hL (fun u_10 H locs k_11 hW hL => ?_)
        obtain ⟨iu_10, fu_10, xu_10⟩ := k_11
        have F_12 := hFm21.trans fu_10
        have F_13 := hL21_.trans fu_10
        have hE := (xu_10).1
        exact sVret Cx hr hlk hW hL ⟨iu_10, F_12, hE⟩ dX8_scan_77
      · refine lv_iload_n hx hb dX8_scan_29 rfl (lv_at hl 1 rfl) ?_
        refine lv_iload_n hx hb dX8_scan_30 rfl (lv_at hl 2 rfl) ?_
        refine r_icmp_ge (tgt := 70) hx hb ⟨(by omega), (by omega)⟩ ⟨(by omega), (by omega)⟩ dX8_scan_31 (by decide) (fun c_14 => ?_) (fun c_14 => ?_)
        · refine lv_aload_n hx hb dX8_scan_70 rfl (lv_at hl 3 rfl) ?_
          refine lv_iconst (v := iv 0) hx hb dX8_scan_71 (by decide) ?_
          refine lv_iload_n hx hb dX8_scan_72 rfl (lv_at hl 2 rfl) ?_
          refine lv_lconst (v := jv 0) hx hb dX8_scan_73 (by decide) ?_
          refine sBv (sV (As := [.int (iv 0), .int (iv z_8), .long (jv 0)]) (rest := []) (k := 12) Cx (s_X8_token l G S21 (kk := 0) (sr := z_8) (v := 0) hI21 (by omega) (by omega) (by omega) hsa (fun _ => lb0)) (c_X8_49 Cx rfl rfl (rmk_ok (by omega) (by decide))) hW (by decide) rfl rfl rfl hl.1 rfl (Nat.le_of_ble_eq_true rfl) dX8_scan_74 ⟨Nat.le_of_ble_eq_true rfl, Nat.le_of_ble_eq_true rfl⟩) hL (fun u_15 H locs k_16 hW hL => ?_)
          obtain ⟨iu_15, fu_15, xu_15⟩ := k_16
          have F_17 := hFm21.trans fu_15
          have F_18 := hL21_.trans fu_15
          have hE := (xu_15).1
          exact sVret Cx hr hlk hW hL ⟨iu_15, F_17, hE⟩ dX8_scan_77
        · refine lv_aload_n hx hb dX8_scan_34 rfl (lv_at hl 3 rfl) ?_
          refine lv_aload_n hx hb dX8_scan_35 rfl (lv_at hl 4 rfl) ?_
          refine lv_iload_n hx hb dX8_scan_36 rfl (lv_at hl 1 rfl) ?_
          have lk_19 : S21.1 t 1 = S.1 t 1 := ((hL21_ t (txt_pQ ht).1).1 1).trans (uF_ne (fun h => absurd h.2 (by decide)))
          refine sBi (sV (As := [.ref (G.2.2.1 + t), .int (iv i)]) (rest := []) (k := 12) Cx (s_X8_scanOne l G S21 (t := t) (i0 := i) (N := N) hI21 ht (by omega) hsa) (c_X8_45 Cx rfl rfl (rmk_ok (by omega) (by decide))) hW (by decide) rfl rfl rfl hl.1 rfl (Nat.le_of_ble_eq_true rfl) dX8_scan_37 ⟨Nat.le_of_ble_eq_true rfl, Nat.le_of_ble_eq_true rfl⟩) hL (fun r_22 u_20 H locs k_21 hW hL => ?_)
          obtain ⟨iu_20, fu_20, xu_20⟩ := k_21
          have F_23 := hFm21.trans fu_20
          have F_24 := hL21_.trans fu_20
          have hq : SQ u_20 := (xu_20).2
          refine lv_istore_n (lv' := [(3, .int (iv r_22)), (4, .int (iv tn)), (2, .int (iv z_8)), (0, .ref (G.2.2.1 + 12)), (1, .ref (G.2.2.1 + t))]) hx hb dX8_scan_40 rfl hl (by decide) rfl (fun ls hl => ?_)
          refine lv_aload_n hx hb dX8_scan_41 rfl (lv_at hl 3 rfl) ?_
          have q_25 : 0 ≤ u_20.1 12 3 ∧ u_20.1 12 3 ≤ 2001 := iu_20.fi 12 3 8 (by decide) rfl
          refine g_X8_22 Cx hW (k := 12) (by decide) rfl (v := u_20.1 12 3) rfl dX8_scan_42 ?_
          refine r_if_le (tgt := 64) hx hb ⟨(by omega), (by omega)⟩ dX8_scan_45 (by decide) (fun c_26 => ?_) (fun c_26 => ?_)
          · refine lv_iinc (v := iv (tn + 1)) (lv' := [(4, .int (iv (tn + 1))), (3, .int (iv r_22)), (2, .int (iv z_8)), (0, .ref (G.2.2.1 + 12)), (1, .ref (G.2.2.1 + t))]) hx hb dX8_scan_64 hl (k := 1) rfl ((Int32.ofInt_add _ _).symm) (by decide) rfl (fun ls hl => ?_)
            refine lv_goto (tgt := 21) hx hb dX8_scan_67 (by decide) ?_
            exact ih_21 u_20 (tn + 1) r_22 _ _ _ (by omega) iu_20 F_23 F_24 (by omega) (by omega) (hq.a (by omega)) hW hL (lv_sub hl [0, 1, 2, 3, 4] rfl)
          · refine lv_aload_n hx hb dX8_scan_48 rfl (lv_at hl 3 rfl) ?_
            refine g_X8_11 Cx hW (k := 12) (by decide) rfl (v := .ref (G.2.2.1 + 13)) (rf_12_0 iu_20) dX8_scan_49 ?_
            refine lv_aload_n hx hb dX8_scan_52 rfl (lv_at hl 3 rfl) ?_
            refine g_X8_22 Cx hW (k := 12) (by decide) rfl (v := u_20.1 12 3) rfl dX8_scan_53 ?_
            refine lv_iconst (v := iv 1) hx hb dX8_scan_56 (by decide) ?_
            refine r_isub hx hb dX8_scan_57 ?_
            refine rIald Cx hW (k := 13) (by decide) rfl (by decide) (by omega) (by omega) dX8_scan_58 ?_
            have q_27 : 0 ≤ u_20.2.1 13 ((u_20.1 12 3) - 1) ∧ u_20.2.1 13 ((u_20.1 12 3) - 1) ≤ 26 := iu_20.ai 13 ((u_20.1 12 3) - 1) (by decide)
            refine r_i (b := u_20.2.1 13 ((u_20.1 12 3) - 1)) rfl ?_
            refine lv_iconst (v := iv 1) hx hb dX8_scan_59 (by decide) ?_
            refine r_icmp_ne (tgt := 64) hx hb ⟨(by omega), (by omega)⟩ ⟨(by omega), (by omega)⟩ dX8_scan_60 (by decide) (fun c_28 => ?_) (fun c_28 => ?_)
            · refine lv_iinc (v := iv (tn + 1)) (lv' := [(4, .int (iv (tn + 1))), (3, .int (iv r_22)), (2, .int (iv z_8)), (0, .ref (G.2.2.1 + 12)), (1, .ref (G.2.2.1 + t))]) hx hb dX8_scan_64 hl (k := 1) rfl ((Int32.ofInt_add _ _).symm) (by decide) rfl (fun ls hl => ?_)
              refine lv_goto (tgt := 21) hx hb dX8_scan_67 (by decide) ?_
              exact ih_21 u_20 (tn + 1) r_22 _ _ _ (by omega) iu_20 F_23 F_24 (by omega) (by omega) (hq.a (by omega)) hW hL (lv_sub hl [0, 1, 2, 3, 4] rfl)
            · have hE := hq.1
              exact sVret Cx hr hlk hW hL ⟨iu_20, F_23, hE⟩ dX8_scan_63
  exact loop_21 (_ + 1) (uF S 12 3 0) 0 0 _ _ _ (Nat.lt_succ_self _) i_2 F_1 Fr.rf (by omega) (by omega) (SA0 uF_on) hW hL (lv_sub hl [0, 1, 2, 3, 4] rfl)
