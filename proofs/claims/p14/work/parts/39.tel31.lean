section TL3
variable {p : Program} {l : Launch} {e : Env} {R : Room} {s : State} {m : MethodId} {args : Array Value} {below : List Frame} {meth : Method} {c : Code} {H : Heap} {locs : List Loc} {cells slots : Nat} {Q : State → Prop}
variable {cc : ByteArray} {pc nL : Nat} {ls : Array Slot} {rest st0 : List Value} {G : sG} {n : Nat} {S : sS} {own : String}
theorem rAald (Cx : sC G p m c cc nL s args own) (hW : sW G n S H) {k N : Nat} (hk : k < n) (ht : tau k = .inr (.array .long, N)) (hN : N ≤ 2147483647) {a : Int} (h0 : 0 ≤ a) (h1 : a < N) {v : Value} (hv : S.2.2.2 k a.toNat = v) (hdg : decode cc pc = .ok (.aaload, 1))
    (kk : W p l e R s m args below meth c H locs cells slots Q (F0 m (pc + 1) ls (v :: rest))) : W p l e R s m args below meth c H locs cells slots Q (F0 m pc ls (.int (iv a) :: .ref (G.2.2.1 + k) :: rest)) := by
  obtain ⟨⟨hx, hb, hml, hown, hts⟩, hK, -⟩ := Cx
  have hin := iv_in h0 h1 hN
  have hcl := iv_clamp h0 (by omega)
  have hlt : (iv a).toNatClampNeg < N := Nat.not_le.mp fun q => hin (Or.inr q)
  refine W.aald (v := v) hx hb (hW.arr hk ht) ((sArr hK 4 rfl).1 N _) rfl (fun q => by cases q) (by show ¬ (iv a < 0 ∨ (arrV _ _ _).slots.size ≤ _); rw [arrV_size]; exact hin) ?_ rfl rfl hdg kk
  show (arrV _ _ _).slots[_]? = _
  rw [arrV_read _ _ hlt, hcl]
  exact congrArg some hv
theorem r_abslA (hx : p.tables.exec = Jvm.exec) (hb : c.code = cc) (hml : c.maxLocals = ls.size) {own : String} {index : Nat} (hown : s.vm.findClass own = some m.cls) (hlink : (Cond.methodLink own index Lib.MathLoose.abs_long.x).before args s = true) (hstat : (Cond.static Lib.MathLoose.abs_long.x).before args s = true) (hini : (Cond.initialized "java/lang/Math").before args s = true) (hcode : (Cond.code Lib.MathLoose.abs_long.x Lib.MathLoose.abs_long.code 2 (some .long)).before args s = true)
    (hframes : 1 ≤ R.frames) (hlocals : (rest.map fun v => v.category).sum + 13 ≤ R.locals) (hc : cells ≤ R.cells) (hs : slots ≤ R.slots) {a : Int} (hdg : decode cc pc = .ok (.invokestatic index, 3))
    (kk : ∀ z : Int, -9223372036854775808 ≤ z → z ≤ 9223372036854775807 → W p l e R s m args below meth c H locs cells slots Q (F0 m (pc + 3) ls (.long (jv z) :: rest))) : W p l e R s m args below meth c H locs cells slots Q (F0 m pc ls (.long (jv a) :: rest)) := by
  refine va_mabs_long hx hb hml hown hlink hstat hini hcode hframes hlocals hc hs hdg ?_
  split
  · obtain ⟨z, ez, h1, h2⟩ := jv_of (jv a)
    rw [ez]; exact kk z h1 h2
  · obtain ⟨z, ez, h1, h2⟩ := jv_of (-(jv a))
    rw [ez]; exact kk z h1 h2
end TL3
/-- a row of thirteen longs of the teller -/
def lr (q : Nat) : Prop := tau q = .inr (.long, 13) ∧ 20 ≤ q ∧ q ≤ 115
theorem lr_l {q : Nat} (h : lr q) : q < 294 := by have := h.2.2; omega
theorem lr_k {q : Nat} (h : lr q) : q < 231 := by have := h.2.2; omega
theorem lr_h {q : Nat} (h : lr q) : tau q = .inr (.long, 13) ∧ q < 231 := ⟨h.1, lr_k h⟩
def pV (k : Nat) : Bool := Nat.beq k 11 || rgB 16 115 k
def pG (k : Nat) : Bool := rgB 5 11 k || rgB 16 118 k || rgB 185 187 k || rgB 228 230 k
theorem lr_V {q : Nat} (h : lr q) : pV q = true := by
  rw [pV, rgB_i ⟨by have := h.2.1; omega, h.2.2⟩, Bool.or_true]
theorem pU_V : ∀ k, pU k = true → pV k = true := fun k h => by
  rw [pU, Bool.or_eq_true] at h
  rcases h with h | h
  · rw [Nat.eq_of_beq_eq_true h]; rfl
  · have := rgB_t h
    rw [pV, rgB_i ⟨by omega, by omega⟩, Bool.or_true]
theorem pV_G : ∀ k, pV k = true → pG k = true := fun k h => by
  rw [pV, Bool.or_eq_true] at h
  rcases h with h | h
  · rw [Nat.eq_of_beq_eq_true h]; rfl
  · have := rgB_t h
    rw [pG, rgB_i (a := 16) (b := 118) (by omega), Bool.or_true, Bool.true_or, Bool.true_or]
theorem pG_C : ∀ k, pG k = true → pC k = true := fun k h => by
  simp only [pG, Bool.or_eq_true] at h
  rw [pC, rgB_i (a := 3) (b := 230) (by rcases h with ((h | h) | h) | h <;> (have := rgB_t h; omega)), Bool.or_true]
theorem mdl_pG {o : Nat} (m : mdl o) : pG o = true ∧ pG (o + 1) = true ∧ pG (o + 2) = true := by
  have a : ∀ o, o < 231 → tau o = .inl 3 → pG o = true ∧ pG (o + 1) = true ∧ pG (o + 2) = true := by decide +kernel
  exact a o (mdl_k m) m.1
theorem lr20 : ∀ i, i < 31 → tau (20 + i) = .inr (.long, 13) ∧ tau (52 + i) = .inr (.long, 13) ∧ tau (84 + i) = .inr (.long, 13) := by decide +kernel
theorem r2_19 {G : sG} {S : sS} {x y : Nat} {b i : Int} (h : cX G S x y b) (h0 : 0 ≤ i) (h1 : i < 31) : ∃ q, lr q ∧ S.2.2.2 19 i.toNat = .ref (G.2.2.1 + q) := ⟨20 + i.toNat, ⟨(lr20 _ (by omega)).1, by omega, by omega⟩, (h.r2 _ (by omega)).1⟩
theorem r2_51 {G : sG} {S : sS} {x y : Nat} {b i : Int} (h : cX G S x y b) (h0 : 0 ≤ i) (h1 : i < 31) : ∃ q, lr q ∧ S.2.2.2 51 i.toNat = .ref (G.2.2.1 + q) := ⟨52 + i.toNat, ⟨(lr20 _ (by omega)).2.1, by omega, by omega⟩, (h.r2 _ (by omega)).2.1⟩
theorem r2_83 {G : sG} {S : sS} {x y : Nat} {b i : Int} (h : cX G S x y b) (h0 : 0 ≤ i) (h1 : i < 31) : ∃ q, lr q ∧ S.2.2.2 83 i.toNat = .ref (G.2.2.1 + q) := ⟨84 + i.toNat, ⟨(lr20 _ (by omega)).2.2, by omega, by omega⟩, (h.r2 _ (by omega)).2.2⟩
theorem cX.D {G : sG} {S : sS} {x y : Nat} {b : Int} {k0 k : Nat} {sp dp n : Int} (h : cX G S x y b) (hk : k0 < 231) : cX G (uD S k0 sp k dp n) x y b := ⟨⟨h.1.1, h.1.2.1, fun a j ha => by
  rw [uD_get]; split
  · exact h.li k0 _ hk
  · exact h.li a j ha⟩, h.2⟩
/-- what a telling leaves as it was: the names known, and their sorts -/
def TK (S u : sS) : Prop := TS u ∧ u.1 11 9 = S.1 11 9 ∧ ∀ s, 0 ≤ s → s < S.1 11 9 → fc u s 0 = fc S s 0
theorem TK.rf {S : sS} (h : TS S) : TK S S := ⟨h, rfl, fun _ _ _ => rfl⟩
theorem TK.trans {S T U : sS} (h : TK S T) (g : TK T U) : TK S U := ⟨g.1, g.2.1.trans h.2.1, fun s s0 s1 => (g.2.2 s s0 (by rw [h.2.1]; exact s1)).trans (h.2.2 s s0 s1)⟩
theorem TK.of {S T u : sS} (h : TK S T) (e : u.1 11 9 = T.1 11 9) (e2 : ∀ j, u.2.1 17 j = T.2.1 17 j) : TK S u := ⟨h.1.of e e2, e.trans h.2.1, fun s s0 s1 => (e2 _).trans (h.2.2 s s0 s1)⟩
theorem TK.fr {S T u : sS} {P : pS} (h : TK S T) (f : Fr T u P) (h1 : P 11 = false) (h2 : P 17 = false) : TK S u := h.of ((f 11 h1).1 9) (fun j => (f 17 h2).2.1 j)
theorem TK.F {S T : sS} {k i : Nat} {v : Int} (h : TK S T) (hn : 9 ≠ i) : TK S (uF T k i v) := h.of (uF_i hn) (fun _ => rfl)
theorem TK.low {S T u : sS} {s v : Int} (h : TK S T) (hs : 0 ≤ s ∧ s < S.1 11 9) (hn : fc S s 0 ≠ 6) (e : u = uA T 17 (s * 6 + 1) v) : TK S u := by
  have f0 : ∀ s', fc u s' 0 = fc T s' 0 := fun s' => by rw [e, fc_u (by omega) (by omega), if_neg (by omega)]
  refine ⟨?_, ?_, fun s' a0 a1 => (f0 s').trans (h.2.2 s' a0 a1)⟩
  · rw [e]; exact h.1.low (by rw [h.2.2 s hs.1 hs.2]; exact hn)
  · rw [e]; exact h.2.1
theorem TK.pop {S u1 u v : sS} {r : Int} (h : TK u1 u) (ln : LN S u1 r 2) (er : r = S.1 11 9) (k0 : 0 ≤ S.1 11 9) (e9 : u1.1 11 9 = S.1 11 9 + 1) (ev : v = uF u 11 9 (u.1 11 9 - 1)) : TK S v := by
  have e9' : u.1 11 9 = S.1 11 9 + 1 := h.2.1.trans e9
  have n6 : fc u (u.1 11 9 - 1) 0 ≠ 6 := by
    rw [h.2.2 _ (by omega) (by omega), ln _ 0 (by omega) (by omega), if_pos (by omega), if_pos rfl]; decide
  have ek : v.1 11 9 = S.1 11 9 := by rw [ev, uF_on]; omega
  refine ⟨by rw [ev]; exact h.1.pop n6, ek, fun s s0 s1 => ?_⟩
  have : fc v s 0 = fc u s 0 := by rw [ev]; rfl
  rw [this, h.2.2 s s0 (by omega), ln s 0 (by omega) (by omega), if_neg (by omega)]
theorem TS.fr {S u : sS} {P : pS} (h : TS S) (f : Fr S u P) (h1 : P 11 = false) (h2 : P 17 = false) : TS u := h.of ((f 11 h1).1 9) (fun j => (f 17 h2).2.1 j)
set_option maxRecDepth 100000 in
set_option maxHeartbeats 4000000 in
theorem s_X9_addTo (l : Launch) (G : sG) (S : sS) {qa qb : Nat} {t : Int} (hI : cX G S 0 0 0) (hqa : lr qa) (hqb : lr qb) (ht : -2147483648 ≤ t ∧ t ≤ 2147483647) : Met l yX9_addTo (.code yX9_addTo cX9_addTo 4 none :: tb) (rmk 1 0 0) (sPc G 294 S [.ref (G.2.2.1 + qa), .ref (G.2.2.1 + qb), .int (iv t)]) (sQv G 294 (fun u => cX G u 0 0 0 ∧ Fr S u (p1 qa))) 0 0 (sF G) := by
  refine sEnter (by decide) (Nat.le_of_ble_eq_true rfl) ?_
  intro p e s m args below meth c Cx hr hlk hnm hW ls hl
  have Cx : sC G p m c cX9_addTo 4 s args RX9 := Cx
  obtain ⟨hx, hb, hml, hown, hts⟩ := id Cx.1
  have hL : sL G [] := sL_nil
  have hl : lv_has ls 4 [(0, .ref (G.2.2.1 + qa)), (1, .ref (G.2.2.1 + qb)), (2, .int (iv t))] := hl
  have hW0 := hW
  refine lv_iconst (v := iv 0) hx hb dX9_addTo_0 (by decide) ?_
  refine lv_istore_n (lv' := [(3, .int (iv 0)), (0, .ref (G.2.2.1 + qa)), (1, .ref (G.2.2.1 + qb)), (2, .int (iv t))]) hx hb dX9_addTo_1 rfl hl (by decide) rfl (fun ls hl => ?_)
  have loop_2 : ∀ (fuel : Nat) (S2 : sS) (j : Int) (H : Heap) (locs : List Loc) (ls : Array Slot), (13 - j).toNat < fuel → (cX G S2 0 0 0) → (Fr S S2 (p1 qa)) → (Fr S S2 (p1 qa)) → (0 ≤ j ∧ j ≤ 13) → sW G 294 S2 H → sL G locs → lv_has ls 4 [(3, .int (iv j)), (0, .ref (G.2.2.1 + qa)), (1, .ref (G.2.2.1 + qb)), (2, .int (iv t))] → W p l e (rmk 1 0 0) s m args below meth c H locs 0 0 (MQ below (sQv G 294 (fun u => cX G u 0 0 0 ∧ Fr S u (p1 qa))) args s 0 0 (sF G)) (F0 m 2 ls []) := by
    intro fuel
    induction fuel with
    | zero => intro S2 j H locs ls hmeas hI2 hFm2 hL2_ hj hW hL hl; exact absurd hmeas (Nat.not_lt_zero _)
    | succ fuel ih_2 =>
      intro S2 j H locs ls hmeas hI2 hFm2 hL2_ hj hW hL hl
      refine lv_iload_n hx hb dX9_addTo_2 rfl (lv_at hl 0 rfl) ?_
      refine lv_bipush (v := iv 13) hx hb dX9_addTo_3 (by decide) ?_
      refine r_icmp_ge (tgt := 26) hx hb ⟨(by omega), (by omega)⟩ ⟨(by omega), (by omega)⟩ dX9_addTo_5 (by decide) (fun c_1 => ?_) (fun c_1 => ?_)
      · exact sVret Cx hr hlk hW hL ⟨hI2, hFm2⟩ dX9_addTo_26
      · refine lv_aload_n hx hb dX9_addTo_8 rfl (lv_at hl 1 rfl) ?_
        refine lv_iload_n hx hb dX9_addTo_9 rfl (lv_at hl 0 rfl) ?_
        refine lv_dup2_11 hx hb dX9_addTo_10 rfl rfl ?_
        refine rLald Cx hW (k := qa) (lr_l hqa) hqa.1 (by decide) (by omega) (by omega) dX9_addTo_11 ?_
        have q_2 : -9223372036854775808 ≤ S2.2.2.1 qa j ∧ S2.2.2.1 qa j ≤ 9223372036854775807 := hI2.li qa j (lr_k hqa)
        refine r_j (b := S2.2.2.1 qa j) rfl ?_
        refine lv_iload_n hx hb dX9_addTo_12 rfl (lv_at hl 3 rfl) ?_
        refine r_i2l hx hb ⟨(by omega), (by omega)⟩ dX9_addTo_13 ?_
        refine lv_aload_n hx hb dX9_addTo_14 rfl (lv_at hl 2 rfl) ?_
        refine lv_iload_n hx hb dX9_addTo_15 rfl (lv_at hl 0 rfl) ?_
        refine rLald Cx hW (k := qb) (lr_l hqb) hqb.1 (by decide) (by omega) (by omega) dX9_addTo_16 ?_
        have q_3 : -9223372036854775808 ≤ S2.2.2.1 qb j ∧ S2.2.2.1 qb j ≤ 9223372036854775807 := hI2.li qb j (lr_k hqb)
        refine r_j (b := S2.2.2.1 qb j) rfl ?_
        refine r_lmul hx hb dX9_addTo_17 ?_
        obtain ⟨z_4, ez_4, hz_4, kz_4⟩ := jv_of (jv (t * (S2.2.2.1 qb j)))
        rw [ez_4]
        refine r_ladd hx hb dX9_addTo_18 ?_
        obtain ⟨z_5, ez_5, hz_5, kz_5⟩ := jv_of (jv ((S2.2.2.1 qa j) + z_4))
        rw [ez_5]
        refine rLast Cx hW hL (k := qa) (lr_l hqa) hqa.1 (by decide) (by omega) (by omega) dX9_addTo_19 (fun H locs hW hL => ?_)
        have F_6 : Fr S (uL S2 qa j z_5) (p1 qa) := hFm2.L p1_0
        have F_7 : Fr S (uL S2 qa j z_5) (p1 qa) := hL2_.L p1_0
        have i_8 : cX G (uL S2 qa j z_5) 0 0 0 := hI2.L ⟨by omega, by omega⟩
        refine lv_iinc (v := iv (j + 1)) (lv' := [(3, .int (iv (j + 1))), (0, .ref (G.2.2.1 + qa)), (1, .ref (G.2.2.1 + qb)), (2, .int (iv t))]) hx hb dX9_addTo_20 hl (k := 0) rfl ((Int32.ofInt_add _ _).symm) (by decide) rfl (fun ls hl => ?_)
        refine lv_goto (tgt := 2) hx hb dX9_addTo_23 (by decide) ?_
        exact ih_2 (uL S2 qa j z_5) (j + 1) _ _ _ (by omega) i_8 F_6 F_7 (by omega) hW hL (lv_sub hl [0, 1, 2, 3] rfl)
  exact loop_2 (_ + 1) S 0 _ _ _ (Nat.lt_succ_self _) hI (Fr.rf : Fr S S (p1 qa)) Fr.rf (by omega) hW hL (lv_sub hl [0, 1, 2, 3] rfl)

set_option maxRecDepth 100000 in
set_option maxHeartbeats 4000000 in
theorem s_X9_isGreat (l : Launch) (G : sG) (S : sS) {qa : Nat} (hI : cX G S 0 0 0) (hqa : lr qa) : Met l yX9_isGreat (.code yX9_isGreat cX9_isGreat 2 (some .boolean) :: tb) (rmk 2 0 0) (sPc G 294 S [.ref (G.2.2.1 + qa)]) (sQi G 294 (fun r u => u = S ∧ (0 ≤ r ∧ r ≤ 1))) 0 0 (sF G) := by
  refine sEnter (by decide) (Nat.le_of_ble_eq_true rfl) ?_
  intro p e s m args below meth c Cx hr hlk hnm hW ls hl
  have Cx : sC G p m c cX9_isGreat 2 s args RX9 := Cx
  obtain ⟨hx, hb, hml, hown, hts⟩ := id Cx.1
  have hL : sL G [] := sL_nil
  have hl : lv_has ls 2 [(0, .ref (G.2.2.1 + qa))] := hl
  have hW0 := hW
  refine lv_iconst (v := iv 0) hx hb dX9_isGreat_0 (by decide) ?_
  refine lv_istore_n (lv' := [(1, .int (iv 0)), (0, .ref (G.2.2.1 + qa))]) hx hb dX9_isGreat_1 rfl hl (by decide) rfl (fun ls hl => ?_)
  have loop_2 : ∀ (fuel : Nat) (j : Int) (H : Heap) (locs : List Loc) (ls : Array Slot), (13 - j).toNat < fuel → (0 ≤ j ∧ j ≤ 13) → sW G 294 S H → sL G locs → lv_has ls 2 [(1, .int (iv j)), (0, .ref (G.2.2.1 + qa))] → W p l e (rmk 2 0 0) s m args below meth c H locs 0 0 (MQ below (sQi G 294 (fun r u => u = S ∧ (0 ≤ r ∧ r ≤ 1))) args s 0 0 (sF G)) (F0 m 2 ls []) := by
    intro fuel
    induction fuel with
    | zero => intro j H locs ls hmeas hj hW hL hl; exact absurd hmeas (Nat.not_lt_zero _)
    | succ fuel ih_2 =>
      intro j H locs ls hmeas hj hW hL hl
      refine lv_iload_n hx hb dX9_isGreat_2 rfl (lv_at hl 0 rfl) ?_
      refine lv_bipush (v := iv 13) hx hb dX9_isGreat_3 (by decide) ?_
      refine r_icmp_ge (tgt := 29) hx hb ⟨(by omega), (by omega)⟩ ⟨(by omega), (by omega)⟩ dX9_isGreat_5 (by decide) (fun c_1 => ?_) (fun c_1 => ?_)
      · refine lv_iconst (v := iv 0) hx hb dX9_isGreat_29 (by decide) ?_
        exact sZret Cx hr hlk hW hL (by omega) ⟨rfl, (by omega)⟩ dX9_isGreat_30
      · refine lv_aload_n hx hb dX9_isGreat_8 rfl (lv_at hl 1 rfl) ?_
        refine lv_iload_n hx hb dX9_isGreat_9 rfl (lv_at hl 0 rfl) ?_
        refine rLald Cx hW (k := qa) (lr_l hqa) hqa.1 (by decide) (by omega) (by omega) dX9_isGreat_10 ?_
        have q_2 : -9223372036854775808 ≤ S.2.2.1 qa j ∧ S.2.2.1 qa j ≤ 9223372036854775807 := hI.li qa j (lr_k hqa)
        refine r_j (b := S.2.2.1 qa j) rfl ?_
        refine r_abslA hx hb (hml.trans hl.1.symm) hown (hts _ w_1079) (hts _ w_1080) (hts _ w_206) (hts _ w_1081) (rmk_f (by omega)) (rmk_l (by omega) (Nat.le_of_ble_eq_true rfl)) (Nat.le_of_ble_eq_true rfl) (Nat.le_of_ble_eq_true rfl) dX9_isGreat_11 (fun z_3 hz_3 kz_3 => ?_)
        refine lv_ldc2 hx hb hown (hts _ w_1082) dX9_isGreat_14 ?_
        refine r_lcmp hx hb ⟨(by omega), (by omega)⟩ ⟨(by omega), (by omega)⟩ dX9_isGreat_17 (fun z_4 az_4 bz_4 cz_4 => ?_)
        refine r_if_le (tgt := 23) hx hb ⟨(by omega), (by omega)⟩ dX9_isGreat_18 (by decide) (fun c_5 => ?_) (fun c_5 => ?_)
        · refine lv_iinc (v := iv (j + 1)) (lv' := [(1, .int (iv (j + 1))), (0, .ref (G.2.2.1 + qa))]) hx hb dX9_isGreat_23 hl (k := 0) rfl ((Int32.ofInt_add _ _).symm) (by decide) rfl (fun ls hl => ?_)
          refine lv_goto (tgt := 2) hx hb dX9_isGreat_26 (by decide) ?_
          exact ih_2 (j + 1) _ _ _ (by omega) (by omega) hW hL (lv_sub hl [0, 1] rfl)
        · refine lv_iconst (v := iv 1) hx hb dX9_isGreat_21 (by decide) ?_
          exact sZret Cx hr hlk hW hL (by omega) ⟨rfl, (by omega)⟩ dX9_isGreat_22
  exact loop_2 (_ + 1) 0 _ _ _ (Nat.lt_succ_self _) (by omega) hW hL (lv_sub hl [0, 1] rfl)

set_option maxRecDepth 100000 in
set_option maxHeartbeats 4000000 in
theorem s_X9_hasCoefficient (l : Launch) (G : sG) (S : sS) {qa : Nat} (hI : cX G S 0 0 0) (hqa : lr qa) : Met l yX9_hasCoefficient (.code yX9_hasCoefficient cX9_hasCoefficient 2 (some .boolean) :: tb) (rmk 1 0 0) (sPc G 294 S [.ref (G.2.2.1 + qa)]) (sQi G 294 (fun r u => u = S ∧ (0 ≤ r ∧ r ≤ 1))) 0 0 (sF G) := by
  refine sEnter (by decide) (Nat.le_of_ble_eq_true rfl) ?_
  intro p e s m args below meth c Cx hr hlk hnm hW ls hl
  have Cx : sC G p m c cX9_hasCoefficient 2 s args RX9 := Cx
  obtain ⟨hx, hb, hml, hown, hts⟩ := id Cx.1
  have hL : sL G [] := sL_nil
  have hl : lv_has ls 2 [(0, .ref (G.2.2.1 + qa))] := hl
  have hW0 := hW
  refine lv_iconst (v := iv 1) hx hb dX9_hasCoefficient_0 (by decide) ?_
  refine lv_istore_n (lv' := [(1, .int (iv 1)), (0, .ref (G.2.2.1 + qa))]) hx hb dX9_hasCoefficient_1 rfl hl (by decide) rfl (fun ls hl => ?_)
  have loop_2 : ∀ (fuel : Nat) (j : Int) (H : Heap) (locs : List Loc) (ls : Array Slot), (13 - j).toNat < fuel → (0 ≤ j ∧ j ≤ 13) → sW G 294 S H → sL G locs → lv_has ls 2 [(1, .int (iv j)), (0, .ref (G.2.2.1 + qa))] → W p l e (rmk 1 0 0) s m args below meth c H locs 0 0 (MQ below (sQi G 294 (fun r u => u = S ∧ (0 ≤ r ∧ r ≤ 1))) args s 0 0 (sF G)) (F0 m 2 ls []) := by
    intro fuel
    induction fuel with
    | zero => intro j H locs ls hmeas hj hW hL hl; exact absurd hmeas (Nat.not_lt_zero _)
    | succ fuel ih_2 =>
      intro j H locs ls hmeas hj hW hL hl
      refine lv_iload_n hx hb dX9_hasCoefficient_2 rfl (lv_at hl 0 rfl) ?_
      refine lv_bipush (v := iv 13) hx hb dX9_hasCoefficient_3 (by decide) ?_
      refine r_icmp_ge (tgt := 24) hx hb ⟨(by omega), (by omega)⟩ ⟨(by omega), (by omega)⟩ dX9_hasCoefficient_5 (by decide) (fun c_1 => ?_) (fun c_1 => ?_)
      · refine lv_iconst (v := iv 0) hx hb dX9_hasCoefficient_24 (by decide) ?_
        exact sZret Cx hr hlk hW hL (by omega) ⟨rfl, (by omega)⟩ dX9_hasCoefficient_25
      · refine lv_aload_n hx hb dX9_hasCoefficient_8 rfl (lv_at hl 1 rfl) ?_
        refine lv_iload_n hx hb dX9_hasCoefficient_9 rfl (lv_at hl 0 rfl) ?_
        refine rLald Cx hW (k := qa) (lr_l hqa) hqa.1 (by decide) (by omega) (by omega) dX9_hasCoefficient_10 ?_
        have q_2 : -9223372036854775808 ≤ S.2.2.1 qa j ∧ S.2.2.1 qa j ≤ 9223372036854775807 := hI.li qa j (lr_k hqa)
        refine r_j (b := S.2.2.1 qa j) rfl ?_
        refine lv_lconst (v := jv 0) hx hb dX9_hasCoefficient_11 (by decide) ?_
        refine r_lcmp hx hb ⟨(by omega), (by omega)⟩ ⟨(by omega), (by omega)⟩ dX9_hasCoefficient_12 (fun z_3 az_3 bz_3 cz_3 => ?_)
        refine r_if_eq (tgt := 18) hx hb ⟨(by omega), (by omega)⟩ dX9_hasCoefficient_13 (by decide) (fun c_4 => ?_) (fun c_4 => ?_)
        · refine lv_iinc (v := iv (j + 1)) (lv' := [(1, .int (iv (j + 1))), (0, .ref (G.2.2.1 + qa))]) hx hb dX9_hasCoefficient_18 hl (k := 0) rfl ((Int32.ofInt_add _ _).symm) (by decide) rfl (fun ls hl => ?_)
          refine lv_goto (tgt := 2) hx hb dX9_hasCoefficient_21 (by decide) ?_
          exact ih_2 (j + 1) _ _ _ (by omega) (by omega) hW hL (lv_sub hl [0, 1] rfl)
        · refine lv_iconst (v := iv 1) hx hb dX9_hasCoefficient_16 (by decide) ?_
          exact sZret Cx hr hlk hW hL (by omega) ⟨rfl, (by omega)⟩ dX9_hasCoefficient_17
  exact loop_2 (_ + 1) 1 _ _ _ (Nat.lt_succ_self _) (by omega) hW hL (lv_sub hl [0, 1] rfl)

set_option maxRecDepth 100000 in
set_option maxHeartbeats 4000000 in
theorem s_X9_multiply (l : Launch) (G : sG) (S : sS) {qa qb : Nat} (hI : cX G S 0 0 0) (hqa : lr qa) (hqb : lr qb) : Met l yX9_multiply (.code yX9_multiply cX9_multiply 7 none :: tb) (rmk 1 0 0) (sPc G 294 S [.ref (G.2.2.1 + qa), .ref (G.2.2.1 + qb)]) (sQv G 294 (fun u => cX G u 0 0 0 ∧ Fr S u (p1 qa))) 0 0 (sF G) := by
  refine sEnter (by decide) (Nat.le_of_ble_eq_true rfl) ?_
  intro p e s m args below meth c Cx hr hlk hnm hW ls hl
  have Cx : sC G p m c cX9_multiply 7 s args RX9 := Cx
  obtain ⟨hx, hb, hml, hown, hts⟩ := id Cx.1
  have hL : sL G [] := sL_nil
  have hl : lv_has ls 7 [(0, .ref (G.2.2.1 + qa)), (1, .ref (G.2.2.1 + qb))] := hl
  have hW0 := hW
  refine lv_aload_n hx hb dX9_multiply_0 rfl (lv_at hl 0 rfl) ?_
  refine lv_iconst (v := iv 0) hx hb dX9_multiply_1 (by decide) ?_
  refine rLald Cx hW (k := qa) (lr_l hqa) hqa.1 (by decide) (by omega) (by omega) dX9_multiply_2 ?_
  have q_1 : -9223372036854775808 ≤ S.2.2.1 qa 0 ∧ S.2.2.1 qa 0 ≤ 9223372036854775807 := hI.li qa 0 (lr_k hqa)
  refine r_j (b := S.2.2.1 qa 0) rfl ?_
  refine lv_lstore_n (lv' := [(2, .long (jv (S.2.2.1 qa 0))), (0, .ref (G.2.2.1 + qa)), (1, .ref (G.2.2.1 + qb))]) hx hb dX9_multiply_3 rfl hl (by decide) rfl (fun ls hl => ?_)
  refine lv_aload_n hx hb dX9_multiply_4 rfl (lv_at hl 2 rfl) ?_
  refine lv_iconst (v := iv 0) hx hb dX9_multiply_5 (by decide) ?_
  refine rLald Cx hW (k := qb) (lr_l hqb) hqb.1 (by decide) (by omega) (by omega) dX9_multiply_6 ?_
  have q_2 : -9223372036854775808 ≤ S.2.2.1 qb 0 ∧ S.2.2.1 qb 0 ≤ 9223372036854775807 := hI.li qb 0 (lr_k hqb)
  refine r_j (b := S.2.2.1 qb 0) rfl ?_
  refine lv_lstore (lv' := [(4, .long (jv (S.2.2.1 qb 0))), (2, .long (jv (S.2.2.1 qa 0))), (0, .ref (G.2.2.1 + qa)), (1, .ref (G.2.2.1 + qb))]) hx hb dX9_multiply_7 hl (by decide) rfl (fun ls hl => ?_)
  refine lv_aload_n hx hb dX9_multiply_9 rfl (lv_at hl 2 rfl) ?_
  refine lv_iconst (v := iv 0) hx hb dX9_multiply_10 (by decide) ?_
  refine lv_lload_n hx hb dX9_multiply_11 rfl (lv_at hl 1 rfl) ?_
  refine lv_lload hx hb dX9_multiply_12 (lv_at hl 0 rfl) ?_
  refine r_lmul hx hb dX9_multiply_14 ?_
  obtain ⟨z_3, ez_3, hz_3, kz_3⟩ := jv_of (jv ((S.2.2.1 qa 0) * (S.2.2.1 qb 0)))
  rw [ez_3]
  refine rLast Cx hW hL (k := qa) (lr_l hqa) hqa.1 (by decide) (by omega) (by omega) dX9_multiply_15 (fun H locs hW hL => ?_)
  have F_4 : Fr S (uL S qa 0 z_3) (p1 qa) := (Fr.rf : Fr S S (p1 qa)).L p1_0
  have i_5 : cX G (uL S qa 0 z_3) 0 0 0 := hI.L ⟨by omega, by omega⟩
  refine lv_iconst (v := iv 1) hx hb dX9_multiply_16 (by decide) ?_
  refine lv_istore (lv' := [(6, .int (iv 1)), (4, .long (jv (S.2.2.1 qb 0))), (2, .long (jv (S.2.2.1 qa 0))), (0, .ref (G.2.2.1 + qa)), (1, .ref (G.2.2.1 + qb))]) hx hb dX9_multiply_17 hl (by decide) rfl (fun ls hl => ?_)
  have loop_19 : ∀ (fuel : Nat) (S19 : sS) (j : Int) (H : Heap) (locs : List Loc) (ls : Array Slot), (13 - j).toNat < fuel → (cX G S19 0 0 0) → (Fr S S19 (p1 qa)) → (Fr ((uL S qa 0 z_3)) S19 (p1 qa)) → (0 ≤ j ∧ j ≤ 13) → sW G 294 S19 H → sL G locs → lv_has ls 7 [(6, .int (iv j)), (4, .long (jv (S.2.2.1 qb 0))), (2, .long (jv (S.2.2.1 qa 0))), (0, .ref (G.2.2.1 + qa)), (1, .ref (G.2.2.1 + qb))] → W p l e (rmk 1 0 0) s m args below meth c H locs 0 0 (MQ below (sQv G 294 (fun u => cX G u 0 0 0 ∧ Fr S u (p1 qa))) args s 0 0 (sF G)) (F0 m 19 ls []) := by
    intro fuel
    induction fuel with
    | zero => intro S19 j H locs ls hmeas hI19 hFm19 hL19_ hj hW hL hl; exact absurd hmeas (Nat.not_lt_zero _)
    | succ fuel ih_19 =>
      intro S19 j H locs ls hmeas hI19 hFm19 hL19_ hj hW hL hl
      refine lv_iload hx hb dX9_multiply_19 (lv_at hl 0 rfl) ?_
      refine lv_bipush (v := iv 13) hx hb dX9_multiply_21 (by decide) ?_
      refine r_icmp_ge (tgt := 50) hx hb ⟨(by omega), (by omega)⟩ ⟨(by omega), (by omega)⟩ dX9_multiply_23 (by decide) (fun c_6 => ?_) (fun c_6 => ?_)
      · exact sVret Cx hr hlk hW hL ⟨hI19, hFm19⟩ dX9_multiply_50
      · refine lv_aload_n hx hb dX9_multiply_26 rfl (lv_at hl 3 rfl) ?_
        refine lv_iload hx hb dX9_multiply_27 (lv_at hl 0 rfl) ?_
        refine lv_aload_n hx hb dX9_multiply_29 rfl (lv_at hl 3 rfl) ?_
        refine lv_iload hx hb dX9_multiply_30 (lv_at hl 0 rfl) ?_
        refine rLald Cx hW (k := qa) (lr_l hqa) hqa.1 (by decide) (by omega) (by omega) dX9_multiply_32 ?_
        have q_7 : -9223372036854775808 ≤ S19.2.2.1 qa j ∧ S19.2.2.1 qa j ≤ 9223372036854775807 := hI19.li qa j (lr_k hqa)
        refine r_j (b := S19.2.2.1 qa j) rfl ?_
        refine lv_lload hx hb dX9_multiply_33 (lv_at hl 1 rfl) ?_
        refine r_lmul hx hb dX9_multiply_35 ?_
        obtain ⟨z_8, ez_8, hz_8, kz_8⟩ := jv_of (jv ((S19.2.2.1 qa j) * (S.2.2.1 qb 0)))
        rw [ez_8]
        refine lv_lload_n hx hb dX9_multiply_36 rfl (lv_at hl 2 rfl) ?_
        refine lv_aload_n hx hb dX9_multiply_37 rfl (lv_at hl 4 rfl) ?_
        refine lv_iload hx hb dX9_multiply_38 (lv_at hl 0 rfl) ?_
        refine rLald Cx hW (k := qb) (lr_l hqb) hqb.1 (by decide) (by omega) (by omega) dX9_multiply_40 ?_
        have q_9 : -9223372036854775808 ≤ S19.2.2.1 qb j ∧ S19.2.2.1 qb j ≤ 9223372036854775807 := hI19.li qb j (lr_k hqb)
        refine r_j (b := S19.2.2.1 qb j) rfl ?_
        refine r_lmul hx hb dX9_multiply_41 ?_
        obtain ⟨z_10, ez_10, hz_10, kz_10⟩ := jv_of (jv ((S.2.2.1 qa 0) * (S19.2.2.1 qb j)))
        rw [ez_10]
        refine r_ladd hx hb dX9_multiply_42 ?_
        obtain ⟨z_11, ez_11, hz_11, kz_11⟩ := jv_of (jv (z_8 + z_10))
        rw [ez_11]
        refine rLast Cx hW hL (k := qa) (lr_l hqa) hqa.1 (by decide) (by omega) (by omega) dX9_multiply_43 (fun H locs hW hL => ?_)
        have F_12 : Fr S (uL S19 qa j z_11) (p1 qa) := hFm19.L p1_0
        have F_13 : Fr ((uL S qa 0 z_3)) (uL S19 qa j z_11) (p1 qa) := hL19_.L p1_0
        have i_14 : cX G (uL S19 qa j z_11) 0 0 0 := hI19.L ⟨by omega, by omega⟩
        refine lv_iinc (v := iv (j + 1)) (lv' := [(6, .int (iv (j + 1))), (4, .long (jv (S.2.2.1 qb 0))), (2, .long (jv (S.2.2.1 qa 0))), (0, .ref (G.2.2.1 + qa)), (1, .ref (G.2.2.1 + qb))]) hx hb dX9_multiply_44 hl (k := 0) rfl ((Int32.ofInt_add _ _).symm) (by decide) rfl (fun ls hl => ?_)
        refine lv_goto (tgt := 19) hx hb dX9_multiply_47 (by decide) ?_
        exact ih_19 (uL S19 qa j z_11) (j + 1) _ _ _ (by omega) i_14 F_12 F_13 (by omega) hW hL (lv_sub hl [0, 1, 2, 3, 4] rfl)
  exact loop_19 (_ + 1) (uL S qa 0 z_3) 1 _ _ _ (Nat.lt_succ_self _) i_5 F_4 Fr.rf (by omega) hW hL (lv_sub hl [0, 1, 2, 3, 4] rfl)

set_option maxRecDepth 100000 in
set_option maxHeartbeats 4000000 in
theorem s_J7_fill_d0a16 (l : Launch) (G : sG) (S : sS) {qa : Nat} (hI : cX G S 0 0 0) (hqa : lr qa) : Met l yJ7_fill_d0a16 (.code yJ7_fill_d0a16 cJ7_fill_d0a16 5 none :: tb) (rmk 1 0 0) (sPc G 294 S [.ref (G.2.2.1 + qa), .long (jv 0)]) (sQv G 294 (fun u => cX G u 0 0 0 ∧ Fr S u (p1 qa))) 0 0 (sF G) := by
  refine sEnterF (by decide) (Nat.le_of_ble_eq_true rfl) ?_
  intro p e s m args below meth c Cx hr hlk hnm hW ls hl
  have Cx : sC G p m c cJ7_fill_d0a16 5 s args RJ7 := Cx
  obtain ⟨hx, hb, hml, hown, hts⟩ := id Cx.1
  have hL : sL G [] := sL_nil
  have hl : lv_has ls 5 [(0, .ref (G.2.2.1 + qa)), (1, .long (jv 0))] := hl
  have hW0 := hW
  refine lv_iconst (v := iv 0) hx hb dJ7_fill_d0a16_0 (by decide) ?_
  refine lv_istore_n (lv' := [(3, .int (iv 0)), (0, .ref (G.2.2.1 + qa)), (1, .long (jv 0))]) hx hb dJ7_fill_d0a16_1 rfl hl (by decide) rfl (fun ls hl => ?_)
  refine lv_aload_n hx hb dJ7_fill_d0a16_2 rfl (lv_at hl 1 rfl) ?_
  refine sAlen Cx hW (k := qa) (lr_l hqa) hqa.1 1 rfl dJ7_fill_d0a16_3 ?_
  refine lv_istore (lv' := [(4, .int (iv 13)), (3, .int (iv 0)), (0, .ref (G.2.2.1 + qa)), (1, .long (jv 0))]) hx hb dJ7_fill_d0a16_4 hl (by decide) rfl (fun ls hl => ?_)
  have loop_6 : ∀ (fuel : Nat) (S6 : sS) (j : Int) (H : Heap) (locs : List Loc) (ls : Array Slot), (13 - j).toNat < fuel → (cX G S6 0 0 0) → (Fr S S6 (p1 qa)) → (Fr S S6 (p1 qa)) → (0 ≤ j ∧ j ≤ 13) → sW G 294 S6 H → sL G locs → lv_has ls 5 [(4, .int (iv 13)), (3, .int (iv j)), (0, .ref (G.2.2.1 + qa)), (1, .long (jv 0))] → W p l e (rmk 1 0 0) s m args below meth c H locs 0 0 (MQ below (sQv G 294 (fun u => cX G u 0 0 0 ∧ Fr S u (p1 qa))) args s 0 0 (sF G)) (F0 m 6 ls []) := by
    intro fuel
    induction fuel with
    | zero => intro S6 j H locs ls hmeas hI6 hFm6 hL6_ hj hW hL hl; exact absurd hmeas (Nat.not_lt_zero _)
    | succ fuel ih_6 =>
      intro S6 j H locs ls hmeas hI6 hFm6 hL6_ hj hW hL hl
      refine lv_iload_n hx hb dJ7_fill_d0a16_6 rfl (lv_at hl 1 rfl) ?_
      refine lv_iload hx hb dJ7_fill_d0a16_7 (lv_at hl 0 rfl) ?_
      refine r_icmp_ge (tgt := 22) hx hb ⟨(by omega), (by omega)⟩ ⟨(by omega), (by omega)⟩ dJ7_fill_d0a16_9 (by decide) (fun c_1 => ?_) (fun c_1 => ?_)
      · exact sVret Cx hr hlk hW hL ⟨hI6, hFm6⟩ dJ7_fill_d0a16_22
      · refine lv_aload_n hx hb dJ7_fill_d0a16_12 rfl (lv_at hl 2 rfl) ?_
        refine lv_iload_n hx hb dJ7_fill_d0a16_13 rfl (lv_at hl 1 rfl) ?_
        refine lv_lload_n hx hb dJ7_fill_d0a16_14 rfl (lv_at hl 3 rfl) ?_
        refine rLast Cx hW hL (k := qa) (lr_l hqa) hqa.1 (by decide) (by omega) (by omega) dJ7_fill_d0a16_15 (fun H locs hW hL => ?_)
        have F_2 : Fr S (uL S6 qa j 0) (p1 qa) := hFm6.L p1_0
        have F_3 : Fr S (uL S6 qa j 0) (p1 qa) := hL6_.L p1_0
        have i_4 : cX G (uL S6 qa j 0) 0 0 0 := hI6.L ⟨by omega, by omega⟩
        refine lv_iinc (v := iv (j + 1)) (lv' := [(3, .int (iv (j + 1))), (4, .int (iv 13)), (0, .ref (G.2.2.1 + qa)), (1, .long (jv 0))]) hx hb dJ7_fill_d0a16_16 hl (k := 1) rfl ((Int32.ofInt_add _ _).symm) (by decide) rfl (fun ls hl => ?_)
        refine lv_goto (tgt := 6) hx hb dJ7_fill_d0a16_19 (by decide) ?_
        exact ih_6 (uL S6 qa j 0) (j + 1) _ _ _ (by omega) i_4 F_2 F_3 (by omega) hW hL (lv_sub hl [1, 0, 2, 3] rfl)
  exact loop_6 (_ + 1) S 0 _ _ _ (Nat.lt_succ_self _) hI (Fr.rf : Fr S S (p1 qa)) Fr.rf (by omega) hW hL (lv_sub hl [0, 1, 2, 3] rfl)

set_option maxRecDepth 100000 in
set_option maxHeartbeats 4000000 in
theorem s_X9_item (l : Launch) (G : sG) (S : sS)  (hI : cX G S 0 0 0) : Met l yX9_item (.code yX9_item cX9_item 4 (some .int) :: tb) (rmk 2 0 0) (sPc G 294 S [.ref (G.2.2.1 + 11)]) (sQi G 294 (fun r u => cX G u 0 0 0 ∧ Fr S u (p1 11) ∧ ((-2147483648 ≤ r ∧ r ≤ 2147483647) ∧ u.1 11 9 = S.1 11 9))) 0 0 (sF G) := by
  refine sEnter (by decide) (Nat.le_of_ble_eq_true rfl) ?_
  intro p e s m args below meth c Cx hr hlk hnm hW ls hl
  have Cx : sC G p m c cX9_item 4 s args RX9 := Cx
  obtain ⟨hx, hb, hml, hown, hts⟩ := id Cx.1
  have hL : sL G [] := sL_nil
  have hl : lv_has ls 4 [(0, .ref (G.2.2.1 + 11))] := hl
  have hW0 := hW
  refine lv_aload_n hx hb dX9_item_0 rfl (lv_at hl 0 rfl) ?_
  refine lv_dup hx hb dX9_item_1 rfl ?_
  have q_1 : (-2147483648) ≤ S.1 11 13 ∧ S.1 11 13 ≤ 2147483647 := hI.fi 11 13 9 (by decide) rfl
  refine g_X9_89 Cx hW (k := 11) (by decide) rfl (v := S.1 11 13) rfl dX9_item_2 ?_
  refine lv_iconst (v := iv 1) hx hb dX9_item_5 (by decide) ?_
  refine r_iadd hx hb dX9_item_6 ?_
  obtain ⟨z_2, ez_2, hz_2, kz_2⟩ := iv_of (iv ((S.1 11 13) + 1))
  rw [ez_2]
  refine p_X9_89 Cx hW hL (k := 11) (by decide) rfl dX9_item_7 (fun H locs hW hL => ?_)
  have F_3 : Fr S (uF S 11 13 z_2) (p1 11) := (Fr.rf : Fr S S (p1 11)).F rfl
  have i_4 : cX G (uF S 11 13 z_2) 0 0 0 := hI.F rfl rfl (show (-2147483648) ≤ z_2 ∧ z_2 ≤ 2147483647 from ⟨by omega, by omega⟩)
  refine lv_aload_n hx hb dX9_item_10 rfl (lv_at hl 0 rfl) ?_
  refine g_X9_14 Cx hW (k := 11) (by decide) rfl (v := .ref (G.2.2.1 + 12)) (rf_11_0 i_4) dX9_item_11 ?_
  refine lv_aload_n hx hb dX9_item_14 rfl (lv_at hl 0 rfl) ?_
  refine g_X9_89 Cx hW (k := 11) (by decide) rfl (v := z_2) uF_on dX9_item_15 ?_
  refine sBi (sV (As := [.int (iv z_2)]) (rest := []) (k := 12) Cx (s_X8_kind l G (uF S 11 13 z_2) (k := z_2) i_4 (by omega)) (c_X9_95 Cx rfl rfl (rmk_ok (by omega) (by decide))) hW (by decide) rfl rfl rfl hl.1 rfl (Nat.le_of_ble_eq_true rfl) dX9_item_18 ⟨Nat.le_of_ble_eq_true rfl, Nat.le_of_ble_eq_true rfl⟩) hL (fun r_7 u_5 H locs k_6 hW hL => ?_)
  obtain ⟨eu_5, xu_5⟩ := k_6
  rw [eu_5] at hW
  refine lv_iconst (v := iv 3) hx hb dX9_item_21 (by decide) ?_
  refine r_icmp_ne (tgt := 50) hx hb ⟨(by omega), (by omega)⟩ ⟨(by omega), (by omega)⟩ dX9_item_22 (by decide) (fun c_8 => ?_) (fun c_8 => ?_)
  · refine lv_aload_n hx hb dX9_item_50 rfl (lv_at hl 0 rfl) ?_
    refine lv_aload_n hx hb dX9_item_51 rfl (lv_at hl 0 rfl) ?_
    refine g_X9_14 Cx hW (k := 11) (by decide) rfl (v := .ref (G.2.2.1 + 12)) (rf_11_0 i_4) dX9_item_52 ?_
    refine lv_aload_n hx hb dX9_item_55 rfl (lv_at hl 0 rfl) ?_
    refine g_X9_89 Cx hW (k := 11) (by decide) rfl (v := z_2) uF_on dX9_item_56 ?_
    refine sBl (sV (As := [.int (iv z_2)]) (rest := [.ref (G.2.2.1 + 11)]) (k := 12) Cx (s_X8_value l G (uF S 11 13 z_2) (k := z_2) i_4 (by omega)) (c_X9_124 Cx rfl rfl (rmk_ok (by omega) (by decide))) hW (by decide) rfl rfl rfl hl.1 rfl (Nat.le_of_ble_eq_true rfl) dX9_item_59 ⟨Nat.le_of_ble_eq_true rfl, Nat.le_of_ble_eq_true rfl⟩) hL (fun r_11 u_9 H locs k_10 hW hL => ?_)
    obtain ⟨eu_9, xu_9⟩ := k_10
    rw [eu_9] at hW
    have q_12 : 0 ≤ S.1 11 9 ∧ S.1 11 9 ≤ 128 := hI.fi 11 9 9 (by decide) rfl
    have lk_13 : (uF S 11 13 z_2).1 11 9 = S.1 11 9 := uF_ne (fun h => absurd h.2 (by decide))
    refine sBi (sV (As := [.long (jv r_11)]) (rest := []) (k := 11) Cx (s_X9_find l G (uF S 11 13 z_2) (nm := r_11) i_4 (by omega)) (c_X9_128 Cx rfl rfl (rmk_ok (by omega) (by decide))) hW (by decide) rfl rfl rfl hl.1 rfl (Nat.le_of_ble_eq_true rfl) dX9_item_62 ⟨Nat.le_of_ble_eq_true rfl, Nat.le_of_ble_eq_true rfl⟩) hL (fun r_16 u_14 H locs k_15 hW hL => ?_)
    obtain ⟨eu_14, xu_14⟩ := k_15
    rw [eu_14] at hW
    refine lv_istore_n (lv' := [(1, .int (iv r_16)), (0, .ref (G.2.2.1 + 11))]) hx hb dX9_item_65 rfl hl (by decide) rfl (fun ls hl => ?_)
    refine lv_iload_n hx hb dX9_item_66 rfl (lv_at hl 0 rfl) ?_
    refine r_if_lt (tgt := 80) hx hb ⟨(by omega), (by omega)⟩ dX9_item_67 (by decide) (fun c_17 => ?_) (fun c_17 => ?_)
    · refine lv_aload_n hx hb dX9_item_80 rfl (lv_at hl 1 rfl) ?_
      refine lv_iconst (v := iv 2) hx hb dX9_item_81 (by decide) ?_
      refine lv_aload_n hx hb dX9_item_82 rfl (lv_at hl 1 rfl) ?_
      refine g_X9_89 Cx hW (k := 11) (by decide) rfl (v := z_2) uF_on dX9_item_83 ?_
      refine sBi (sV (As := [.int (iv 2), .int (iv z_2)]) (rest := []) (k := 11) Cx (s_X9_fail l G (uF S 11 13 z_2) (k := 2) (tk := z_2) i_4 (by omega) (by omega)) (c_X9_132 Cx rfl rfl (rmk_ok (by omega) (by decide))) hW (by decide) rfl rfl rfl hl.1 rfl (Nat.le_of_ble_eq_true rfl) dX9_item_86 ⟨Nat.le_of_ble_eq_true rfl, Nat.le_of_ble_eq_true rfl⟩) hL (fun r_20 u_18 H locs k_19 hW hL => ?_)
      obtain ⟨iu_18, fu_18, xu_18⟩ := k_19
      have F_21 := F_3.trans fu_18
      refine lv_pop hx hb dX9_item_89 rfl ?_
      refine lv_iconst (v := iv 0) hx hb dX9_item_90 (by decide) ?_
      have q_22 : 0 ≤ u_18.1 11 9 ∧ u_18.1 11 9 ≤ 128 := iu_18.fi 11 9 9 (by decide) rfl
      exact sIret Cx hr hlk hW hL ⟨iu_18, F_21, (by omega)⟩ dX9_item_91
    · refine lv_aload_n hx hb dX9_item_70 rfl (lv_at hl 1 rfl) ?_
      refine lv_iload_n hx hb dX9_item_71 rfl (lv_at hl 0 rfl) ?_
      refine lv_iconst (v := iv 0) hx hb dX9_item_72 (by decide) ?_
      refine sBi (sV (As := [.int (iv r_16), .int (iv 0)]) (rest := []) (k := 11) Cx (s_X9_fact l G (uF S 11 13 z_2) (s0 := r_16) (q := 0) i_4 (by omega) (by omega)) (c_X9_120 Cx rfl rfl (rmk_ok (by omega) (by decide))) hW (by decide) rfl rfl rfl hl.1 rfl (Nat.le_of_ble_eq_true rfl) dX9_item_73 ⟨Nat.le_of_ble_eq_true rfl, Nat.le_of_ble_eq_true rfl⟩) hL (fun r_25 u_23 H locs k_24 hW hL => ?_)
      obtain ⟨eu_23, xu_23⟩ := k_24
      rw [eu_23] at hW
      have yu_23 := xu_23.2
      unfold fr8 at yu_23
      refine lv_iconst (v := iv 2) hx hb dX9_item_76 (by decide) ?_
      refine r_icmp_eq (tgt := 92) hx hb ⟨(by omega), (by omega)⟩ ⟨(by omega), (by omega)⟩ dX9_item_77 (by decide) (fun c_26 => ?_) (fun c_26 => ?_)
      · refine lv_aload_n hx hb dX9_item_92 rfl (lv_at hl 1 rfl) ?_
        refine lv_dup hx hb dX9_item_93 rfl ?_
        refine g_X9_89 Cx hW (k := 11) (by decide) rfl (v := z_2) uF_on dX9_item_94 ?_
        refine lv_iconst (v := iv 1) hx hb dX9_item_97 (by decide) ?_
        refine r_iadd hx hb dX9_item_98 ?_
        obtain ⟨z_27, ez_27, hz_27, kz_27⟩ := iv_of (iv (z_2 + 1))
        rw [ez_27]
        refine p_X9_89 Cx hW hL (k := 11) (by decide) rfl dX9_item_99 (fun H locs hW hL => ?_)
        have F_28 : Fr S (uF (uF S 11 13 z_2) 11 13 z_27) (p1 11) := F_3.F rfl
        have i_29 : cX G (uF (uF S 11 13 z_2) 11 13 z_27) 0 0 0 := i_4.F rfl rfl (show (-2147483648) ≤ z_27 ∧ z_27 ≤ 2147483647 from ⟨by omega, by omega⟩)
        refine lv_aload_n hx hb dX9_item_102 rfl (lv_at hl 1 rfl) ?_
        refine g_X9_14 Cx hW (k := 11) (by decide) rfl (v := .ref (G.2.2.1 + 12)) (rf_11_0 i_29) dX9_item_103 ?_
        refine lv_aload_n hx hb dX9_item_106 rfl (lv_at hl 1 rfl) ?_
        refine g_X9_89 Cx hW (k := 11) (by decide) rfl (v := z_27) uF_on dX9_item_107 ?_
        refine sBi (sV (As := [.int (iv z_27)]) (rest := []) (k := 12) Cx (s_X8_kind l G (uF (uF S 11 13 z_2) 11 13 z_27) (k := z_27) i_29 (by omega)) (c_X9_95 Cx rfl rfl (rmk_ok (by omega) (by decide))) hW (by decide) rfl rfl rfl hl.1 rfl (Nat.le_of_ble_eq_true rfl) dX9_item_110 ⟨Nat.le_of_ble_eq_true rfl, Nat.le_of_ble_eq_true rfl⟩) hL (fun r_32 u_30 H locs k_31 hW hL => ?_)
        obtain ⟨eu_30, xu_30⟩ := k_31
        rw [eu_30] at hW
        refine lv_istore_n (lv' := [(2, .int (iv r_32)), (1, .int (iv r_16)), (0, .ref (G.2.2.1 + 11))]) hx hb dX9_item_113 rfl hl (by decide) rfl (fun ls hl => ?_)
        refine lv_iload_n hx hb dX9_item_114 rfl (lv_at hl 0 rfl) ?_
        refine lv_bipush (v := iv 21) hx hb dX9_item_115 (by decide) ?_
        refine r_icmp_eq (tgt := 133) hx hb ⟨(by omega), (by omega)⟩ ⟨(by omega), (by omega)⟩ dX9_item_117 (by decide) (fun c_33 => ?_) (fun c_33 => ?_)
        · refine lv_aload_n hx hb dX9_item_133 rfl (lv_at hl 2 rfl) ?_
          refine lv_dup hx hb dX9_item_134 rfl ?_
          refine g_X9_89 Cx hW (k := 11) (by decide) rfl (v := z_27) uF_on dX9_item_135 ?_
          refine lv_iconst (v := iv 2) hx hb dX9_item_138 (by decide) ?_
          refine r_iadd hx hb dX9_item_139 ?_
          obtain ⟨z_34, ez_34, hz_34, kz_34⟩ := iv_of (iv (z_27 + 2))
          rw [ez_34]
          refine p_X9_89 Cx hW hL (k := 11) (by decide) rfl dX9_item_140 (fun H locs hW hL => ?_)
          have F_35 : Fr S (uF (uF (uF S 11 13 z_2) 11 13 z_27) 11 13 z_34) (p1 11) := F_28.F rfl
          have i_36 : cX G (uF (uF (uF S 11 13 z_2) 11 13 z_27) 11 13 z_34) 0 0 0 := i_29.F rfl rfl (show (-2147483648) ≤ z_34 ∧ z_34 ≤ 2147483647 from ⟨by omega, by omega⟩)
          refine lv_aload_n hx hb dX9_item_143 rfl (lv_at hl 2 rfl) ?_
          refine g_X9_14 Cx hW (k := 11) (by decide) rfl (v := .ref (G.2.2.1 + 12)) (rf_11_0 i_36) dX9_item_144 ?_
          refine lv_aload_n hx hb dX9_item_147 rfl (lv_at hl 2 rfl) ?_
          refine g_X9_89 Cx hW (k := 11) (by decide) rfl (v := z_34) uF_on dX9_item_148 ?_
          refine lv_iconst (v := iv 1) hx hb dX9_item_151 (by decide) ?_
          refine r_isub hx hb dX9_item_152 ?_
          obtain ⟨z_37, ez_37, hz_37, kz_37⟩ := iv_of (iv (z_34 - 1))
          rw [ez_37]
          refine sBl (sV (As := [.int (iv z_37)]) (rest := []) (k := 12) Cx (s_X8_value l G (uF (uF (uF S 11 13 z_2) 11 13 z_27) 11 13 z_34) (k := z_37) i_36 (by omega)) (c_X9_124 Cx rfl rfl (rmk_ok (by omega) (by decide))) hW (by decide) rfl rfl rfl hl.1 rfl (Nat.le_of_ble_eq_true rfl) dX9_item_153 ⟨Nat.le_of_ble_eq_true rfl, Nat.le_of_ble_eq_true rfl⟩) hL (fun r_40 u_38 H locs k_39 hW hL => ?_)
          obtain ⟨eu_38, xu_38⟩ := k_39
          rw [eu_38] at hW
          refine r_l2i_any hx hb dX9_item_156 (fun z_41 hz_41 kz_41 => ?_)
          refine lv_istore_n (lv' := [(3, .int (iv z_41)), (2, .int (iv r_32)), (1, .int (iv r_16)), (0, .ref (G.2.2.1 + 11))]) hx hb dX9_item_157 rfl hl (by decide) rfl (fun ls hl => ?_)
          refine lv_aload_n hx hb dX9_item_158 rfl (lv_at hl 3 rfl) ?_
          refine lv_iload_n hx hb dX9_item_159 rfl (lv_at hl 2 rfl) ?_
          refine lv_iconst (v := iv 1) hx hb dX9_item_160 (by decide) ?_
          refine sBi (sV (As := [.int (iv r_16), .int (iv 1)]) (rest := []) (k := 11) Cx (s_X9_fact l G (uF (uF (uF S 11 13 z_2) 11 13 z_27) 11 13 z_34) (s0 := r_16) (q := 1) i_36 (by omega) (by omega)) (c_X9_120 Cx rfl rfl (rmk_ok (by omega) (by decide))) hW (by decide) rfl rfl rfl hl.1 rfl (Nat.le_of_ble_eq_true rfl) dX9_item_161 ⟨Nat.le_of_ble_eq_true rfl, Nat.le_of_ble_eq_true rfl⟩) hL (fun r_44 u_42 H locs k_43 hW hL => ?_)
          obtain ⟨eu_42, xu_42⟩ := k_43
          rw [eu_42] at hW
          have yu_42 := xu_42.2
          unfold fr8 at yu_42
          refine lv_iload_n hx hb dX9_item_164 rfl (lv_at hl 1 rfl) ?_
          refine lv_bipush (v := iv 21) hx hb dX9_item_165 (by decide) ?_
          refine r_icmp_ne (tgt := 174) hx hb ⟨(by omega), (by omega)⟩ ⟨(by omega), (by omega)⟩ dX9_item_167 (by decide) (fun c_45 => ?_) (fun c_45 => ?_)
          · refine lv_iload_n hx hb dX9_item_174 rfl (lv_at hl 0 rfl) ?_
            refine r_ineg hx hb dX9_item_175 ?_
            obtain ⟨z_46, ez_46, hz_46, kz_46⟩ := iv_of (iv (-z_41))
            rw [ez_46]
            refine r_iadd hx hb dX9_item_176 ?_
            obtain ⟨z_47, ez_47, hz_47, kz_47⟩ := iv_of (iv (r_44 + z_46))
            rw [ez_47]
            have lk_48 : (uF (uF (uF S 11 13 z_2) 11 13 z_27) 11 13 z_34).1 11 9 = S.1 11 9 := (uF_ne (fun h => absurd h.2 (by decide))).trans ((uF_ne (fun h => absurd h.2 (by decide))).trans (uF_ne (fun h => absurd h.2 (by decide))))
            exact sIret Cx hr hlk hW hL ⟨i_36, F_35, (by omega)⟩ dX9_item_177
          · refine lv_iload_n hx hb dX9_item_170 rfl (lv_at hl 0 rfl) ?_
            refine lv_goto (tgt := 176) hx hb dX9_item_171 (by decide) ?_
            refine r_iadd hx hb dX9_item_176 ?_
            obtain ⟨z_49, ez_49, hz_49, kz_49⟩ := iv_of (iv (r_44 + z_41))
            rw [ez_49]
            have lk_50 : (uF (uF (uF S 11 13 z_2) 11 13 z_27) 11 13 z_34).1 11 9 = S.1 11 9 := (uF_ne (fun h => absurd h.2 (by decide))).trans ((uF_ne (fun h => absurd h.2 (by decide))).trans (uF_ne (fun h => absurd h.2 (by decide))))
            exact sIret Cx hr hlk hW hL ⟨i_36, F_35, (by omega)⟩ dX9_item_177
        · refine lv_iload_n hx hb dX9_item_120 rfl (lv_at hl 0 rfl) ?_
          refine lv_bipush (v := iv 22) hx hb dX9_item_121 (by decide) ?_
          refine r_icmp_eq (tgt := 133) hx hb ⟨(by omega), (by omega)⟩ ⟨(by omega), (by omega)⟩ dX9_item_123 (by decide) (fun c_51 => ?_) (fun c_51 => ?_)
          · refine lv_aload_n hx hb dX9_item_133 rfl (lv_at hl 2 rfl) ?_
            refine lv_dup hx hb dX9_item_134 rfl ?_
            refine g_X9_89 Cx hW (k := 11) (by decide) rfl (v := z_27) uF_on dX9_item_135 ?_
            refine lv_iconst (v := iv 2) hx hb dX9_item_138 (by decide) ?_
            refine r_iadd hx hb dX9_item_139 ?_
            obtain ⟨z_52, ez_52, hz_52, kz_52⟩ := iv_of (iv (z_27 + 2))
            rw [ez_52]
            refine p_X9_89 Cx hW hL (k := 11) (by decide) rfl dX9_item_140 (fun H locs hW hL => ?_)
            have F_53 : Fr S (uF (uF (uF S 11 13 z_2) 11 13 z_27) 11 13 z_52) (p1 11) := F_28.F rfl
            have i_54 : cX G (uF (uF (uF S 11 13 z_2) 11 13 z_27) 11 13 z_52) 0 0 0 := i_29.F rfl rfl (show (-2147483648) ≤ z_52 ∧ z_52 ≤ 2147483647 from ⟨by omega, by omega⟩)
            refine lv_aload_n hx hb dX9_item_143 rfl (lv_at hl 2 rfl) ?_
            refine g_X9_14 Cx hW (k := 11) (by decide) rfl (v := .ref (G.2.2.1 + 12)) (rf_11_0 i_54) dX9_item_144 ?_
            refine lv_aload_n hx hb dX9_item_147 rfl (lv_at hl 2 rfl) ?_
            refine g_X9_89 Cx hW (k := 11) (by decide) rfl (v := z_52) uF_on dX9_item_148 ?_
            refine lv_iconst (v := iv 1) hx hb dX9_item_151 (by decide) ?_
            refine r_isub hx hb dX9_item_152 ?_
            obtain ⟨z_55, ez_55, hz_55, kz_55⟩ := iv_of (iv (z_52 - 1))
            rw [ez_55]
            refine sBl (sV (As := [.int (iv z_55)]) (rest := []) (k := 12) Cx (s_X8_value l G (uF (uF (uF S 11 13 z_2) 11 13 z_27) 11 13 z_52) (k := z_55) i_54 (by omega)) (c_X9_124 Cx rfl rfl (rmk_ok (by omega) (by decide))) hW (by decide) rfl rfl rfl hl.1 rfl (Nat.le_of_ble_eq_true rfl) dX9_item_153 ⟨Nat.le_of_ble_eq_true rfl, Nat.le_of_ble_eq_true rfl⟩) hL (fun r_58 u_56 H locs k_57 hW hL => ?_)
            obtain ⟨eu_56, xu_56⟩ := k_57
            rw [eu_56] at hW
            refine r_l2i_any hx hb dX9_item_156 (fun z_59 hz_59 kz_59 => ?_)
            refine lv_istore_n (lv' := [(3, .int (iv z_59)), (2, .int (iv r_32)), (1, .int (iv r_16)), (0, .ref (G.2.2.1 + 11))]) hx hb dX9_item_157 rfl hl (by decide) rfl (fun ls hl => ?_)
            refine lv_aload_n hx hb dX9_item_158 rfl (lv_at hl 3 rfl) ?_
            refine lv_iload_n hx hb dX9_item_159 rfl (lv_at hl 2 rfl) ?_
            refine lv_iconst (v := iv 1) hx hb dX9_item_160 (by decide) ?_
            refine sBi (sV (As := [.int (iv r_16), .int (iv 1)]) (rest := []) (k := 11) Cx (s_X9_fact l G (uF (uF (uF S 11 13 z_2) 11 13 z_27) 11 13 z_52) (s0 := r_16) (q := 1) i_54 (by omega) (by omega)) (c_X9_120 Cx rfl rfl (rmk_ok (by omega) (by decide))) hW (by decide) rfl rfl rfl hl.1 rfl (Nat.le_of_ble_eq_true rfl) dX9_item_161 ⟨Nat.le_of_ble_eq_true rfl, Nat.le_of_ble_eq_true rfl⟩) hL (fun r_62 u_60 H locs k_61 hW hL => ?_)
            obtain ⟨eu_60, xu_60⟩ := k_61
            rw [eu_60] at hW
            have yu_60 := xu_60.2
            unfold fr8 at yu_60
            refine lv_iload_n hx hb dX9_item_164 rfl (lv_at hl 1 rfl) ?_
            refine lv_bipush (v := iv 21) hx hb dX9_item_165 (by decide) ?_
            refine r_icmp_ne (tgt := 174) hx hb ⟨(by omega), (by omega)⟩ ⟨(by omega), (by omega)⟩ dX9_item_167 (by decide) (fun c_63 => ?_) (fun c_63 => ?_)
            · refine lv_iload_n hx hb dX9_item_174 rfl (lv_at hl 0 rfl) ?_
              refine r_ineg hx hb dX9_item_175 ?_
              obtain ⟨z_64, ez_64, hz_64, kz_64⟩ := iv_of (iv (-z_59))
              rw [ez_64]
              refine r_iadd hx hb dX9_item_176 ?_
              obtain ⟨z_65, ez_65, hz_65, kz_65⟩ := iv_of (iv (r_62 + z_64))
              rw [ez_65]
              have lk_66 : (uF (uF (uF S 11 13 z_2) 11 13 z_27) 11 13 z_52).1 11 9 = S.1 11 9 := (uF_ne (fun h => absurd h.2 (by decide))).trans ((uF_ne (fun h => absurd h.2 (by decide))).trans (uF_ne (fun h => absurd h.2 (by decide))))
              exact sIret Cx hr hlk hW hL ⟨i_54, F_53, (by omega)⟩ dX9_item_177
            · refine lv_iload_n hx hb dX9_item_170 rfl (lv_at hl 0 rfl) ?_
              refine lv_goto (tgt := 176) hx hb dX9_item_171 (by decide) ?_
              refine r_iadd hx hb dX9_item_176 ?_
              obtain ⟨z_67, ez_67, hz_67, kz_67⟩ := iv_of (iv (r_62 + z_59))
              rw [ez_67]
              have lk_68 : (uF (uF (uF S 11 13 z_2) 11 13 z_27) 11 13 z_52).1 11 9 = S.1 11 9 := (uF_ne (fun h => absurd h.2 (by decide))).trans ((uF_ne (fun h => absurd h.2 (by decide))).trans (uF_ne (fun h => absurd h.2 (by decide))))
              exact sIret Cx hr hlk hW hL ⟨i_54, F_53, (by omega)⟩ dX9_item_177
          · refine lv_aload_n hx hb dX9_item_126 rfl (lv_at hl 2 rfl) ?_
            refine lv_iload_n hx hb dX9_item_127 rfl (lv_at hl 1 rfl) ?_
            refine lv_iconst (v := iv 1) hx hb dX9_item_128 (by decide) ?_
            refine sBi (sV (As := [.int (iv r_16), .int (iv 1)]) (rest := []) (k := 11) Cx (s_X9_fact l G (uF (uF S 11 13 z_2) 11 13 z_27) (s0 := r_16) (q := 1) i_29 (by omega) (by omega)) (c_X9_120 Cx rfl rfl (rmk_ok (by omega) (by decide))) hW (by decide) rfl rfl rfl hl.1 rfl (Nat.le_of_ble_eq_true rfl) dX9_item_129 ⟨Nat.le_of_ble_eq_true rfl, Nat.le_of_ble_eq_true rfl⟩) hL (fun r_71 u_69 H locs k_70 hW hL => ?_)
            obtain ⟨eu_69, xu_69⟩ := k_70
            rw [eu_69] at hW
            have yu_69 := xu_69.2
            unfold fr8 at yu_69
            have lk_72 : (uF (uF S 11 13 z_2) 11 13 z_27).1 11 9 = S.1 11 9 := (uF_ne (fun h => absurd h.2 (by decide))).trans (uF_ne (fun h => absurd h.2 (by decide)))
            exact sIret Cx hr hlk hW hL ⟨i_29, F_28, (by omega)⟩ dX9_item_132
      · refine lv_aload_n hx hb dX9_item_80 rfl (lv_at hl 1 rfl) ?_
        refine lv_iconst (v := iv 2) hx hb dX9_item_81 (by decide) ?_
        refine lv_aload_n hx hb dX9_item_82 rfl (lv_at hl 1 rfl) ?_
        refine g_X9_89 Cx hW (k := 11) (by decide) rfl (v := z_2) uF_on dX9_item_83 ?_
        refine sBi (sV (As := [.int (iv 2), .int (iv z_2)]) (rest := []) (k := 11) Cx (s_X9_fail l G (uF S 11 13 z_2) (k := 2) (tk := z_2) i_4 (by omega) (by omega)) (c_X9_132 Cx rfl rfl (rmk_ok (by omega) (by decide))) hW (by decide) rfl rfl rfl hl.1 rfl (Nat.le_of_ble_eq_true rfl) dX9_item_86 ⟨Nat.le_of_ble_eq_true rfl, Nat.le_of_ble_eq_true rfl⟩) hL (fun r_75 u_73 H locs k_74 hW hL => ?_)
        obtain ⟨iu_73, fu_73, xu_73⟩ := k_74
        have F_76 := F_3.trans fu_73
        refine lv_pop hx hb dX9_item_89 rfl ?_
        refine lv_iconst (v := iv 0) hx hb dX9_item_90 (by decide) ?_
        have q_77 : 0 ≤ u_73.1 11 9 ∧ u_73.1 11 9 ≤ 128 := iu_73.fi 11 9 9 (by decide) rfl
        exact sIret Cx hr hlk hW hL ⟨iu_73, F_76, (by omega)⟩ dX9_item_91
  · refine lv_aload_n hx hb dX9_item_25 rfl (lv_at hl 0 rfl) ?_
    refine lv_dup hx hb dX9_item_26 rfl ?_
    refine g_X9_89 Cx hW (k := 11) (by decide) rfl (v := z_2) uF_on dX9_item_27 ?_
    refine lv_iconst (v := iv 1) hx hb dX9_item_30 (by decide) ?_
    refine r_iadd hx hb dX9_item_31 ?_
    obtain ⟨z_78, ez_78, hz_78, kz_78⟩ := iv_of (iv (z_2 + 1))
    rw [ez_78]
    refine p_X9_89 Cx hW hL (k := 11) (by decide) rfl dX9_item_32 (fun H locs hW hL => ?_)
    have F_79 : Fr S (uF (uF S 11 13 z_2) 11 13 z_78) (p1 11) := F_3.F rfl
    have i_80 : cX G (uF (uF S 11 13 z_2) 11 13 z_78) 0 0 0 := i_4.F rfl rfl (show (-2147483648) ≤ z_78 ∧ z_78 ≤ 2147483647 from ⟨by omega, by omega⟩)
    refine lv_aload_n hx hb dX9_item_35 rfl (lv_at hl 0 rfl) ?_
    refine g_X9_14 Cx hW (k := 11) (by decide) rfl (v := .ref (G.2.2.1 + 12)) (rf_11_0 i_80) dX9_item_36 ?_
    refine lv_aload_n hx hb dX9_item_39 rfl (lv_at hl 0 rfl) ?_
    refine g_X9_89 Cx hW (k := 11) (by decide) rfl (v := z_78) uF_on dX9_item_40 ?_
    refine lv_iconst (v := iv 1) hx hb dX9_item_43 (by decide) ?_
    refine r_isub hx hb dX9_item_44 ?_
    obtain ⟨z_81, ez_81, hz_81, kz_81⟩ := iv_of (iv (z_78 - 1))
    rw [ez_81]
    refine sBl (sV (As := [.int (iv z_81)]) (rest := []) (k := 12) Cx (s_X8_value l G (uF (uF S 11 13 z_2) 11 13 z_78) (k := z_81) i_80 (by omega)) (c_X9_124 Cx rfl rfl (rmk_ok (by omega) (by decide))) hW (by decide) rfl rfl rfl hl.1 rfl (Nat.le_of_ble_eq_true rfl) dX9_item_45 ⟨Nat.le_of_ble_eq_true rfl, Nat.le_of_ble_eq_true rfl⟩) hL (fun r_84 u_82 H locs k_83 hW hL => ?_)
    obtain ⟨eu_82, xu_82⟩ := k_83
    rw [eu_82] at hW
    refine r_l2i_any hx hb dX9_item_48 (fun z_85 hz_85 kz_85 => ?_)
    have q_86 : 0 ≤ S.1 11 9 ∧ S.1 11 9 ≤ 128 := hI.fi 11 9 9 (by decide) rfl
    have lk_87 : (uF (uF S 11 13 z_2) 11 13 z_78).1 11 9 = S.1 11 9 := (uF_ne (fun h => absurd h.2 (by decide))).trans (uF_ne (fun h => absurd h.2 (by decide)))
    exact sIret Cx hr hlk hW hL ⟨i_80, F_79, (by omega)⟩ dX9_item_49

set_option maxRecDepth 100000 in
set_option maxHeartbeats 4000000 in
theorem s_X9_putNamed (l : Launch) (G : sG) (S : sS) {qa : Nat} {s0 v : Int} (hI : cX G S 0 0 0) (hqa : lr qa) (hs : 0 ≤ s0 ∧ s0 ≤ 127) (hv : -2147483648 ≤ v ∧ v ≤ 2147483647) : Met l yX9_putNamed (.code yX9_putNamed cX9_putNamed 4 none :: tb) (rmk 2 0 0) (sPc G 294 S [.ref (G.2.2.1 + 11), .ref (G.2.2.1 + qa), .int (iv s0), .int (iv v)]) (sQv G 294 (fun u => cX G u 0 0 0 ∧ Fr S u (p1 qa))) 0 0 (sF G) := by
  refine sEnter (by decide) (Nat.le_of_ble_eq_true rfl) ?_
  intro p e s m args below meth c Cx hr hlk hnm hW ls hl
  have Cx : sC G p m c cX9_putNamed 4 s args RX9 := Cx
  obtain ⟨hx, hb, hml, hown, hts⟩ := id Cx.1
  have hL : sL G [] := sL_nil
  have hl : lv_has ls 4 [(0, .ref (G.2.2.1 + 11)), (1, .ref (G.2.2.1 + qa)), (2, .int (iv s0)), (3, .int (iv v))] := hl
  have hW0 := hW
  refine lv_aload_n hx hb dX9_putNamed_0 rfl (lv_at hl 0 rfl) ?_
  refine lv_iload_n hx hb dX9_putNamed_1 rfl (lv_at hl 2 rfl) ?_
  refine lv_iconst (v := iv 0) hx hb dX9_putNamed_2 (by decide) ?_
  refine sBi (sV (As := [.int (iv s0), .int (iv 0)]) (rest := []) (k := 11) Cx (s_X9_fact l G S (s0 := s0) (q := 0) hI (by omega) (by omega)) (c_X9_120 Cx rfl rfl (rmk_ok (by omega) (by decide))) hW (by decide) rfl rfl rfl hl.1 rfl (Nat.le_of_ble_eq_true rfl) dX9_putNamed_3 ⟨Nat.le_of_ble_eq_true rfl, Nat.le_of_ble_eq_true rfl⟩) hL (fun r_3 u_1 H locs k_2 hW hL => ?_)
  obtain ⟨eu_1, xu_1⟩ := k_2
  rw [eu_1] at hW
  have yu_1 := xu_1.2
  unfold fr8 at yu_1
  refine lv_bipush (v := iv 7) hx hb dX9_putNamed_6 (by decide) ?_
  refine r_icmp_ne (tgt := 41) hx hb ⟨(by omega), (by omega)⟩ ⟨(by omega), (by omega)⟩ dX9_putNamed_8 (by decide) (fun c_4 => ?_) (fun c_4 => ?_)
  · refine lv_iload_n hx hb dX9_putNamed_41 rfl (lv_at hl 3 rfl) ?_
    refine lv_iconst (v := iv 1) hx hb dX9_putNamed_42 (by decide) ?_
    refine r_icmp_lt (tgt := 56) hx hb ⟨(by omega), (by omega)⟩ ⟨(by omega), (by omega)⟩ dX9_putNamed_43 (by decide) (fun c_5 => ?_) (fun c_5 => ?_)
    · exact sVret Cx hr hlk hW hL ⟨hI, (Fr.rf : Fr S S (p1 qa))⟩ dX9_putNamed_56
    · refine lv_iload_n hx hb dX9_putNamed_46 rfl (lv_at hl 3 rfl) ?_
      refine lv_bipush (v := iv 13) hx hb dX9_putNamed_47 (by decide) ?_
      refine r_icmp_ge (tgt := 56) hx hb ⟨(by omega), (by omega)⟩ ⟨(by omega), (by omega)⟩ dX9_putNamed_49 (by decide) (fun c_6 => ?_) (fun c_6 => ?_)
      · exact sVret Cx hr hlk hW hL ⟨hI, (Fr.rf : Fr S S (p1 qa))⟩ dX9_putNamed_56
      · refine lv_aload_n hx hb dX9_putNamed_52 rfl (lv_at hl 1 rfl) ?_
        refine lv_iload_n hx hb dX9_putNamed_53 rfl (lv_at hl 3 rfl) ?_
        refine lv_lconst (v := jv 1) hx hb dX9_putNamed_54 (by decide) ?_
        refine rLast Cx hW hL (k := qa) (lr_l hqa) hqa.1 (by decide) (by omega) (by omega) dX9_putNamed_55 (fun H locs hW hL => ?_)
        have F_7 : Fr S (uL S qa v 1) (p1 qa) := (Fr.rf : Fr S S (p1 qa)).L p1_0
        have i_8 : cX G (uL S qa v 1) 0 0 0 := hI.L ⟨by omega, by omega⟩
        exact sVret Cx hr hlk hW hL ⟨i_8, F_7⟩ dX9_putNamed_56
  · refine lv_aload_n hx hb dX9_putNamed_11 rfl (lv_at hl 1 rfl) ?_
    refine lv_iconst (v := iv 0) hx hb dX9_putNamed_12 (by decide) ?_
    refine lv_iload_n hx hb dX9_putNamed_13 rfl (lv_at hl 3 rfl) ?_
    refine r_if_lt (tgt := 36) hx hb ⟨(by omega), (by omega)⟩ dX9_putNamed_14 (by decide) (fun c_9 => ?_) (fun c_9 => ?_)
    · refine lv_lconst (v := jv 0) hx hb dX9_putNamed_36 (by decide) ?_
      refine rLast Cx hW hL (k := qa) (lr_l hqa) hqa.1 (by decide) (by omega) (by omega) dX9_putNamed_37 (fun H locs hW hL => ?_)
      have F_10 : Fr S (uL S qa 0 0) (p1 qa) := (Fr.rf : Fr S S (p1 qa)).L p1_0
      have i_11 : cX G (uL S qa 0 0) 0 0 0 := hI.L ⟨by omega, by omega⟩
      refine lv_goto (tgt := 56) hx hb dX9_putNamed_38 (by decide) ?_
      exact sVret Cx hr hlk hW hL ⟨i_11, F_10⟩ dX9_putNamed_56
    · refine lv_iload_n hx hb dX9_putNamed_17 rfl (lv_at hl 3 rfl) ?_
      refine lv_aload_n hx hb dX9_putNamed_18 rfl (lv_at hl 0 rfl) ?_
      refine g_X9_26 Cx hW (k := 11) (by decide) rfl (v := .ref (G.2.2.1 + 18)) (rf_11_3 hI) dX9_putNamed_19 ?_
      refine sAlen Cx hW (k := 18) (by decide) rfl 0 rfl dX9_putNamed_22 ?_
      refine r_icmp_ge (tgt := 36) hx hb ⟨(by omega), (by omega)⟩ ⟨(by omega), (by omega)⟩ dX9_putNamed_23 (by decide) (fun c_12 => ?_) (fun c_12 => ?_)
      · refine lv_lconst (v := jv 0) hx hb dX9_putNamed_36 (by decide) ?_
        refine rLast Cx hW hL (k := qa) (lr_l hqa) hqa.1 (by decide) (by omega) (by omega) dX9_putNamed_37 (fun H locs hW hL => ?_)
        have F_13 : Fr S (uL S qa 0 0) (p1 qa) := (Fr.rf : Fr S S (p1 qa)).L p1_0
        have i_14 : cX G (uL S qa 0 0) 0 0 0 := hI.L ⟨by omega, by omega⟩
        refine lv_goto (tgt := 56) hx hb dX9_putNamed_38 (by decide) ?_
        exact sVret Cx hr hlk hW hL ⟨i_14, F_13⟩ dX9_putNamed_56
      · refine lv_aload_n hx hb dX9_putNamed_26 rfl (lv_at hl 0 rfl) ?_
        refine g_X9_26 Cx hW (k := 11) (by decide) rfl (v := .ref (G.2.2.1 + 18)) (rf_11_3 hI) dX9_putNamed_27 ?_
        refine lv_iload_n hx hb dX9_putNamed_30 rfl (lv_at hl 3 rfl) ?_
        refine rIald Cx hW (k := 18) (by decide) rfl (by decide) (by omega) (by omega) dX9_putNamed_31 ?_
        have q_15 : (-2147483648) ≤ S.2.1 18 v ∧ S.2.1 18 v ≤ 2147483647 := hI.ai 18 v (by decide)
        refine r_i (b := S.2.1 18 v) rfl ?_
        refine r_i2l hx hb ⟨(by omega), (by omega)⟩ dX9_putNamed_32 ?_
        refine lv_goto (tgt := 37) hx hb dX9_putNamed_33 (by decide) ?_
        refine rLast Cx hW hL (k := qa) (lr_l hqa) hqa.1 (by decide) (by omega) (by omega) dX9_putNamed_37 (fun H locs hW hL => ?_)
        have F_16 : Fr S (uL S qa 0 (S.2.1 18 v)) (p1 qa) := (Fr.rf : Fr S S (p1 qa)).L p1_0
        have i_17 : cX G (uL S qa 0 (S.2.1 18 v)) 0 0 0 := hI.L ⟨by omega, by omega⟩
        refine lv_goto (tgt := 56) hx hb dX9_putNamed_38 (by decide) ?_
        exact sVret Cx hr hlk hW hL ⟨i_17, F_16⟩ dX9_putNamed_56

set_option maxRecDepth 100000 in
set_option maxHeartbeats 4000000 in
theorem s_X9_canBeFactor (l : Launch) (G : sG) (S : sS) {s0 : Int} (hI : cX G S 0 0 0) (hs : -1 ≤ s0 ∧ s0 ≤ 127) : Met l yX9_canBeFactor (.code yX9_canBeFactor cX9_canBeFactor 2 (some .boolean) :: tb) (rmk 3 0 0) (sPc G 294 S [.ref (G.2.2.1 + 11), .int (iv s0)]) (sQi G 294 (fun r u => u = S ∧ ((0 ≤ r ∧ r ≤ 1) ∧ (r = 1 → 0 ≤ s0)))) 0 0 (sF G) := by
  refine sEnter (by decide) (Nat.le_of_ble_eq_true rfl) ?_
  intro p e s m args below meth c Cx hr hlk hnm hW ls hl
  have Cx : sC G p m c cX9_canBeFactor 2 s args RX9 := Cx
  obtain ⟨hx, hb, hml, hown, hts⟩ := id Cx.1
  have hL : sL G [] := sL_nil
  have hl : lv_has ls 2 [(0, .ref (G.2.2.1 + 11)), (1, .int (iv s0))] := hl
  have hW0 := hW
  refine lv_aload_n hx hb dX9_canBeFactor_0 rfl (lv_at hl 0 rfl) ?_
  refine lv_iload_n hx hb dX9_canBeFactor_1 rfl (lv_at hl 1 rfl) ?_
  refine lv_iconst (v := iv 2) hx hb dX9_canBeFactor_2 (by decide) ?_
  refine sBi (sV (As := [.int (iv s0), .int (iv 2)]) (rest := []) (k := 11) Cx (s_X9_isSort l G S (s0 := s0) (k := 2) hI (by omega) (by omega)) (c_X9_146 Cx rfl rfl (rmk_ok (by omega) (by decide))) hW (by decide) rfl rfl rfl hl.1 rfl (Nat.le_of_ble_eq_true rfl) dX9_canBeFactor_3 ⟨Nat.le_of_ble_eq_true rfl, Nat.le_of_ble_eq_true rfl⟩) hL (fun r_3 u_1 H locs k_2 hW hL => ?_)
  obtain ⟨eu_1, xu_1⟩ := k_2
  rw [eu_1] at hW
  refine r_if_eq (tgt := 33) hx hb ⟨(by omega), (by omega)⟩ dX9_canBeFactor_6 (by decide) (fun c_4 => ?_) (fun c_4 => ?_)
  · refine lv_aload_n hx hb dX9_canBeFactor_33 rfl (lv_at hl 0 rfl) ?_
    refine lv_iload_n hx hb dX9_canBeFactor_34 rfl (lv_at hl 1 rfl) ?_
    refine lv_bipush (v := iv 7) hx hb dX9_canBeFactor_35 (by decide) ?_
    refine sBi (sV (As := [.int (iv s0), .int (iv 7)]) (rest := []) (k := 11) Cx (s_X9_isSort l G S (s0 := s0) (k := 7) hI (by omega) (by omega)) (c_X9_146 Cx rfl rfl (rmk_ok (by omega) (by decide))) hW (by decide) rfl rfl rfl hl.1 rfl (Nat.le_of_ble_eq_true rfl) dX9_canBeFactor_37 ⟨Nat.le_of_ble_eq_true rfl, Nat.le_of_ble_eq_true rfl⟩) hL (fun r_7 u_5 H locs k_6 hW hL => ?_)
    obtain ⟨eu_5, xu_5⟩ := k_6
    rw [eu_5] at hW
    refine r_if_ne (tgt := 53) hx hb ⟨(by omega), (by omega)⟩ dX9_canBeFactor_40 (by decide) (fun c_8 => ?_) (fun c_8 => ?_)
    · refine lv_iconst (v := iv 1) hx hb dX9_canBeFactor_53 (by decide) ?_
      refine lv_goto (tgt := 58) hx hb dX9_canBeFactor_54 (by decide) ?_
      exact sZret Cx hr hlk hW hL (by omega) ⟨rfl, (by omega)⟩ dX9_canBeFactor_58
    · refine lv_aload_n hx hb dX9_canBeFactor_43 rfl (lv_at hl 0 rfl) ?_
      refine lv_iload_n hx hb dX9_canBeFactor_44 rfl (lv_at hl 1 rfl) ?_
      refine lv_bipush (v := iv 8) hx hb dX9_canBeFactor_45 (by decide) ?_
      refine sBi (sV (As := [.int (iv s0), .int (iv 8)]) (rest := []) (k := 11) Cx (s_X9_isSort l G S (s0 := s0) (k := 8) hI (by omega) (by omega)) (c_X9_146 Cx rfl rfl (rmk_ok (by omega) (by decide))) hW (by decide) rfl rfl rfl hl.1 rfl (Nat.le_of_ble_eq_true rfl) dX9_canBeFactor_47 ⟨Nat.le_of_ble_eq_true rfl, Nat.le_of_ble_eq_true rfl⟩) hL (fun r_11 u_9 H locs k_10 hW hL => ?_)
      obtain ⟨eu_9, xu_9⟩ := k_10
      rw [eu_9] at hW
      refine r_if_eq (tgt := 57) hx hb ⟨(by omega), (by omega)⟩ dX9_canBeFactor_50 (by decide) (fun c_12 => ?_) (fun c_12 => ?_)
      · refine lv_iconst (v := iv 0) hx hb dX9_canBeFactor_57 (by decide) ?_
        exact sZret Cx hr hlk hW hL (by omega) ⟨rfl, (by omega)⟩ dX9_canBeFactor_58
      · refine lv_iconst (v := iv 1) hx hb dX9_canBeFactor_53 (by decide) ?_
        refine lv_goto (tgt := 58) hx hb dX9_canBeFactor_54 (by decide) ?_
        exact sZret Cx hr hlk hW hL (by omega) ⟨rfl, (by omega)⟩ dX9_canBeFactor_58
  · refine lv_aload_n hx hb dX9_canBeFactor_9 rfl (lv_at hl 0 rfl) ?_
    refine g_X9_14 Cx hW (k := 11) (by decide) rfl (v := .ref (G.2.2.1 + 12)) (rf_11_0 hI) dX9_canBeFactor_10 ?_
    refine lv_aload_n hx hb dX9_canBeFactor_13 rfl (lv_at hl 0 rfl) ?_
    have q_13 : (-2147483648) ≤ S.1 11 13 ∧ S.1 11 13 ≤ 2147483647 := hI.fi 11 13 9 (by decide) rfl
    refine g_X9_89 Cx hW (k := 11) (by decide) rfl (v := S.1 11 13) rfl dX9_canBeFactor_14 ?_
    refine lv_iconst (v := iv 1) hx hb dX9_canBeFactor_17 (by decide) ?_
    refine r_iadd hx hb dX9_canBeFactor_18 ?_
    obtain ⟨z_14, ez_14, hz_14, kz_14⟩ := iv_of (iv ((S.1 11 13) + 1))
    rw [ez_14]
    refine sBi (sV (As := [.int (iv z_14)]) (rest := []) (k := 12) Cx (s_X8_kind l G S (k := z_14) hI (by omega)) (c_X9_95 Cx rfl rfl (rmk_ok (by omega) (by decide))) hW (by decide) rfl rfl rfl hl.1 rfl (Nat.le_of_ble_eq_true rfl) dX9_canBeFactor_19 ⟨Nat.le_of_ble_eq_true rfl, Nat.le_of_ble_eq_true rfl⟩) hL (fun r_17 u_15 H locs k_16 hW hL => ?_)
    obtain ⟨eu_15, xu_15⟩ := k_16
    rw [eu_15] at hW
    refine lv_bipush (v := iv 17) hx hb dX9_canBeFactor_22 (by decide) ?_
    refine r_icmp_eq (tgt := 31) hx hb ⟨(by omega), (by omega)⟩ ⟨(by omega), (by omega)⟩ dX9_canBeFactor_24 (by decide) (fun c_18 => ?_) (fun c_18 => ?_)
    · refine lv_iconst (v := iv 0) hx hb dX9_canBeFactor_31 (by decide) ?_
      exact sZret Cx hr hlk hW hL (by omega) ⟨rfl, (by omega)⟩ dX9_canBeFactor_32
    · refine lv_iconst (v := iv 1) hx hb dX9_canBeFactor_27 (by decide) ?_
      refine lv_goto (tgt := 32) hx hb dX9_canBeFactor_28 (by decide) ?_
      exact sZret Cx hr hlk hW hL (by omega) ⟨rfl, (by omega)⟩ dX9_canBeFactor_32

set_option maxRecDepth 100000 in
set_option maxHeartbeats 4000000 in
theorem s_X9_named (l : Launch) (G : sG) (S : sS) {dd s0 : Int} (hI : cX G S 0 0 0) (hs : 0 ≤ s0 ∧ s0 ≤ 127) (hdd : 0 ≤ dd ∧ dd ≤ 29) (hsg : SG S) (hTS : TS S) : Met l yX9_named (.code yX9_named cX9_named 11 (some .boolean) :: tb) (rmk 3 0 0) (sPc G 294 S [.ref (G.2.2.1 + 11), .int (iv dd), .int (iv s0)]) (sQi G 294 (fun r u => cX G u 0 0 0 ∧ Fr S u pV ∧ ((0 ≤ r ∧ r ≤ 1) ∧ Hd (r = 1 → TK S u)))) 0 0 (sF G) := by
  refine sEnter (by decide) (Nat.le_of_ble_eq_true rfl) ?_
  intro p e s m args below meth c Cx hr hlk hnm hW ls hl
  have Cx : sC G p m c cX9_named 11 s args RX9 := Cx
  obtain ⟨hx, hb, hml, hown, hts⟩ := id Cx.1
  have hL : sL G [] := sL_nil
  have hl : lv_has ls 11 [(0, .ref (G.2.2.1 + 11)), (1, .int (iv dd)), (2, .int (iv s0))] := hl
  have hW0 := hW
  have tk_0 : TK S S := TK.rf hTS
  have hkn : 0 ≤ S.1 11 9 ∧ S.1 11 9 ≤ 128 := hI.fi 11 9 9 (by decide) rfl
  refine lv_aload_n hx hb dX9_named_0 rfl (lv_at hl 0 rfl) ?_
  have q_1 : (-2147483648) ≤ S.1 11 13 ∧ S.1 11 13 ≤ 2147483647 := hI.fi 11 13 9 (by decide) rfl
  refine g_X9_89 Cx hW (k := 11) (by decide) rfl (v := S.1 11 13) rfl dX9_named_1 ?_
  refine lv_istore_n (lv' := [(3, .int (iv (S.1 11 13))), (0, .ref (G.2.2.1 + 11)), (1, .int (iv dd)), (2, .int (iv s0))]) hx hb dX9_named_4 rfl hl (by decide) rfl (fun ls hl => ?_)
  refine lv_aload_n hx hb dX9_named_5 rfl (lv_at hl 1 rfl) ?_
  refine lv_dup hx hb dX9_named_6 rfl ?_
  refine g_X9_89 Cx hW (k := 11) (by decide) rfl (v := S.1 11 13) rfl dX9_named_7 ?_
  refine lv_iconst (v := iv 1) hx hb dX9_named_10 (by decide) ?_
  refine r_iadd hx hb dX9_named_11 ?_
  obtain ⟨z_2, ez_2, hz_2, kz_2⟩ := iv_of (iv ((S.1 11 13) + 1))
  rw [ez_2]
  refine p_X9_89 Cx hW hL (k := 11) (by decide) rfl dX9_named_12 (fun H locs hW hL => ?_)
  have F_3 : Fr S (uF S 11 13 z_2) pV := (Fr.rf : Fr S S pV).F rfl
  have i_4 : cX G (uF S 11 13 z_2) 0 0 0 := hI.F rfl rfl (show (-2147483648) ≤ z_2 ∧ z_2 ≤ 2147483647 from ⟨by omega, by omega⟩)
  have tk_5 : TK S (uF S 11 13 z_2) := tk_0.F (by decide)
  refine lv_aload_n hx hb dX9_named_15 rfl (lv_at hl 1 rfl) ?_
  refine lv_iload_n hx hb dX9_named_16 rfl (lv_at hl 3 rfl) ?_
  refine lv_iconst (v := iv 2) hx hb dX9_named_17 (by decide) ?_
  refine sBi (sV (As := [.int (iv s0), .int (iv 2)]) (rest := []) (k := 11) Cx (s_X9_isSort l G (uF S 11 13 z_2) (s0 := s0) (k := 2) i_4 (by omega) (by omega)) (c_X9_146 Cx rfl rfl (rmk_ok (by omega) (by decide))) hW (by decide) rfl rfl rfl hl.1 rfl (Nat.le_of_ble_eq_true rfl) dX9_named_18 ⟨Nat.le_of_ble_eq_true rfl, Nat.le_of_ble_eq_true rfl⟩) hL (fun r_8 u_6 H locs k_7 hW hL => ?_)
  obtain ⟨eu_6, xu_6⟩ := k_7
  rw [eu_6] at hW
  refine r_if_eq (tgt := 41) hx hb ⟨(by omega), (by omega)⟩ dX9_named_21 (by decide) (fun c_9 => ?_) (fun c_9 => ?_)
  · refine lv_iconst (v := iv 0) hx hb dX9_named_41 (by decide) ?_
    refine lv_istore (lv' := [(4, .int (iv 0)), (3, .int (iv (S.1 11 13))), (0, .ref (G.2.2.1 + 11)), (1, .int (iv dd)), (2, .int (iv s0))]) hx hb dX9_named_42 hl (by decide) rfl (fun ls hl => ?_)
    refine lv_iconst (v := iv 0) hx hb dX9_named_44 (by decide) ?_
    refine lv_istore (lv' := [(5, .int (iv 0)), (4, .int (iv 0)), (3, .int (iv (S.1 11 13))), (0, .ref (G.2.2.1 + 11)), (1, .int (iv dd)), (2, .int (iv s0))]) hx hb dX9_named_45 hl (by decide) rfl (fun ls hl => ?_)
    refine lv_iconst (v := iv 1) hx hb dX9_named_47 (by decide) ?_
    refine lv_istore (lv' := [(6, .int (iv 1)), (5, .int (iv 0)), (4, .int (iv 0)), (3, .int (iv (S.1 11 13))), (0, .ref (G.2.2.1 + 11)), (1, .int (iv dd)), (2, .int (iv s0))]) hx hb dX9_named_48 hl (by decide) rfl (fun ls hl => ?_)
    have join_71 : ∀ (mo : Int) (H : Heap) (locs : List Loc) (ls : Array Slot), (0 ≤ mo ∧ mo ≤ 1) → sW G 294 (uF S 11 13 z_2) H → sL G locs → lv_has ls 11 [(6, .int (iv 1)), (5, .int (iv 0)), (4, .int (iv 0)), (3, .int (iv (S.1 11 13))), (0, .ref (G.2.2.1 + 11)), (1, .int (iv dd)), (2, .int (iv s0))] → W p l e (rmk 3 0 0) s m args below meth c H locs 0 0 (MQ below (sQi G 294 (fun r u => cX G u 0 0 0 ∧ Fr S u pV ∧ ((0 ≤ r ∧ r ≤ 1) ∧ Hd (r = 1 → TK S u)))) args s 0 0 (sF G)) (F0 m 71 ls [.int (iv mo)]) := by
      intro mo H locs ls hmo hW hL hl
      refine lv_istore (lv' := [(7, .int (iv mo)), (6, .int (iv 1)), (5, .int (iv 0)), (4, .int (iv 0)), (3, .int (iv (S.1 11 13))), (0, .ref (G.2.2.1 + 11)), (1, .int (iv dd)), (2, .int (iv s0))]) hx hb dX9_named_71 hl (by decide) rfl (fun ls hl => ?_)
      refine lv_iconst (v := iv 3) hx hb dX9_named_73 (by decide) ?_
      refine lv_istore (lv' := [(8, .int (iv 3)), (7, .int (iv mo)), (6, .int (iv 1)), (5, .int (iv 0)), (4, .int (iv 0)), (3, .int (iv (S.1 11 13))), (0, .ref (G.2.2.1 + 11)), (1, .int (iv dd)), (2, .int (iv s0))]) hx hb dX9_named_74 hl (by decide) rfl (fun ls hl => ?_)
      have loop_76 : ∀ (fuel : Nat) (S76 : sS) (wh : Int) (mo0 : Int) (ir0 : Int) (of : Int) (gv : Int) (H : Heap) (locs : List Loc) (ls : Array Slot), (5 - wh).toNat < fuel → (cX G S76 0 0 0) → (Fr S S76 pV) → (Fr ((uF S 11 13 z_2)) S76 pV) → (0 ≤ gv ∧ gv ≤ wh) → (-2147483648 ≤ of ∧ of ≤ 2147483647) → (3 ≤ wh ∧ wh ≤ 5) → (0 ≤ ir0 ∧ ir0 ≤ 1) → (0 ≤ mo0 ∧ mo0 ≤ 1) → (TK S S76) → sW G 294 S76 H → sL G locs → lv_has ls 11 [(8, .int (iv wh)), (7, .int (iv mo0)), (6, .int (iv ir0)), (5, .int (iv of)), (4, .int (iv gv)), (3, .int (iv (S.1 11 13))), (0, .ref (G.2.2.1 + 11)), (1, .int (iv dd)), (2, .int (iv s0))] → W p l e (rmk 3 0 0) s m args below meth c H locs 0 0 (MQ below (sQi G 294 (fun r u => cX G u 0 0 0 ∧ Fr S u pV ∧ ((0 ≤ r ∧ r ≤ 1) ∧ Hd (r = 1 → TK S u)))) args s 0 0 (sF G)) (F0 m 76 ls []) := by
        intro fuel
        induction fuel with
        | zero => intro S76 wh mo0 ir0 of gv H locs ls hmeas hI76 hFm76 hL76_ hgv hof hwh hir0 hmo0 hTK76 hW hL hl; exact absurd hmeas (Nat.not_lt_zero _)
        | succ fuel ih_76 =>
          intro S76 wh mo0 ir0 of gv H locs ls hmeas hI76 hFm76 hL76_ hgv hof hwh hir0 hmo0 hTK76 hW hL hl
          refine lv_iload hx hb dX9_named_76 (lv_at hl 0 rfl) ?_
          refine lv_iconst (v := iv 4) hx hb dX9_named_78 (by decide) ?_
          refine r_icmp_gt (tgt := 221) hx hb ⟨(by omega), (by omega)⟩ ⟨(by omega), (by omega)⟩ dX9_named_79 (by decide) (fun c_10 => ?_) (fun c_10 => ?_)
          · have join_248 : ∀ (wa : Int) (H : Heap) (locs : List Loc) (ls : Array Slot), (0 ≤ wa ∧ wa ≤ 2) → sW G 294 S76 H → sL G locs → lv_has ls 11 [(8, .int (iv wh)), (7, .int (iv mo0)), (6, .int (iv ir0)), (5, .int (iv of)), (4, .int (iv gv)), (3, .int (iv (S.1 11 13))), (0, .ref (G.2.2.1 + 11)), (1, .int (iv dd)), (2, .int (iv s0))] → W p l e (rmk 3 0 0) s m args below meth c H locs 0 0 (MQ below (sQi G 294 (fun r u => cX G u 0 0 0 ∧ Fr S u pV ∧ ((0 ≤ r ∧ r ≤ 1) ∧ Hd (r = 1 → TK S u)))) args s 0 0 (sF G)) (F0 m 248 ls [.int (iv wa)]) := by
              intro wa H locs ls hwa hW hL hl
              refine lv_istore (lv' := [(8, .int (iv wa)), (7, .int (iv mo0)), (6, .int (iv ir0)), (5, .int (iv of)), (4, .int (iv gv)), (3, .int (iv (S.1 11 13))), (0, .ref (G.2.2.1 + 11)), (1, .int (iv dd)), (2, .int (iv s0))]) hx hb dX9_named_248 hl (by decide) rfl (fun ls hl => ?_)
              refine lv_iload hx hb dX9_named_250 (lv_at hl 4 rfl) ?_
              refine lv_iload hx hb dX9_named_252 (lv_at hl 0 rfl) ?_
              refine r_icmp_eq (tgt := 264) hx hb ⟨(by omega), (by omega)⟩ ⟨(by omega), (by omega)⟩ dX9_named_254 (by decide) (fun c_11 => ?_) (fun c_11 => ?_)
              · refine lv_iload hx hb dX9_named_264 (lv_at hl 2 rfl) ?_
                refine r_if_ne (tgt := 276) hx hb ⟨(by omega), (by omega)⟩ dX9_named_266 (by decide) (fun c_12 => ?_) (fun c_12 => ?_)
                · refine lv_aload_n hx hb dX9_named_276 rfl (lv_at hl 6 rfl) ?_
                  refine lv_aload_n hx hb dX9_named_277 rfl (lv_at hl 6 rfl) ?_
                  refine g_X9_37 Cx hW (k := 11) (by decide) rfl (v := .ref (G.2.2.1 + 83)) (rf_11_6 hI76) dX9_named_278 ?_
                  refine lv_iload_n hx hb dX9_named_281 rfl (lv_at hl 7 rfl) ?_
                  obtain ⟨o_13, mo_13, eo_13⟩ := r2_83 hI76 (i := dd) (by omega) (by omega)
                  refine rAald Cx hW (k := 83) (by decide) rfl (by decide) (by omega) (by omega) eo_13 dX9_named_282 ?_
                  refine lv_iload_n hx hb dX9_named_283 rfl (lv_at hl 8 rfl) ?_
                  refine lv_aload_n hx hb dX9_named_284 rfl (lv_at hl 6 rfl) ?_
                  refine lv_iload_n hx hb dX9_named_285 rfl (lv_at hl 8 rfl) ?_
                  refine lv_iconst (v := iv 5) hx hb dX9_named_286 (by decide) ?_
                  refine sBi (sV (As := [.int (iv s0), .int (iv 5)]) (rest := [.int (iv s0), .ref (G.2.2.1 + o_13), .ref (G.2.2.1 + 11)]) (k := 11) Cx (s_X9_fact l G S76 (s0 := s0) (q := 5) hI76 (by omega) (by omega)) (c_X9_120 Cx rfl rfl (rmk_ok (by omega) (by decide))) hW (by decide) rfl rfl rfl hl.1 rfl (Nat.le_of_ble_eq_true rfl) dX9_named_287 ⟨Nat.le_of_ble_eq_true rfl, Nat.le_of_ble_eq_true rfl⟩) hL (fun r_16 u_14 H locs k_15 hW hL => ?_)
                  obtain ⟨eu_14, xu_14⟩ := k_15
                  rw [eu_14] at hW
                  have yu_14 := xu_14.2
                  unfold fr8 at yu_14
                  refine lv_iload hx hb dX9_named_290 (lv_at hl 3 rfl) ?_
                  refine r_iadd hx hb dX9_named_292 ?_
                  obtain ⟨z_17, ez_17, hz_17, kz_17⟩ := iv_of (iv (r_16 + of))
                  rw [ez_17]
                  refine sBv (sV (As := [.ref (G.2.2.1 + o_13), .int (iv s0), .int (iv z_17)]) (rest := []) (k := 11) Cx (s_X9_putNamed l G S76 (qa := o_13) (s0 := s0) (v := z_17) hI76 mo_13 (by omega) (by omega)) (c_X9_245 Cx rfl rfl (rmk_ok (by omega) (by decide))) hW (by decide) rfl rfl rfl hl.1 rfl (Nat.le_of_ble_eq_true rfl) dX9_named_293 ⟨Nat.le_of_ble_eq_true rfl, Nat.le_of_ble_eq_true rfl⟩) hL (fun u_18 H locs k_19 hW hL => ?_)
                  obtain ⟨iu_18, fu_18⟩ := k_19
                  have F_20 := hFm76.trans (fu_18.to (p1_sub (lr_V mo_13)))
                  have F_21 := hL76_.trans (fu_18.to (p1_sub (lr_V mo_13)))
                  have tk_22 := TK.fr hTK76 fu_18 (p1_no (tau_ne (rfl : tau 11 = .inl 9) mo_13.1 (fun h => by cases h))) (p1_no (tau_ne (rfl : tau 17 = .inr (.int, 768)) mo_13.1 (fun h => by cases h)))
                  refine lv_iconst (v := iv 1) hx hb dX9_named_296 (by decide) ?_
                  exact sZret Cx hr hlk hW hL (by omega) ⟨iu_18, F_20, ⟨(by omega), fun _ => tk_22⟩⟩ dX9_named_297
                · refine lv_aload_n hx hb dX9_named_269 rfl (lv_at hl 6 rfl) ?_
                  refine lv_iconst (v := iv 5) hx hb dX9_named_270 (by decide) ?_
                  refine lv_iload_n hx hb dX9_named_271 rfl (lv_at hl 5 rfl) ?_
                  have q_23 : 0 ≤ S76.1 11 9 ∧ S76.1 11 9 ≤ 128 := hI76.fi 11 9 9 (by decide) rfl
                  refine sBi (sV (As := [.int (iv 5), .int (iv (S.1 11 13))]) (rest := []) (k := 11) Cx (s_X9_fail l G S76 (k := 5) (tk := S.1 11 13) hI76 (by omega) (by omega)) (c_X9_132 Cx rfl rfl (rmk_ok (by omega) (by decide))) hW (by decide) rfl rfl rfl hl.1 rfl (Nat.le_of_ble_eq_true rfl) dX9_named_272 ⟨Nat.le_of_ble_eq_true rfl, Nat.le_of_ble_eq_true rfl⟩) hL (fun r_26 u_24 H locs k_25 hW hL => ?_)
                  obtain ⟨iu_24, fu_24, xu_24⟩ := k_25
                  have F_27 := hFm76.trans (fu_24.to (fun k h => pU_V k ((fun k h => pT_U k (p11_T k h)) k h)))
                  have F_28 := hL76_.trans (fu_24.to (fun k h => pU_V k ((fun k h => pT_U k (p11_T k h)) k h)))
                  have tk_29 := TK.of hTK76 (u := u_24) (by omega) (fun j => (fu_24 17 rfl).2.1 j)
                  exact sZret Cx hr hlk hW hL (by omega) ⟨iu_24, F_27, ⟨(by omega), fun q => absurd q (by omega)⟩⟩ dX9_named_275
              · refine lv_aload_n hx hb dX9_named_257 rfl (lv_at hl 6 rfl) ?_
                refine lv_iconst (v := iv 2) hx hb dX9_named_258 (by decide) ?_
                refine lv_iload_n hx hb dX9_named_259 rfl (lv_at hl 5 rfl) ?_
                have q_30 : 0 ≤ S76.1 11 9 ∧ S76.1 11 9 ≤ 128 := hI76.fi 11 9 9 (by decide) rfl
                refine sBi (sV (As := [.int (iv 2), .int (iv (S.1 11 13))]) (rest := []) (k := 11) Cx (s_X9_fail l G S76 (k := 2) (tk := S.1 11 13) hI76 (by omega) (by omega)) (c_X9_132 Cx rfl rfl (rmk_ok (by omega) (by decide))) hW (by decide) rfl rfl rfl hl.1 rfl (Nat.le_of_ble_eq_true rfl) dX9_named_260 ⟨Nat.le_of_ble_eq_true rfl, Nat.le_of_ble_eq_true rfl⟩) hL (fun r_33 u_31 H locs k_32 hW hL => ?_)
                obtain ⟨iu_31, fu_31, xu_31⟩ := k_32
                have F_34 := hFm76.trans (fu_31.to (fun k h => pU_V k ((fun k h => pT_U k (p11_T k h)) k h)))
                have F_35 := hL76_.trans (fu_31.to (fun k h => pU_V k ((fun k h => pT_U k (p11_T k h)) k h)))
                have tk_36 := TK.of hTK76 (u := u_31) (by omega) (fun j => (fu_31 17 rfl).2.1 j)
                exact sZret Cx hr hlk hW hL (by omega) ⟨iu_31, F_34, ⟨(by omega), fun q => absurd q (by omega)⟩⟩ dX9_named_263
            refine lv_aload_n hx hb dX9_named_221 rfl (lv_at hl 6 rfl) ?_
            refine lv_iload_n hx hb dX9_named_222 rfl (lv_at hl 8 rfl) ?_
            refine lv_iconst (v := iv 3) hx hb dX9_named_223 (by decide) ?_
            refine sBi (sV (As := [.int (iv s0), .int (iv 3)]) (rest := []) (k := 11) Cx (s_X9_fact l G S76 (s0 := s0) (q := 3) hI76 (by omega) (by omega)) (c_X9_120 Cx rfl rfl (rmk_ok (by omega) (by decide))) hW (by decide) rfl rfl rfl hl.1 rfl (Nat.le_of_ble_eq_true rfl) dX9_named_224 ⟨Nat.le_of_ble_eq_true rfl, Nat.le_of_ble_eq_true rfl⟩) hL (fun r_39 u_37 H locs k_38 hW hL => ?_)
            obtain ⟨eu_37, xu_37⟩ := k_38
            rw [eu_37] at hW
            have yu_37 := xu_37.2
            unfold fr8 at yu_37
            refine r_if_ge (tgt := 234) hx hb ⟨(by omega), (by omega)⟩ dX9_named_227 (by decide) (fun c_40 => ?_) (fun c_40 => ?_)
            · refine lv_aload_n hx hb dX9_named_234 rfl (lv_at hl 6 rfl) ?_
              refine lv_iload_n hx hb dX9_named_235 rfl (lv_at hl 8 rfl) ?_
              refine lv_iconst (v := iv 4) hx hb dX9_named_236 (by decide) ?_
              refine sBi (sV (As := [.int (iv s0), .int (iv 4)]) (rest := []) (k := 11) Cx (s_X9_fact l G S76 (s0 := s0) (q := 4) hI76 (by omega) (by omega)) (c_X9_120 Cx rfl rfl (rmk_ok (by omega) (by decide))) hW (by decide) rfl rfl rfl hl.1 rfl (Nat.le_of_ble_eq_true rfl) dX9_named_237 ⟨Nat.le_of_ble_eq_true rfl, Nat.le_of_ble_eq_true rfl⟩) hL (fun r_43 u_41 H locs k_42 hW hL => ?_)
              obtain ⟨eu_41, xu_41⟩ := k_42
              rw [eu_41] at hW
              have yu_41 := xu_41.2
              unfold fr8 at yu_41
              refine r_if_ge (tgt := 247) hx hb ⟨(by omega), (by omega)⟩ dX9_named_240 (by decide) (fun c_44 => ?_) (fun c_44 => ?_)
              · refine lv_iconst (v := iv 2) hx hb dX9_named_247 (by decide) ?_
                exact join_248 2 _ _ _ (by omega) hW hL (lv_sub hl [0, 1, 2, 3, 4, 5, 6, 7, 8] rfl)
              · refine lv_iconst (v := iv 1) hx hb dX9_named_243 (by decide) ?_
                refine lv_goto (tgt := 248) hx hb dX9_named_244 (by decide) ?_
                exact join_248 1 _ _ _ (by omega) hW hL (lv_sub hl [0, 1, 2, 3, 4, 5, 6, 7, 8] rfl)
            · refine lv_iconst (v := iv 0) hx hb dX9_named_230 (by decide) ?_
              refine lv_goto (tgt := 248) hx hb dX9_named_231 (by decide) ?_
              exact join_248 0 _ _ _ (by omega) hW hL (lv_sub hl [0, 1, 2, 3, 4, 5, 6, 7, 8] rfl)
          · refine lv_iload hx hb dX9_named_82 (lv_at hl 1 rfl) ?_
            refine r_if_eq (tgt := 221) hx hb ⟨(by omega), (by omega)⟩ dX9_named_84 (by decide) (fun c_45 => ?_) (fun c_45 => ?_)
            · have join_248 : ∀ (wa : Int) (H : Heap) (locs : List Loc) (ls : Array Slot), (0 ≤ wa ∧ wa ≤ 2) → sW G 294 S76 H → sL G locs → lv_has ls 11 [(8, .int (iv wh)), (7, .int (iv mo0)), (6, .int (iv ir0)), (5, .int (iv of)), (4, .int (iv gv)), (3, .int (iv (S.1 11 13))), (0, .ref (G.2.2.1 + 11)), (1, .int (iv dd)), (2, .int (iv s0))] → W p l e (rmk 3 0 0) s m args below meth c H locs 0 0 (MQ below (sQi G 294 (fun r u => cX G u 0 0 0 ∧ Fr S u pV ∧ ((0 ≤ r ∧ r ≤ 1) ∧ Hd (r = 1 → TK S u)))) args s 0 0 (sF G)) (F0 m 248 ls [.int (iv wa)]) := by
                intro wa H locs ls hwa hW hL hl
                refine lv_istore (lv' := [(8, .int (iv wa)), (7, .int (iv mo0)), (6, .int (iv ir0)), (5, .int (iv of)), (4, .int (iv gv)), (3, .int (iv (S.1 11 13))), (0, .ref (G.2.2.1 + 11)), (1, .int (iv dd)), (2, .int (iv s0))]) hx hb dX9_named_248 hl (by decide) rfl (fun ls hl => ?_)
                refine lv_iload hx hb dX9_named_250 (lv_at hl 4 rfl) ?_
                refine lv_iload hx hb dX9_named_252 (lv_at hl 0 rfl) ?_
                refine r_icmp_eq (tgt := 264) hx hb ⟨(by omega), (by omega)⟩ ⟨(by omega), (by omega)⟩ dX9_named_254 (by decide) (fun c_46 => ?_) (fun c_46 => ?_)
                · refine lv_iload hx hb dX9_named_264 (lv_at hl 2 rfl) ?_
                  refine r_if_ne (tgt := 276) hx hb ⟨(by omega), (by omega)⟩ dX9_named_266 (by decide) (fun c_47 => ?_) (fun c_47 => ?_)
                  · refine lv_aload_n hx hb dX9_named_276 rfl (lv_at hl 6 rfl) ?_
                    refine lv_aload_n hx hb dX9_named_277 rfl (lv_at hl 6 rfl) ?_
                    refine g_X9_37 Cx hW (k := 11) (by decide) rfl (v := .ref (G.2.2.1 + 83)) (rf_11_6 hI76) dX9_named_278 ?_
                    refine lv_iload_n hx hb dX9_named_281 rfl (lv_at hl 7 rfl) ?_
                    obtain ⟨o_48, mo_48, eo_48⟩ := r2_83 hI76 (i := dd) (by omega) (by omega)
                    refine rAald Cx hW (k := 83) (by decide) rfl (by decide) (by omega) (by omega) eo_48 dX9_named_282 ?_
                    refine lv_iload_n hx hb dX9_named_283 rfl (lv_at hl 8 rfl) ?_
                    refine lv_aload_n hx hb dX9_named_284 rfl (lv_at hl 6 rfl) ?_
                    refine lv_iload_n hx hb dX9_named_285 rfl (lv_at hl 8 rfl) ?_
                    refine lv_iconst (v := iv 5) hx hb dX9_named_286 (by decide) ?_
                    refine sBi (sV (As := [.int (iv s0), .int (iv 5)]) (rest := [.int (iv s0), .ref (G.2.2.1 + o_48), .ref (G.2.2.1 + 11)]) (k := 11) Cx (s_X9_fact l G S76 (s0 := s0) (q := 5) hI76 (by omega) (by omega)) (c_X9_120 Cx rfl rfl (rmk_ok (by omega) (by decide))) hW (by decide) rfl rfl rfl hl.1 rfl (Nat.le_of_ble_eq_true rfl) dX9_named_287 ⟨Nat.le_of_ble_eq_true rfl, Nat.le_of_ble_eq_true rfl⟩) hL (fun r_51 u_49 H locs k_50 hW hL => ?_)
                    obtain ⟨eu_49, xu_49⟩ := k_50
                    rw [eu_49] at hW
                    have yu_49 := xu_49.2
                    unfold fr8 at yu_49
                    refine lv_iload hx hb dX9_named_290 (lv_at hl 3 rfl) ?_
                    refine r_iadd hx hb dX9_named_292 ?_
                    obtain ⟨z_52, ez_52, hz_52, kz_52⟩ := iv_of (iv (r_51 + of))
                    rw [ez_52]
                    refine sBv (sV (As := [.ref (G.2.2.1 + o_48), .int (iv s0), .int (iv z_52)]) (rest := []) (k := 11) Cx (s_X9_putNamed l G S76 (qa := o_48) (s0 := s0) (v := z_52) hI76 mo_48 (by omega) (by omega)) (c_X9_245 Cx rfl rfl (rmk_ok (by omega) (by decide))) hW (by decide) rfl rfl rfl hl.1 rfl (Nat.le_of_ble_eq_true rfl) dX9_named_293 ⟨Nat.le_of_ble_eq_true rfl, Nat.le_of_ble_eq_true rfl⟩) hL (fun u_53 H locs k_54 hW hL => ?_)
                    obtain ⟨iu_53, fu_53⟩ := k_54
                    have F_55 := hFm76.trans (fu_53.to (p1_sub (lr_V mo_48)))
                    have F_56 := hL76_.trans (fu_53.to (p1_sub (lr_V mo_48)))
                    have tk_57 := TK.fr hTK76 fu_53 (p1_no (tau_ne (rfl : tau 11 = .inl 9) mo_48.1 (fun h => by cases h))) (p1_no (tau_ne (rfl : tau 17 = .inr (.int, 768)) mo_48.1 (fun h => by cases h)))
                    refine lv_iconst (v := iv 1) hx hb dX9_named_296 (by decide) ?_
                    exact sZret Cx hr hlk hW hL (by omega) ⟨iu_53, F_55, ⟨(by omega), fun _ => tk_57⟩⟩ dX9_named_297
                  · refine lv_aload_n hx hb dX9_named_269 rfl (lv_at hl 6 rfl) ?_
                    refine lv_iconst (v := iv 5) hx hb dX9_named_270 (by decide) ?_
                    refine lv_iload_n hx hb dX9_named_271 rfl (lv_at hl 5 rfl) ?_
                    have q_58 : 0 ≤ S76.1 11 9 ∧ S76.1 11 9 ≤ 128 := hI76.fi 11 9 9 (by decide) rfl
                    refine sBi (sV (As := [.int (iv 5), .int (iv (S.1 11 13))]) (rest := []) (k := 11) Cx (s_X9_fail l G S76 (k := 5) (tk := S.1 11 13) hI76 (by omega) (by omega)) (c_X9_132 Cx rfl rfl (rmk_ok (by omega) (by decide))) hW (by decide) rfl rfl rfl hl.1 rfl (Nat.le_of_ble_eq_true rfl) dX9_named_272 ⟨Nat.le_of_ble_eq_true rfl, Nat.le_of_ble_eq_true rfl⟩) hL (fun r_61 u_59 H locs k_60 hW hL => ?_)
                    obtain ⟨iu_59, fu_59, xu_59⟩ := k_60
                    have F_62 := hFm76.trans (fu_59.to (fun k h => pU_V k ((fun k h => pT_U k (p11_T k h)) k h)))
                    have F_63 := hL76_.trans (fu_59.to (fun k h => pU_V k ((fun k h => pT_U k (p11_T k h)) k h)))
                    have tk_64 := TK.of hTK76 (u := u_59) (by omega) (fun j => (fu_59 17 rfl).2.1 j)
                    exact sZret Cx hr hlk hW hL (by omega) ⟨iu_59, F_62, ⟨(by omega), fun q => absurd q (by omega)⟩⟩ dX9_named_275
                · refine lv_aload_n hx hb dX9_named_257 rfl (lv_at hl 6 rfl) ?_
                  refine lv_iconst (v := iv 2) hx hb dX9_named_258 (by decide) ?_
                  refine lv_iload_n hx hb dX9_named_259 rfl (lv_at hl 5 rfl) ?_
                  have q_65 : 0 ≤ S76.1 11 9 ∧ S76.1 11 9 ≤ 128 := hI76.fi 11 9 9 (by decide) rfl
                  refine sBi (sV (As := [.int (iv 2), .int (iv (S.1 11 13))]) (rest := []) (k := 11) Cx (s_X9_fail l G S76 (k := 2) (tk := S.1 11 13) hI76 (by omega) (by omega)) (c_X9_132 Cx rfl rfl (rmk_ok (by omega) (by decide))) hW (by decide) rfl rfl rfl hl.1 rfl (Nat.le_of_ble_eq_true rfl) dX9_named_260 ⟨Nat.le_of_ble_eq_true rfl, Nat.le_of_ble_eq_true rfl⟩) hL (fun r_68 u_66 H locs k_67 hW hL => ?_)
                  obtain ⟨iu_66, fu_66, xu_66⟩ := k_67
                  have F_69 := hFm76.trans (fu_66.to (fun k h => pU_V k ((fun k h => pT_U k (p11_T k h)) k h)))
                  have F_70 := hL76_.trans (fu_66.to (fun k h => pU_V k ((fun k h => pT_U k (p11_T k h)) k h)))
                  have tk_71 := TK.of hTK76 (u := u_66) (by omega) (fun j => (fu_66 17 rfl).2.1 j)
                  exact sZret Cx hr hlk hW hL (by omega) ⟨iu_66, F_69, ⟨(by omega), fun q => absurd q (by omega)⟩⟩ dX9_named_263
              refine lv_aload_n hx hb dX9_named_221 rfl (lv_at hl 6 rfl) ?_
              refine lv_iload_n hx hb dX9_named_222 rfl (lv_at hl 8 rfl) ?_
              refine lv_iconst (v := iv 3) hx hb dX9_named_223 (by decide) ?_
              refine sBi (sV (As := [.int (iv s0), .int (iv 3)]) (rest := []) (k := 11) Cx (s_X9_fact l G S76 (s0 := s0) (q := 3) hI76 (by omega) (by omega)) (c_X9_120 Cx rfl rfl (rmk_ok (by omega) (by decide))) hW (by decide) rfl rfl rfl hl.1 rfl (Nat.le_of_ble_eq_true rfl) dX9_named_224 ⟨Nat.le_of_ble_eq_true rfl, Nat.le_of_ble_eq_true rfl⟩) hL (fun r_74 u_72 H locs k_73 hW hL => ?_)
              obtain ⟨eu_72, xu_72⟩ := k_73
              rw [eu_72] at hW
              have yu_72 := xu_72.2
              unfold fr8 at yu_72
              refine r_if_ge (tgt := 234) hx hb ⟨(by omega), (by omega)⟩ dX9_named_227 (by decide) (fun c_75 => ?_) (fun c_75 => ?_)
              · refine lv_aload_n hx hb dX9_named_234 rfl (lv_at hl 6 rfl) ?_
                refine lv_iload_n hx hb dX9_named_235 rfl (lv_at hl 8 rfl) ?_
                refine lv_iconst (v := iv 4) hx hb dX9_named_236 (by decide) ?_
                refine sBi (sV (As := [.int (iv s0), .int (iv 4)]) (rest := []) (k := 11) Cx (s_X9_fact l G S76 (s0 := s0) (q := 4) hI76 (by omega) (by omega)) (c_X9_120 Cx rfl rfl (rmk_ok (by omega) (by decide))) hW (by decide) rfl rfl rfl hl.1 rfl (Nat.le_of_ble_eq_true rfl) dX9_named_237 ⟨Nat.le_of_ble_eq_true rfl, Nat.le_of_ble_eq_true rfl⟩) hL (fun r_78 u_76 H locs k_77 hW hL => ?_)
                obtain ⟨eu_76, xu_76⟩ := k_77
                rw [eu_76] at hW
                have yu_76 := xu_76.2
                unfold fr8 at yu_76
                refine r_if_ge (tgt := 247) hx hb ⟨(by omega), (by omega)⟩ dX9_named_240 (by decide) (fun c_79 => ?_) (fun c_79 => ?_)
                · refine lv_iconst (v := iv 2) hx hb dX9_named_247 (by decide) ?_
                  exact join_248 2 _ _ _ (by omega) hW hL (lv_sub hl [0, 1, 2, 3, 4, 5, 6, 7, 8] rfl)
                · refine lv_iconst (v := iv 1) hx hb dX9_named_243 (by decide) ?_
                  refine lv_goto (tgt := 248) hx hb dX9_named_244 (by decide) ?_
                  exact join_248 1 _ _ _ (by omega) hW hL (lv_sub hl [0, 1, 2, 3, 4, 5, 6, 7, 8] rfl)
              · refine lv_iconst (v := iv 0) hx hb dX9_named_230 (by decide) ?_
                refine lv_goto (tgt := 248) hx hb dX9_named_231 (by decide) ?_
                exact join_248 0 _ _ _ (by omega) hW hL (lv_sub hl [0, 1, 2, 3, 4, 5, 6, 7, 8] rfl)
            · refine lv_aload_n hx hb dX9_named_87 rfl (lv_at hl 6 rfl) ?_
              have q_80 : 0 ≤ S76.1 11 9 ∧ S76.1 11 9 ≤ 128 := hI76.fi 11 9 9 (by decide) rfl
              refine sBi (sV (As := []) (rest := []) (k := 11) Cx (s_X9_item l G S76  hI76) (c_X9_242 Cx rfl rfl (rmk_ok (by omega) (by decide))) hW (by decide) rfl rfl rfl hl.1 rfl (Nat.le_of_ble_eq_true rfl) dX9_named_88 ⟨Nat.le_of_ble_eq_true rfl, Nat.le_of_ble_eq_true rfl⟩) hL (fun r_83 u_81 H locs k_82 hW hL => ?_)
              obtain ⟨iu_81, fu_81, xu_81⟩ := k_82
              have F_84 := hFm76.trans (fu_81.to (fun k h => pU_V k ((fun k h => pT_U k (p11_T k h)) k h)))
              have F_85 := hL76_.trans (fu_81.to (fun k h => pU_V k ((fun k h => pT_U k (p11_T k h)) k h)))
              have tk_86 := TK.of hTK76 (u := u_81) (by omega) (fun j => (fu_81 17 rfl).2.1 j)
              refine lv_istore (lv' := [(9, .int (iv r_83)), (8, .int (iv wh)), (7, .int (iv mo0)), (6, .int (iv ir0)), (5, .int (iv of)), (4, .int (iv gv)), (3, .int (iv (S.1 11 13))), (0, .ref (G.2.2.1 + 11)), (1, .int (iv dd)), (2, .int (iv s0))]) hx hb dX9_named_91 hl (by decide) rfl (fun ls hl => ?_)
              refine lv_aload_n hx hb dX9_named_93 rfl (lv_at hl 7 rfl) ?_
              have q_87 : 0 ≤ u_81.1 11 14 ∧ u_81.1 11 14 ≤ 7 := iu_81.fi 11 14 9 (by decide) rfl
              refine g_X9_54 Cx hW (k := 11) (by decide) rfl (v := u_81.1 11 14) rfl dX9_named_94 ?_
              refine r_if_eq (tgt := 102) hx hb ⟨(by omega), (by omega)⟩ dX9_named_97 (by decide) (fun c_88 => ?_) (fun c_88 => ?_)
              · refine lv_iinc (v := iv (gv + 1)) (lv' := [(4, .int (iv (gv + 1))), (9, .int (iv r_83)), (8, .int (iv wh)), (7, .int (iv mo0)), (6, .int (iv ir0)), (5, .int (iv of)), (3, .int (iv (S.1 11 13))), (0, .ref (G.2.2.1 + 11)), (1, .int (iv dd)), (2, .int (iv s0))]) hx hb dX9_named_102 hl (k := 5) rfl ((Int32.ofInt_add _ _).symm) (by decide) rfl (fun ls hl => ?_)
                refine lv_aload_n hx hb dX9_named_105 rfl (lv_at hl 7 rfl) ?_
                refine lv_iload_n hx hb dX9_named_106 rfl (lv_at hl 9 rfl) ?_
                refine lv_iload hx hb dX9_named_107 (lv_at hl 2 rfl) ?_
                refine sBi (sV (As := [.int (iv s0), .int (iv wh)]) (rest := []) (k := 11) Cx (s_X9_fact l G u_81 (s0 := s0) (q := wh) iu_81 (by omega) (by omega)) (c_X9_120 Cx rfl rfl (rmk_ok (by omega) (by decide))) hW (by decide) rfl rfl rfl hl.1 rfl (Nat.le_of_ble_eq_true rfl) dX9_named_109 ⟨Nat.le_of_ble_eq_true rfl, Nat.le_of_ble_eq_true rfl⟩) hL (fun r_91 u_89 H locs k_90 hW hL => ?_)
                obtain ⟨eu_89, xu_89⟩ := k_90
                rw [eu_89] at hW
                have yu_89 := xu_89.2
                unfold fr8 at yu_89
                refine lv_istore (lv' := [(10, .int (iv r_91)), (4, .int (iv (gv + 1))), (9, .int (iv r_83)), (8, .int (iv wh)), (7, .int (iv mo0)), (6, .int (iv ir0)), (5, .int (iv of)), (3, .int (iv (S.1 11 13))), (0, .ref (G.2.2.1 + 11)), (1, .int (iv dd)), (2, .int (iv s0))]) hx hb dX9_named_112 hl (by decide) rfl (fun ls hl => ?_)
                have join_177 : ∀ (ir3 : Int) (of3 : Int) (H : Heap) (locs : List Loc) (ls : Array Slot), (-2147483648 ≤ of3 ∧ of3 ≤ 2147483647) → (0 ≤ ir3 ∧ ir3 ≤ 1) → sW G 294 u_81 H → sL G locs → lv_has ls 11 [(10, .int (iv r_91)), (4, .int (iv (gv + 1))), (9, .int (iv r_83)), (8, .int (iv wh)), (7, .int (iv mo0)), (6, .int (iv ir3)), (5, .int (iv of3)), (3, .int (iv (S.1 11 13))), (0, .ref (G.2.2.1 + 11)), (1, .int (iv dd)), (2, .int (iv s0))] → W p l e (rmk 3 0 0) s m args below meth c H locs 0 0 (MQ below (sQi G 294 (fun r u => cX G u 0 0 0 ∧ Fr S u pV ∧ ((0 ≤ r ∧ r ≤ 1) ∧ Hd (r = 1 → TK S u)))) args s 0 0 (sF G)) (F0 m 177 ls []) := by
                  intro ir3 of3 H locs ls hof3 hir3 hW hL hl
                  have join_198 : ∀ (mo2 : Int) (H : Heap) (locs : List Loc) (ls : Array Slot), (0 ≤ mo2 ∧ mo2 ≤ 1) → sW G 294 u_81 H → sL G locs → lv_has ls 11 [(10, .int (iv r_91)), (4, .int (iv (gv + 1))), (9, .int (iv r_83)), (8, .int (iv wh)), (7, .int (iv mo0)), (6, .int (iv ir3)), (5, .int (iv of3)), (3, .int (iv (S.1 11 13))), (0, .ref (G.2.2.1 + 11)), (1, .int (iv dd)), (2, .int (iv s0))] → W p l e (rmk 3 0 0) s m args below meth c H locs 0 0 (MQ below (sQi G 294 (fun r u => cX G u 0 0 0 ∧ Fr S u pV ∧ ((0 ≤ r ∧ r ≤ 1) ∧ Hd (r = 1 → TK S u)))) args s 0 0 (sF G)) (F0 m 198 ls [.int (iv mo2)]) := by
                    intro mo2 H locs ls hmo2 hW hL hl
                    refine lv_istore (lv' := [(7, .int (iv mo2)), (10, .int (iv r_91)), (4, .int (iv (gv + 1))), (9, .int (iv r_83)), (8, .int (iv wh)), (6, .int (iv ir3)), (5, .int (iv of3)), (3, .int (iv (S.1 11 13))), (0, .ref (G.2.2.1 + 11)), (1, .int (iv dd)), (2, .int (iv s0))]) hx hb dX9_named_198 hl (by decide) rfl (fun ls hl => ?_)
                    have join_215 : ∀ (S215 : sS)  (H : Heap) (locs : List Loc) (ls : Array Slot), (cX G S215 0 0 0) → (Fr S S215 pV) → (Fr ((uF S 11 13 z_2)) S215 pV) → (Fr u_81 S215 pV) → (TK S S215) → sW G 294 S215 H → sL G locs → lv_has ls 11 [(7, .int (iv mo2)), (10, .int (iv r_91)), (4, .int (iv (gv + 1))), (9, .int (iv r_83)), (8, .int (iv wh)), (6, .int (iv ir3)), (5, .int (iv of3)), (3, .int (iv (S.1 11 13))), (0, .ref (G.2.2.1 + 11)), (1, .int (iv dd)), (2, .int (iv s0))] → W p l e (rmk 3 0 0) s m args below meth c H locs 0 0 (MQ below (sQi G 294 (fun r u => cX G u 0 0 0 ∧ Fr S u pV ∧ ((0 ≤ r ∧ r ≤ 1) ∧ Hd (r = 1 → TK S u)))) args s 0 0 (sF G)) (F0 m 215 ls []) := by
                      intro S215  H locs ls hI215 hFm215 hFL76215 hL215_ hTK215 hW hL hl
                      refine lv_iinc (v := iv (wh + 1)) (lv' := [(8, .int (iv (wh + 1))), (7, .int (iv mo2)), (10, .int (iv r_91)), (4, .int (iv (gv + 1))), (9, .int (iv r_83)), (6, .int (iv ir3)), (5, .int (iv of3)), (3, .int (iv (S.1 11 13))), (0, .ref (G.2.2.1 + 11)), (1, .int (iv dd)), (2, .int (iv s0))]) hx hb dX9_named_215 hl (k := 4) rfl ((Int32.ofInt_add _ _).symm) (by decide) rfl (fun ls hl => ?_)
                      refine lv_goto (tgt := 76) hx hb dX9_named_218 (by decide) ?_
                      exact ih_76 S215 (wh + 1) mo2 ir3 of3 (gv + 1) _ _ _ (by omega) hI215 hFm215 hFL76215 (by omega) (by omega) (by omega) (by omega) (by omega) hTK215 hW hL (lv_sub hl [0, 1, 5, 6, 3, 7, 8, 9, 10] rfl)
                    refine lv_iload hx hb dX9_named_200 (lv_at hl 0 rfl) ?_
                    refine r_if_ne (tgt := 215) hx hb ⟨(by omega), (by omega)⟩ dX9_named_202 (by decide) (fun c_92 => ?_) (fun c_92 => ?_)
                    · exact join_215 u_81  _ _ _ iu_81 F_84 F_85 (Fr.rf : Fr u_81 u_81 pV) tk_86 hW hL (lv_sub hl [0, 1, 2, 3, 4, 5, 6, 7, 8, 9, 10] rfl)
                    · refine lv_aload_n hx hb dX9_named_205 rfl (lv_at hl 8 rfl) ?_
                      refine lv_dup hx hb dX9_named_206 rfl ?_
                      have q_93 : (-2147483648) ≤ u_81.1 11 13 ∧ u_81.1 11 13 ≤ 2147483647 := iu_81.fi 11 13 9 (by decide) rfl
                      refine g_X9_89 Cx hW (k := 11) (by decide) rfl (v := u_81.1 11 13) rfl dX9_named_207 ?_
                      refine lv_iconst (v := iv 1) hx hb dX9_named_210 (by decide) ?_
                      refine r_iadd hx hb dX9_named_211 ?_
                      obtain ⟨z_94, ez_94, hz_94, kz_94⟩ := iv_of (iv ((u_81.1 11 13) + 1))
                      rw [ez_94]
                      refine p_X9_89 Cx hW hL (k := 11) (by decide) rfl dX9_named_212 (fun H locs hW hL => ?_)
                      have F_95 : Fr S (uF u_81 11 13 z_94) pV := F_84.F rfl
                      have F_96 : Fr ((uF S 11 13 z_2)) (uF u_81 11 13 z_94) pV := F_85.F rfl
                      have F_97 : Fr u_81 (uF u_81 11 13 z_94) pV := (Fr.rf : Fr u_81 u_81 pV).F rfl
                      have i_98 : cX G (uF u_81 11 13 z_94) 0 0 0 := iu_81.F rfl rfl (show (-2147483648) ≤ z_94 ∧ z_94 ≤ 2147483647 from ⟨by omega, by omega⟩)
                      have tk_99 : TK S (uF u_81 11 13 z_94) := tk_86.F (by decide)
                      exact join_215 (uF u_81 11 13 z_94)  _ _ _ i_98 F_95 F_96 F_97 tk_99 hW hL (lv_sub hl [0, 1, 2, 3, 4, 5, 6, 7, 8, 9, 10] rfl)
                  refine lv_aload_n hx hb dX9_named_177 rfl (lv_at hl 8 rfl) ?_
                  refine g_X9_14 Cx hW (k := 11) (by decide) rfl (v := .ref (G.2.2.1 + 12)) (rf_11_0 iu_81) dX9_named_178 ?_
                  refine lv_aload_n hx hb dX9_named_181 rfl (lv_at hl 8 rfl) ?_
                  have q_100 : (-2147483648) ≤ u_81.1 11 13 ∧ u_81.1 11 13 ≤ 2147483647 := iu_81.fi 11 13 9 (by decide) rfl
                  refine g_X9_89 Cx hW (k := 11) (by decide) rfl (v := u_81.1 11 13) rfl dX9_named_182 ?_
                  refine sBi (sV (As := [.int (iv (u_81.1 11 13))]) (rest := []) (k := 12) Cx (s_X8_kind l G u_81 (k := u_81.1 11 13) iu_81 (by omega)) (c_X9_95 Cx rfl rfl (rmk_ok (by omega) (by decide))) hW (by decide) rfl rfl rfl hl.1 rfl (Nat.le_of_ble_eq_true rfl) dX9_named_185 ⟨Nat.le_of_ble_eq_true rfl, Nat.le_of_ble_eq_true rfl⟩) hL (fun r_103 u_101 H locs k_102 hW hL => ?_)
                  obtain ⟨eu_101, xu_101⟩ := k_102
                  rw [eu_101] at hW
                  refine lv_bipush (v := iv 16) hx hb dX9_named_188 (by decide) ?_
                  refine r_icmp_ne (tgt := 197) hx hb ⟨(by omega), (by omega)⟩ ⟨(by omega), (by omega)⟩ dX9_named_190 (by decide) (fun c_104 => ?_) (fun c_104 => ?_)
                  · refine lv_iconst (v := iv 0) hx hb dX9_named_197 (by decide) ?_
                    exact join_198 0 _ _ _ (by omega) hW hL (lv_sub hl [0, 1, 2, 3, 4, 5, 6, 7, 8, 9, 10] rfl)
                  · refine lv_iconst (v := iv 1) hx hb dX9_named_193 (by decide) ?_
                    refine lv_goto (tgt := 198) hx hb dX9_named_194 (by decide) ?_
                    exact join_198 1 _ _ _ (by omega) hW hL (lv_sub hl [0, 1, 2, 3, 4, 5, 6, 7, 8, 9, 10] rfl)
                refine lv_iload hx hb dX9_named_114 (lv_at hl 0 rfl) ?_
                refine r_if_lt (tgt := 177) hx hb ⟨(by omega), (by omega)⟩ dX9_named_116 (by decide) (fun c_105 => ?_) (fun c_105 => ?_)
                · exact join_177 ir0 of _ _ _ (by omega) (by omega) hW hL (lv_sub hl [0, 1, 2, 3, 4, 5, 6, 7, 8, 9, 10] rfl)
                · have join_153 : ∀ (ir : Int) (H : Heap) (locs : List Loc) (ls : Array Slot), (0 ≤ ir ∧ ir ≤ 1) → sW G 294 u_81 H → sL G locs → lv_has ls 11 [(10, .int (iv r_91)), (4, .int (iv (gv + 1))), (9, .int (iv r_83)), (8, .int (iv wh)), (7, .int (iv mo0)), (6, .int (iv ir0)), (5, .int (iv of)), (3, .int (iv (S.1 11 13))), (0, .ref (G.2.2.1 + 11)), (1, .int (iv dd)), (2, .int (iv s0))] → W p l e (rmk 3 0 0) s m args below meth c H locs 0 0 (MQ below (sQi G 294 (fun r u => cX G u 0 0 0 ∧ Fr S u pV ∧ ((0 ≤ r ∧ r ≤ 1) ∧ Hd (r = 1 → TK S u)))) args s 0 0 (sF G)) (F0 m 153 ls [.int (iv ir)]) := by
                    intro ir H locs ls hir hW hL hl
                    refine lv_istore (lv' := [(6, .int (iv ir)), (10, .int (iv r_91)), (4, .int (iv (gv + 1))), (9, .int (iv r_83)), (8, .int (iv wh)), (7, .int (iv mo0)), (5, .int (iv of)), (3, .int (iv (S.1 11 13))), (0, .ref (G.2.2.1 + 11)), (1, .int (iv dd)), (2, .int (iv s0))]) hx hb dX9_named_153 hl (by decide) rfl (fun ls hl => ?_)
                    refine lv_iload hx hb dX9_named_155 (lv_at hl 6 rfl) ?_
                    refine lv_aload_n hx hb dX9_named_157 rfl (lv_at hl 8 rfl) ?_
                    refine lv_iload hx hb dX9_named_158 (lv_at hl 1 rfl) ?_
                    refine sBi (sV (As := [.int (iv r_91)]) (rest := [.int (iv of)]) (k := 11) Cx (s_X9_setSize l G u_81 (s0 := r_91) iu_81 (by omega)) (c_X9_149 Cx rfl rfl (rmk_ok (by omega) (by decide))) hW (by decide) rfl rfl rfl hl.1 rfl (Nat.le_of_ble_eq_true rfl) dX9_named_160 ⟨Nat.le_of_ble_eq_true rfl, Nat.le_of_ble_eq_true rfl⟩) hL (fun r_108 u_106 H locs k_107 hW hL => ?_)
                    obtain ⟨eu_106, xu_106⟩ := k_107
                    rw [eu_106] at hW
                    refine r_imul hx hb dX9_named_163 ?_
                    obtain ⟨z_109, ez_109, hz_109, kz_109⟩ := iv_of (iv (of * r_108))
                    rw [ez_109]
                    refine lv_iload hx hb dX9_named_164 (lv_at hl 3 rfl) ?_
                    refine r_iadd hx hb dX9_named_166 ?_
                    obtain ⟨z_110, ez_110, hz_110, kz_110⟩ := iv_of (iv (z_109 + r_83))
                    rw [ez_110]
                    refine lv_aload_n hx hb dX9_named_167 rfl (lv_at hl 8 rfl) ?_
                    refine lv_iload hx hb dX9_named_168 (lv_at hl 1 rfl) ?_
                    refine lv_iconst (v := iv 1) hx hb dX9_named_170 (by decide) ?_
                    refine sBi (sV (As := [.int (iv r_91), .int (iv 1)]) (rest := [.int (iv z_110)]) (k := 11) Cx (s_X9_fact l G u_81 (s0 := r_91) (q := 1) iu_81 (by omega) (by omega)) (c_X9_120 Cx rfl rfl (rmk_ok (by omega) (by decide))) hW (by decide) rfl rfl rfl hl.1 rfl (Nat.le_of_ble_eq_true rfl) dX9_named_171 ⟨Nat.le_of_ble_eq_true rfl, Nat.le_of_ble_eq_true rfl⟩) hL (fun r_113 u_111 H locs k_112 hW hL => ?_)
                    obtain ⟨eu_111, xu_111⟩ := k_112
                    rw [eu_111] at hW
                    have yu_111 := xu_111.2
                    unfold fr8 at yu_111
                    refine r_isub hx hb dX9_named_174 ?_
                    obtain ⟨z_114, ez_114, hz_114, kz_114⟩ := iv_of (iv (z_110 - r_113))
                    rw [ez_114]
                    refine lv_istore (lv' := [(5, .int (iv z_114)), (6, .int (iv ir)), (10, .int (iv r_91)), (4, .int (iv (gv + 1))), (9, .int (iv r_83)), (8, .int (iv wh)), (7, .int (iv mo0)), (3, .int (iv (S.1 11 13))), (0, .ref (G.2.2.1 + 11)), (1, .int (iv dd)), (2, .int (iv s0))]) hx hb dX9_named_175 hl (by decide) rfl (fun ls hl => ?_)
                    exact join_177 ir z_114 _ _ _ (by omega) (by omega) hW hL (lv_sub hl [2, 3, 4, 5, 6, 1, 0, 7, 8, 9, 10] rfl)
                  refine lv_iload hx hb dX9_named_119 (lv_at hl 5 rfl) ?_
                  refine r_if_eq (tgt := 152) hx hb ⟨(by omega), (by omega)⟩ dX9_named_121 (by decide) (fun c_115 => ?_) (fun c_115 => ?_)
                  · refine lv_iconst (v := iv 0) hx hb dX9_named_152 (by decide) ?_
                    exact join_153 0 _ _ _ (by omega) hW hL (lv_sub hl [0, 1, 2, 3, 4, 5, 6, 7, 8, 9, 10] rfl)
                  · refine lv_iload hx hb dX9_named_124 (lv_at hl 2 rfl) ?_
                    refine lv_aload_n hx hb dX9_named_126 rfl (lv_at hl 8 rfl) ?_
                    refine lv_iload hx hb dX9_named_127 (lv_at hl 0 rfl) ?_
                    refine lv_iconst (v := iv 1) hx hb dX9_named_129 (by decide) ?_
                    refine sBi (sV (As := [.int (iv r_91), .int (iv 1)]) (rest := [.int (iv r_83)]) (k := 11) Cx (s_X9_fact l G u_81 (s0 := r_91) (q := 1) iu_81 (by omega) (by omega)) (c_X9_120 Cx rfl rfl (rmk_ok (by omega) (by decide))) hW (by decide) rfl rfl rfl hl.1 rfl (Nat.le_of_ble_eq_true rfl) dX9_named_130 ⟨Nat.le_of_ble_eq_true rfl, Nat.le_of_ble_eq_true rfl⟩) hL (fun r_118 u_116 H locs k_117 hW hL => ?_)
                    obtain ⟨eu_116, xu_116⟩ := k_117
                    rw [eu_116] at hW
                    have yu_116 := xu_116.2
                    unfold fr8 at yu_116
                    refine r_icmp_lt (tgt := 152) hx hb ⟨(by omega), (by omega)⟩ ⟨(by omega), (by omega)⟩ dX9_named_133 (by decide) (fun c_119 => ?_) (fun c_119 => ?_)
                    · refine lv_iconst (v := iv 0) hx hb dX9_named_152 (by decide) ?_
                      exact join_153 0 _ _ _ (by omega) hW hL (lv_sub hl [0, 1, 2, 3, 4, 5, 6, 7, 8, 9, 10] rfl)
                    · refine lv_iload hx hb dX9_named_136 (lv_at hl 2 rfl) ?_
                      refine lv_aload_n hx hb dX9_named_138 rfl (lv_at hl 8 rfl) ?_
                      refine lv_iload hx hb dX9_named_139 (lv_at hl 0 rfl) ?_
                      refine lv_iconst (v := iv 2) hx hb dX9_named_141 (by decide) ?_
                      refine sBi (sV (As := [.int (iv r_91), .int (iv 2)]) (rest := [.int (iv r_83)]) (k := 11) Cx (s_X9_fact l G u_81 (s0 := r_91) (q := 2) iu_81 (by omega) (by omega)) (c_X9_120 Cx rfl rfl (rmk_ok (by omega) (by decide))) hW (by decide) rfl rfl rfl hl.1 rfl (Nat.le_of_ble_eq_true rfl) dX9_named_142 ⟨Nat.le_of_ble_eq_true rfl, Nat.le_of_ble_eq_true rfl⟩) hL (fun r_122 u_120 H locs k_121 hW hL => ?_)
                      obtain ⟨eu_120, xu_120⟩ := k_121
                      rw [eu_120] at hW
                      have yu_120 := xu_120.2
                      unfold fr8 at yu_120
                      refine r_icmp_gt (tgt := 152) hx hb ⟨(by omega), (by omega)⟩ ⟨(by omega), (by omega)⟩ dX9_named_145 (by decide) (fun c_123 => ?_) (fun c_123 => ?_)
                      · refine lv_iconst (v := iv 0) hx hb dX9_named_152 (by decide) ?_
                        exact join_153 0 _ _ _ (by omega) hW hL (lv_sub hl [0, 1, 2, 3, 4, 5, 6, 7, 8, 9, 10] rfl)
                      · refine lv_iconst (v := iv 1) hx hb dX9_named_148 (by decide) ?_
                        refine lv_goto (tgt := 153) hx hb dX9_named_149 (by decide) ?_
                        exact join_153 1 _ _ _ (by omega) hW hL (lv_sub hl [0, 1, 2, 3, 4, 5, 6, 7, 8, 9, 10] rfl)
              · refine lv_iconst (v := iv 0) hx hb dX9_named_100 (by decide) ?_
                exact sZret Cx hr hlk hW hL (by omega) ⟨iu_81, F_84, ⟨(by omega), fun q => absurd q (by omega)⟩⟩ dX9_named_101
      exact loop_76 (_ + 1) (uF S 11 13 z_2) 3 mo 1 0 0 _ _ _ (Nat.lt_succ_self _) i_4 F_3 Fr.rf (by omega) (by omega) (by omega) (by omega) (by omega) tk_5 hW hL (lv_sub hl [0, 1, 2, 3, 4, 5, 6, 7, 8] rfl)
    refine lv_aload_n hx hb dX9_named_50 rfl (lv_at hl 4 rfl) ?_
    refine g_X9_14 Cx hW (k := 11) (by decide) rfl (v := .ref (G.2.2.1 + 12)) (rf_11_0 i_4) dX9_named_51 ?_
    refine lv_aload_n hx hb dX9_named_54 rfl (lv_at hl 4 rfl) ?_
    refine g_X9_89 Cx hW (k := 11) (by decide) rfl (v := z_2) uF_on dX9_named_55 ?_
    refine sBi (sV (As := [.int (iv z_2)]) (rest := []) (k := 12) Cx (s_X8_kind l G (uF S 11 13 z_2) (k := z_2) i_4 (by omega)) (c_X9_95 Cx rfl rfl (rmk_ok (by omega) (by decide))) hW (by decide) rfl rfl rfl hl.1 rfl (Nat.le_of_ble_eq_true rfl) dX9_named_58 ⟨Nat.le_of_ble_eq_true rfl, Nat.le_of_ble_eq_true rfl⟩) hL (fun r_126 u_124 H locs k_125 hW hL => ?_)
    obtain ⟨eu_124, xu_124⟩ := k_125
    rw [eu_124] at hW
    refine lv_bipush (v := iv 17) hx hb dX9_named_61 (by decide) ?_
    refine r_icmp_ne (tgt := 70) hx hb ⟨(by omega), (by omega)⟩ ⟨(by omega), (by omega)⟩ dX9_named_63 (by decide) (fun c_127 => ?_) (fun c_127 => ?_)
    · refine lv_iconst (v := iv 0) hx hb dX9_named_70 (by decide) ?_
      exact join_71 0 _ _ _ (by omega) hW hL (lv_sub hl [0, 1, 2, 3, 4, 5, 6] rfl)
    · refine lv_iconst (v := iv 1) hx hb dX9_named_66 (by decide) ?_
      refine lv_goto (tgt := 71) hx hb dX9_named_67 (by decide) ?_
      exact join_71 1 _ _ _ (by omega) hW hL (lv_sub hl [0, 1, 2, 3, 4, 5, 6] rfl)
  · refine lv_aload_n hx hb dX9_named_24 rfl (lv_at hl 1 rfl) ?_
    refine g_X9_37 Cx hW (k := 11) (by decide) rfl (v := .ref (G.2.2.1 + 83)) (rf_11_6 i_4) dX9_named_25 ?_
    refine lv_iload_n hx hb dX9_named_28 rfl (lv_at hl 2 rfl) ?_
    obtain ⟨o_128, mo_128, eo_128⟩ := r2_83 i_4 (i := dd) (by omega) (by omega)
    refine rAald Cx hW (k := 83) (by decide) rfl (by decide) (by omega) (by omega) eo_128 dX9_named_29 ?_
    refine lv_iconst (v := iv 0) hx hb dX9_named_30 (by decide) ?_
    refine lv_aload_n hx hb dX9_named_31 rfl (lv_at hl 1 rfl) ?_
    refine lv_iload_n hx hb dX9_named_32 rfl (lv_at hl 3 rfl) ?_
    refine lv_iconst (v := iv 1) hx hb dX9_named_33 (by decide) ?_
    refine sBi (sV (As := [.int (iv s0), .int (iv 1)]) (rest := [.int (iv 0), .ref (G.2.2.1 + o_128)]) (k := 11) Cx (s_X9_fact l G (uF S 11 13 z_2) (s0 := s0) (q := 1) i_4 (by omega) (by omega)) (c_X9_120 Cx rfl rfl (rmk_ok (by omega) (by decide))) hW (by decide) rfl rfl rfl hl.1 rfl (Nat.le_of_ble_eq_true rfl) dX9_named_34 ⟨Nat.le_of_ble_eq_true rfl, Nat.le_of_ble_eq_true rfl⟩) hL (fun r_131 u_129 H locs k_130 hW hL => ?_)
    obtain ⟨eu_129, xu_129⟩ := k_130
    rw [eu_129] at hW
    have yu_129 := xu_129.2
    unfold fr8 at yu_129
    refine r_i2l hx hb ⟨(by omega), (by omega)⟩ dX9_named_37 ?_
    refine rLast Cx hW hL (k := o_128) (lr_l mo_128) mo_128.1 (by decide) (by omega) (by omega) dX9_named_38 (fun H locs hW hL => ?_)
    have F_132 : Fr S (uL (uF S 11 13 z_2) o_128 0 r_131) pV := F_3.L (lr_V mo_128)
    have i_133 : cX G (uL (uF S 11 13 z_2) o_128 0 r_131) 0 0 0 := i_4.L ⟨by omega, by omega⟩
    have tk_134 : TK S (uL (uF S 11 13 z_2) o_128 0 r_131) := tk_5.of rfl (fun _ => rfl)
    refine lv_iconst (v := iv 1) hx hb dX9_named_39 (by decide) ?_
    exact sZret Cx hr hlk hW hL (by omega) ⟨i_133, F_132, ⟨(by omega), fun _ => tk_134⟩⟩ dX9_named_40
