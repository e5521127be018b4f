/-! The tapes, byte by byte -/
theorem shr_i {a b : Int} {n : Nat} {D : Int} (ha : -2147483648 ≤ a ∧ a ≤ 2147483647) (hs : ((iv b &&& 31).toBitVec.smod 32).toNat = n) (hD : ((2 ^ n : Nat) : Int) = D) : (iv a >>> (iv b &&& 31)).toInt = a / D := by
  have e : (iv a >>> (iv b &&& 31)).toInt = ((iv a).toBitVec.sshiftRight ((iv b &&& 31).toBitVec.smod 32).toNat).toInt := rfl
  rw [e, hs, BitVec.toInt_sshiftRight, Int.shiftRight_eq_div_pow, hD, show (iv a).toBitVec.toInt = a from iv_toInt ha]
theorem ushr_i {a b : Int} {n : Nat} {D : Int} (hs : (((iv b).toUInt32 &&& Int32.toUInt32 31) % 32).toBitVec.toNat = n) (hD : ((2 ^ n : Nat) : Int) = D) (hn : 8 ≤ n) : (((iv a).toUInt32 >>> ((iv b).toUInt32 &&& Int32.toUInt32 31)).toInt32).toInt = (a % 4294967296) / D := by
  have e : (((iv a).toUInt32 >>> ((iv b).toUInt32 &&& Int32.toUInt32 31)).toInt32).toInt = ((iv a).toBitVec >>> (((iv b).toUInt32 &&& Int32.toUInt32 31) % 32).toBitVec.toNat).toInt := rfl
  rw [e, hs]
  have hx : (iv a).toBitVec.toNat = (a % 4294967296).toNat := BitVec.toNat_ofInt (n := 32) a
  have hl : ((iv a).toBitVec >>> n).toNat = (iv a).toBitVec.toNat / 2 ^ n := by rw [BitVec.toNat_ushiftRight, Nat.shiftRight_eq_div_pow]
  have hlt : (iv a).toBitVec.toNat < 4294967296 := (iv a).toBitVec.isLt
  have hp : 256 ≤ 2 ^ n := Nat.pow_le_pow_right (n := 2) (i := 8) (j := n) (by decide) hn
  have hq : (iv a).toBitVec.toNat / 2 ^ n ≤ (iv a).toBitVec.toNat / 256 := Nat.div_le_div_left hp (by decide)
  rw [BitVec.toInt_eq_toNat_of_lt (by rw [hl]; show 2 * ((iv a).toBitVec.toNat / 2 ^ n) < 4294967296; omega), hl, hx, ← hD, Int.natCast_ediv, Int.toNat_of_nonneg (by omega)]
section RSH
variable {p : Program} {l : Launch} {e : Env} {R : Room} {s : State} {m : MethodId} {args : Array Value} {below : List Frame} {meth : Method} {c : Code} {H : Heap} {locs : List Loc} {cells slots : Nat} {Q : State → Prop}
variable {cc : ByteArray} {pc nL : Nat} {ls : Array Slot} {rest : List Value}
theorem r_ishrX (hx : p.tables.exec = Jvm.exec) (hb : c.code = cc) {a b : Int} {n : Nat} {D : Int} (ha : -2147483648 ≤ a ∧ a ≤ 2147483647) (hs : ((iv b &&& 31).toBitVec.smod 32).toNat = n) (hD : ((2 ^ n : Nat) : Int) = D) (hdg : decode cc pc = .ok (.ishr, 1)) (kk : ∀ z : Int, -2147483648 ≤ z → z ≤ 2147483647 → z = a / D → W p l e R s m args below meth c H locs cells slots Q (F0 m (pc + 1) ls (.int (iv z) :: rest))) : W p l e R s m args below meth c H locs cells slots Q (F0 m pc ls (.int (iv b) :: .int (iv a) :: rest)) := by
  refine lv_ishr hx hb hdg ?_
  obtain ⟨z, e1, h1, h2⟩ := iv_of (iv a >>> (iv b &&& 31))
  have e2 := shr_i (a := a) (b := b) ha hs hD
  rw [e1] at e2 ⊢
  exact kk z h1 h2 ((iv_toInt ⟨h1, h2⟩).symm.trans e2)
theorem r_iushrX (hx : p.tables.exec = Jvm.exec) (hb : c.code = cc) {a b : Int} {n : Nat} {D : Int} (ha : -2147483648 ≤ a ∧ a ≤ 2147483647) (hs : (((iv b).toUInt32 &&& Int32.toUInt32 31) % 32).toBitVec.toNat = n) (hD : ((2 ^ n : Nat) : Int) = D) (hn : 8 ≤ n) (hdg : decode cc pc = .ok (.iushr, 1)) (kk : ∀ z : Int, -2147483648 ≤ z → z ≤ 2147483647 → z = (a % 4294967296) / D → W p l e R s m args below meth c H locs cells slots Q (F0 m (pc + 1) ls (.int (iv z) :: rest))) : W p l e R s m args below meth c H locs cells slots Q (F0 m pc ls (.int (iv b) :: .int (iv a) :: rest)) := by
  obtain ⟨z, e1, h1, h2⟩ := iv_of (((iv a).toUInt32 >>> ((iv b).toUInt32 &&& Int32.toUInt32 31)).toInt32)
  have e2 := ushr_i (a := a) (b := b) hs hD hn
  rw [e1] at e2
  exact lv_iushr hx hb hdg e1 (kk z h1 h2 ((iv_toInt ⟨h1, h2⟩).symm.trans e2))
end RSH
def bys (w D : Int) : Int := (w / D + 128) % 256 - 128
def LYb (f g : Int → Int) (n w : Int) : Prop := (∀ j, j < n → g j = f j) ∧ g n = bys w 16777216 ∧ g (n + 1) = bys w 65536 ∧ g (n + 2) = bys w 256 ∧ g (n + 3) = bys w 1
theorem LYb.mk {f0 f1 f2 f3 f4 : Int → Int} {n a z1 z2 z3 z4 : Int} (h1 : (∀ j, j ≠ n → f1 j = f0 j) ∧ f1 n = z1) (h2 : (∀ j, j ≠ n + 1 → f2 j = f1 j) ∧ f2 (n + 1) = z2) (h3 : (∀ j, j ≠ n + 2 → f3 j = f2 j) ∧ f3 (n + 2) = z3) (h4 : (∀ j, j ≠ n + 3 → f4 j = f3 j) ∧ f4 (n + 3) = z4) (e1 : z1 = bys a 16777216) (e2 : z2 = bys a 65536) (e3 : z3 = bys a 256) (e4 : z4 = bys a 1) : LYb f0 f4 n a := by
  refine ⟨fun j hj => by rw [h4.1 j (by omega), h3.1 j (by omega), h2.1 j (by omega), h1.1 j (by omega)], ?_, ?_, ?_, ?_⟩
  · rw [h4.1 n (by omega), h3.1 n (by omega), h2.1 n (by omega), h1.2]; exact e1
  · rw [h4.1 _ (by omega), h3.1 _ (by omega), h2.2]; exact e2
  · rw [h4.1 _ (by omega), h3.2]; exact e3
  · rw [h4.2]; exact e4
theorem LYb.al {f g f' g' : Int → Int} {n w : Int} (h : LYb f g n w) (h' : LYb f' g' n w) (e : ∀ j, 0 ≤ j → j < n → f j = f' j) : ∀ j, 0 ≤ j → j < n + 4 → g j = g' j := fun j a b => by
  by_cases c : j < n
  · rw [h.1 j c, h'.1 j c]; exact e j a c
  · have q : j = n ∨ j = n + 1 ∨ j = n + 2 ∨ j = n + 3 := by omega
    rcases q with z | z | z | z
    · rw [z, h.2.1, h'.2.1]
    · rw [z, h.2.2.1, h'.2.2.1]
    · rw [z, h.2.2.2.1, h'.2.2.2.1]
    · rw [z, h.2.2.2.2, h'.2.2.2.2]
def FDb (f g : Int → Int) (n a b c d e : Int) : Prop := ∃ g1 g2 g3 g4, LYb f g1 n a ∧ LYb g1 g2 (n + 4) b ∧ LYb g2 g3 (n + 8) c ∧ LYb g3 g4 (n + 12) d ∧ LYb g4 g (n + 16) e
theorem FDb.al {f g f' g' : Int → Int} {n a b c d e : Int} (h : FDb f g n a b c d e) (h' : FDb f' g' n a b c d e) (e0 : ∀ j, 0 ≤ j → j < n → f j = f' j) : ∀ j, 0 ≤ j → j < n + 20 → g j = g' j := by
  obtain ⟨g1, g2, g3, g4, a1, a2, a3, a4, a5⟩ := h
  obtain ⟨g1', g2', g3', g4', b1, b2, b3, b4, b5⟩ := h'
  have e1 := a1.al b1 e0
  have e2 := a2.al b2 e1
  have e3 := a3.al b3 (fun j x y => e2 j x (by omega))
  have e4 := a4.al b4 (fun j x y => e3 j x (by omega))
  have e5 := a5.al b5 (fun j x y => e4 j x (by omega))
  exact fun j x y => e5 j x (by omega)
set_option maxRecDepth 100000 in
set_option maxHeartbeats 4000000 in
theorem e_X12_lay (l : Launch) (G : sG) (S : sS) {wd : Int} (hI : dX G S) (hwd : -2147483648 ≤ wd ∧ wd ≤ 2147483647) (htp : 0 ≤ S.1 231 1 ∧ S.1 231 1 + 4 ≤ 30000) : Met l yX12_lay (.code yX12_lay cX12_lay 3 none :: tb) (rmk 1 0 0) (sPc G 294 S [.ref (G.2.2.1 + 231), .int (iv wd)]) (sQv G 294 (fun u => dX G u ∧ Fr S u (pl [231, 232]) ∧ FF S u (fl [1]) ∧ (u.1 231 1 = S.1 231 1 + 4 ∧ LYb (S.2.1 232) (u.2.1 232) (S.1 231 1) wd))) 0 0 (sF G) := by
  refine sEnter (by decide) (Nat.le_of_ble_eq_true rfl) ?_
  intro p e s m args below meth c Cx hr hlk hnm hW ls hl
  have Cx : sC G p m c cX12_lay 3 s args RX12 := Cx
  obtain ⟨hx, hb, hml, hown, hts⟩ := id Cx.1
  have hL : sL G [] := sL_nil
  have hl : lv_has ls 3 [(0, .ref (G.2.2.1 + 231)), (1, .int (iv wd))] := hl
  have hW0 := hW
  refine lv_bipush (v := iv 24) hx hb dX12_lay_0 (by decide) ?_
  refine lv_istore_n (lv' := [(2, .int (iv 24)), (0, .ref (G.2.2.1 + 231)), (1, .int (iv wd))]) hx hb dX12_lay_2 rfl hl (by decide) rfl (fun ls hl => ?_)
  refine lv_iload_n hx hb dX12_lay_3 rfl (lv_at hl 0 rfl) ?_
  refine r_if_lt (tgt := 36) hx hb ⟨(by omega), (by omega)⟩ dX12_lay_4 (by decide) (fun c => absurd c (by omega)) (fun _ => ?_)
  refine lv_aload_n hx hb dX12_lay_7 rfl (lv_at hl 1 rfl) ?_
  refine g_X12_9 Cx hW (k := 231) (by decide) rfl (v := .ref (G.2.2.1 + 232)) (rd_0 hI) dX12_lay_8 ?_
  refine lv_aload_n hx hb dX12_lay_11 rfl (lv_at hl 1 rfl) ?_
  have q_1 : (-2147483648) ≤ S.1 231 1 ∧ S.1 231 1 ≤ 2147483647 := hI.fi 1
  refine g_X12_202 Cx hW (k := 231) (by decide) rfl (v := S.1 231 1) rfl dX12_lay_12 ?_
  refine lv_iload_n hx hb dX12_lay_15 rfl (lv_at hl 2 rfl) ?_
  refine lv_iload_n hx hb dX12_lay_16 rfl (lv_at hl 0 rfl) ?_
  refine r_ishrX hx hb (n := 24) (D := 16777216) ⟨(by omega), (by omega)⟩ (by decide) rfl dX12_lay_17 (fun z_2 hz_2 kz_2 ez_2 => ?_)
  refine r_i2bE hx hb ⟨(by omega), (by omega)⟩ dX12_lay_18 (fun z_3 hz_3 kz_3 ez_3 => ?_)
  refine rBast Cx hW hL (k := 232) (by decide) rfl (by decide) (by omega) (by omega) (nar_b (by omega) (by omega)) dX12_lay_19 (fun H locs hW hL => ?_)
  have F_4 : Fr S (uA S 232 (S.1 231 1) z_3) (pl [231, 232]) := (Fr.rf : Fr S S (pl [231, 232])).A rfl
  have i_5 : dX G (uA S 232 (S.1 231 1) z_3) := hI.A (k := 232) (show (-128) ≤ z_3 ∧ z_3 ≤ 127 from ⟨by omega, by omega⟩)
  refine lv_aload_n hx hb dX12_lay_20 rfl (lv_at hl 1 rfl) ?_
  refine lv_dup hx hb dX12_lay_21 rfl ?_
  refine g_X12_202 Cx hW (k := 231) (by decide) rfl (v := S.1 231 1) uA_f dX12_lay_22 ?_
  refine lv_iconst (v := iv 1) hx hb dX12_lay_25 (by decide) ?_
  refine r_iadd hx hb dX12_lay_26 ?_
  refine p_X12_202 Cx hW hL (k := 231) (by decide) rfl dX12_lay_27 (fun H locs hW hL => ?_)
  have F_6 : Fr S (uF (uA S 232 (S.1 231 1) z_3) 231 1 ((S.1 231 1) + 1)) (pl [231, 232]) := F_4.F rfl
  have g_7 : FF S (uF (uA S 232 (S.1 231 1) z_3) 231 1 ((S.1 231 1) + 1)) (fl [1]) := FF.F FF.rf rfl
  have i_8 : dX G (uF (uA S 232 (S.1 231 1) z_3) 231 1 ((S.1 231 1) + 1)) := i_5.F (i := 1) (show (-2147483648) ≤ (S.1 231 1) + 1 ∧ (S.1 231 1) + 1 ≤ 2147483647 from ⟨by omega, by omega⟩)
  refine lv_iinc (v := iv (16)) (lv' := [(2, .int (iv 16)), (0, .ref (G.2.2.1 + 231)), (1, .int (iv wd))]) hx hb dX12_lay_30 hl (k := 0) rfl ((Int32.ofInt_add _ _).symm.trans (congrArg iv (by omega))) (by decide) rfl (fun ls hl => ?_)
  refine lv_goto (tgt := 3) hx hb dX12_lay_33 (by decide) ?_
  refine lv_iload_n hx hb dX12_lay_3 rfl (lv_at hl 0 rfl) ?_
  refine r_if_lt (tgt := 36) hx hb ⟨(by omega), (by omega)⟩ dX12_lay_4 (by decide) (fun c => absurd c (by omega)) (fun _ => ?_)
  refine lv_aload_n hx hb dX12_lay_7 rfl (lv_at hl 1 rfl) ?_
  refine g_X12_9 Cx hW (k := 231) (by decide) rfl (v := .ref (G.2.2.1 + 232)) (rd_0 i_8) dX12_lay_8 ?_
  refine lv_aload_n hx hb dX12_lay_11 rfl (lv_at hl 1 rfl) ?_
  refine g_X12_202 Cx hW (k := 231) (by decide) rfl (v := (S.1 231 1) + 1) uF_on dX12_lay_12 ?_
  refine lv_iload_n hx hb dX12_lay_15 rfl (lv_at hl 2 rfl) ?_
  refine lv_iload_n hx hb dX12_lay_16 rfl (lv_at hl 0 rfl) ?_
  refine r_ishrX hx hb (n := 16) (D := 65536) ⟨(by omega), (by omega)⟩ (by decide) rfl dX12_lay_17 (fun z_9 hz_9 kz_9 ez_9 => ?_)
  refine r_i2bE hx hb ⟨(by omega), (by omega)⟩ dX12_lay_18 (fun z_10 hz_10 kz_10 ez_10 => ?_)
  refine rBast Cx hW hL (k := 232) (by decide) rfl (by decide) (by omega) (by omega) (nar_b (by omega) (by omega)) dX12_lay_19 (fun H locs hW hL => ?_)
  have F_11 : Fr S (uA (uF (uA S 232 (S.1 231 1) z_3) 231 1 ((S.1 231 1) + 1)) 232 ((S.1 231 1) + 1) z_10) (pl [231, 232]) := F_6.A rfl
  have i_12 : dX G (uA (uF (uA S 232 (S.1 231 1) z_3) 231 1 ((S.1 231 1) + 1)) 232 ((S.1 231 1) + 1) z_10) := i_8.A (k := 232) (show (-128) ≤ z_10 ∧ z_10 ≤ 127 from ⟨by omega, by omega⟩)
  refine lv_aload_n hx hb dX12_lay_20 rfl (lv_at hl 1 rfl) ?_
  refine lv_dup hx hb dX12_lay_21 rfl ?_
  refine g_X12_202 Cx hW (k := 231) (by decide) rfl (v := (S.1 231 1) + 1) ((uA_f).trans (uF_on)) dX12_lay_22 ?_
  refine lv_iconst (v := iv 1) hx hb dX12_lay_25 (by decide) ?_
  refine r_iadd hx hb dX12_lay_26 ?_
  refine p_X12_202 Cx hW hL (k := 231) (by decide) rfl dX12_lay_27 (fun H locs hW hL => ?_)
  have F_13 : Fr S (uF (uA (uF (uA S 232 (S.1 231 1) z_3) 231 1 ((S.1 231 1) + 1)) 232 ((S.1 231 1) + 1) z_10) 231 1 (((S.1 231 1) + 1) + 1)) (pl [231, 232]) := F_11.F rfl
  have g_14 : FF S (uF (uA (uF (uA S 232 (S.1 231 1) z_3) 231 1 ((S.1 231 1) + 1)) 232 ((S.1 231 1) + 1) z_10) 231 1 (((S.1 231 1) + 1) + 1)) (fl [1]) := FF.F g_7 rfl
  have i_15 : dX G (uF (uA (uF (uA S 232 (S.1 231 1) z_3) 231 1 ((S.1 231 1) + 1)) 232 ((S.1 231 1) + 1) z_10) 231 1 (((S.1 231 1) + 1) + 1)) := i_12.F (i := 1) (show (-2147483648) ≤ ((S.1 231 1) + 1) + 1 ∧ ((S.1 231 1) + 1) + 1 ≤ 2147483647 from ⟨by omega, by omega⟩)
  refine lv_iinc (v := iv (8)) (lv' := [(2, .int (iv 8)), (0, .ref (G.2.2.1 + 231)), (1, .int (iv wd))]) hx hb dX12_lay_30 hl (k := 0) rfl ((Int32.ofInt_add _ _).symm.trans (congrArg iv (by omega))) (by decide) rfl (fun ls hl => ?_)
  refine lv_goto (tgt := 3) hx hb dX12_lay_33 (by decide) ?_
  refine lv_iload_n hx hb dX12_lay_3 rfl (lv_at hl 0 rfl) ?_
  refine r_if_lt (tgt := 36) hx hb ⟨(by omega), (by omega)⟩ dX12_lay_4 (by decide) (fun c => absurd c (by omega)) (fun _ => ?_)
  refine lv_aload_n hx hb dX12_lay_7 rfl (lv_at hl 1 rfl) ?_
  refine g_X12_9 Cx hW (k := 231) (by decide) rfl (v := .ref (G.2.2.1 + 232)) (rd_0 i_15) dX12_lay_8 ?_
  refine lv_aload_n hx hb dX12_lay_11 rfl (lv_at hl 1 rfl) ?_
  refine g_X12_202 Cx hW (k := 231) (by decide) rfl (v := ((S.1 231 1) + 1) + 1) uF_on dX12_lay_12 ?_
  refine lv_iload_n hx hb dX12_lay_15 rfl (lv_at hl 2 rfl) ?_
  refine lv_iload_n hx hb dX12_lay_16 rfl (lv_at hl 0 rfl) ?_
  refine r_ishrX hx hb (n := 8) (D := 256) ⟨(by omega), (by omega)⟩ (by decide) rfl dX12_lay_17 (fun z_16 hz_16 kz_16 ez_16 => ?_)
  refine r_i2bE hx hb ⟨(by omega), (by omega)⟩ dX12_lay_18 (fun z_17 hz_17 kz_17 ez_17 => ?_)
  refine rBast Cx hW hL (k := 232) (by decide) rfl (by decide) (by omega) (by omega) (nar_b (by omega) (by omega)) dX12_lay_19 (fun H locs hW hL => ?_)
  have F_18 : Fr S (uA (uF (uA (uF (uA S 232 (S.1 231 1) z_3) 231 1 ((S.1 231 1) + 1)) 232 ((S.1 231 1) + 1) z_10) 231 1 (((S.1 231 1) + 1) + 1)) 232 (((S.1 231 1) + 1) + 1) z_17) (pl [231, 232]) := F_13.A rfl
  have i_19 : dX G (uA (uF (uA (uF (uA S 232 (S.1 231 1) z_3) 231 1 ((S.1 231 1) + 1)) 232 ((S.1 231 1) + 1) z_10) 231 1 (((S.1 231 1) + 1) + 1)) 232 (((S.1 231 1) + 1) + 1) z_17) := i_15.A (k := 232) (show (-128) ≤ z_17 ∧ z_17 ≤ 127 from ⟨by omega, by omega⟩)
  refine lv_aload_n hx hb dX12_lay_20 rfl (lv_at hl 1 rfl) ?_
  refine lv_dup hx hb dX12_lay_21 rfl ?_
  refine g_X12_202 Cx hW (k := 231) (by decide) rfl (v := ((S.1 231 1) + 1) + 1) ((uA_f).trans (uF_on)) dX12_lay_22 ?_
  refine lv_iconst (v := iv 1) hx hb dX12_lay_25 (by decide) ?_
  refine r_iadd hx hb dX12_lay_26 ?_
  refine p_X12_202 Cx hW hL (k := 231) (by decide) rfl dX12_lay_27 (fun H locs hW hL => ?_)
  have F_20 : Fr S (uF (uA (uF (uA (uF (uA S 232 (S.1 231 1) z_3) 231 1 ((S.1 231 1) + 1)) 232 ((S.1 231 1) + 1) z_10) 231 1 (((S.1 231 1) + 1) + 1)) 232 (((S.1 231 1) + 1) + 1) z_17) 231 1 ((((S.1 231 1) + 1) + 1) + 1)) (pl [231, 232]) := F_18.F rfl
  have g_21 : FF S (uF (uA (uF (uA (uF (uA S 232 (S.1 231 1) z_3) 231 1 ((S.1 231 1) + 1)) 232 ((S.1 231 1) + 1) z_10) 231 1 (((S.1 231 1) + 1) + 1)) 232 (((S.1 231 1) + 1) + 1) z_17) 231 1 ((((S.1 231 1) + 1) + 1) + 1)) (fl [1]) := FF.F g_14 rfl
  have i_22 : dX G (uF (uA (uF (uA (uF (uA S 232 (S.1 231 1) z_3) 231 1 ((S.1 231 1) + 1)) 232 ((S.1 231 1) + 1) z_10) 231 1 (((S.1 231 1) + 1) + 1)) 232 (((S.1 231 1) + 1) + 1) z_17) 231 1 ((((S.1 231 1) + 1) + 1) + 1)) := i_19.F (i := 1) (show (-2147483648) ≤ (((S.1 231 1) + 1) + 1) + 1 ∧ (((S.1 231 1) + 1) + 1) + 1 ≤ 2147483647 from ⟨by omega, by omega⟩)
  refine lv_iinc (v := iv (0)) (lv' := [(2, .int (iv 0)), (0, .ref (G.2.2.1 + 231)), (1, .int (iv wd))]) hx hb dX12_lay_30 hl (k := 0) rfl ((Int32.ofInt_add _ _).symm.trans (congrArg iv (by omega))) (by decide) rfl (fun ls hl => ?_)
  refine lv_goto (tgt := 3) hx hb dX12_lay_33 (by decide) ?_
  refine lv_iload_n hx hb dX12_lay_3 rfl (lv_at hl 0 rfl) ?_
  refine r_if_lt (tgt := 36) hx hb ⟨(by omega), (by omega)⟩ dX12_lay_4 (by decide) (fun c => absurd c (by omega)) (fun _ => ?_)
  refine lv_aload_n hx hb dX12_lay_7 rfl (lv_at hl 1 rfl) ?_
  refine g_X12_9 Cx hW (k := 231) (by decide) rfl (v := .ref (G.2.2.1 + 232)) (rd_0 i_22) dX12_lay_8 ?_
  refine lv_aload_n hx hb dX12_lay_11 rfl (lv_at hl 1 rfl) ?_
  refine g_X12_202 Cx hW (k := 231) (by decide) rfl (v := (((S.1 231 1) + 1) + 1) + 1) uF_on dX12_lay_12 ?_
  refine lv_iload_n hx hb dX12_lay_15 rfl (lv_at hl 2 rfl) ?_
  refine lv_iload_n hx hb dX12_lay_16 rfl (lv_at hl 0 rfl) ?_
  refine r_ishrX hx hb (n := 0) (D := 1) ⟨(by omega), (by omega)⟩ (by decide) rfl dX12_lay_17 (fun z_23 hz_23 kz_23 ez_23 => ?_)
  refine r_i2bE hx hb ⟨(by omega), (by omega)⟩ dX12_lay_18 (fun z_24 hz_24 kz_24 ez_24 => ?_)
  refine rBast Cx hW hL (k := 232) (by decide) rfl (by decide) (by omega) (by omega) (nar_b (by omega) (by omega)) dX12_lay_19 (fun H locs hW hL => ?_)
  have F_25 : Fr S (uA (uF (uA (uF (uA (uF (uA S 232 (S.1 231 1) z_3) 231 1 ((S.1 231 1) + 1)) 232 ((S.1 231 1) + 1) z_10) 231 1 (((S.1 231 1) + 1) + 1)) 232 (((S.1 231 1) + 1) + 1) z_17) 231 1 ((((S.1 231 1) + 1) + 1) + 1)) 232 ((((S.1 231 1) + 1) + 1) + 1) z_24) (pl [231, 232]) := F_20.A rfl
  have i_26 : dX G (uA (uF (uA (uF (uA (uF (uA S 232 (S.1 231 1) z_3) 231 1 ((S.1 231 1) + 1)) 232 ((S.1 231 1) + 1) z_10) 231 1 (((S.1 231 1) + 1) + 1)) 232 (((S.1 231 1) + 1) + 1) z_17) 231 1 ((((S.1 231 1) + 1) + 1) + 1)) 232 ((((S.1 231 1) + 1) + 1) + 1) z_24) := i_22.A (k := 232) (show (-128) ≤ z_24 ∧ z_24 ≤ 127 from ⟨by omega, by omega⟩)
  refine lv_aload_n hx hb dX12_lay_20 rfl (lv_at hl 1 rfl) ?_
  refine lv_dup hx hb dX12_lay_21 rfl ?_
  refine g_X12_202 Cx hW (k := 231) (by decide) rfl (v := (((S.1 231 1) + 1) + 1) + 1) ((uA_f).trans (uF_on)) dX12_lay_22 ?_
  refine lv_iconst (v := iv 1) hx hb dX12_lay_25 (by decide) ?_
  refine r_iadd hx hb dX12_lay_26 ?_
  refine p_X12_202 Cx hW hL (k := 231) (by decide) rfl dX12_lay_27 (fun H locs hW hL => ?_)
  have F_27 : Fr S (uF (uA (uF (uA (uF (uA (uF (uA S 232 (S.1 231 1) z_3) 231 1 ((S.1 231 1) + 1)) 232 ((S.1 231 1) + 1) z_10) 231 1 (((S.1 231 1) + 1) + 1)) 232 (((S.1 231 1) + 1) + 1) z_17) 231 1 ((((S.1 231 1) + 1) + 1) + 1)) 232 ((((S.1 231 1) + 1) + 1) + 1) z_24) 231 1 (((((S.1 231 1) + 1) + 1) + 1) + 1)) (pl [231, 232]) := F_25.F rfl
  have g_28 : FF S (uF (uA (uF (uA (uF (uA (uF (uA S 232 (S.1 231 1) z_3) 231 1 ((S.1 231 1) + 1)) 232 ((S.1 231 1) + 1) z_10) 231 1 (((S.1 231 1) + 1) + 1)) 232 (((S.1 231 1) + 1) + 1) z_17) 231 1 ((((S.1 231 1) + 1) + 1) + 1)) 232 ((((S.1 231 1) + 1) + 1) + 1) z_24) 231 1 (((((S.1 231 1) + 1) + 1) + 1) + 1)) (fl [1]) := FF.F g_21 rfl
  have i_29 : dX G (uF (uA (uF (uA (uF (uA (uF (uA S 232 (S.1 231 1) z_3) 231 1 ((S.1 231 1) + 1)) 232 ((S.1 231 1) + 1) z_10) 231 1 (((S.1 231 1) + 1) + 1)) 232 (((S.1 231 1) + 1) + 1) z_17) 231 1 ((((S.1 231 1) + 1) + 1) + 1)) 232 ((((S.1 231 1) + 1) + 1) + 1) z_24) 231 1 (((((S.1 231 1) + 1) + 1) + 1) + 1)) := i_26.F (i := 1) (show (-2147483648) ≤ ((((S.1 231 1) + 1) + 1) + 1) + 1 ∧ ((((S.1 231 1) + 1) + 1) + 1) + 1 ≤ 2147483647 from ⟨by omega, by omega⟩)
  refine lv_iinc (v := iv ((-8))) (lv' := [(2, .int (iv ((-8)))), (0, .ref (G.2.2.1 + 231)), (1, .int (iv wd))]) hx hb dX12_lay_30 hl (k := 0) rfl ((Int32.ofInt_add _ _).symm.trans (congrArg iv (by omega))) (by decide) rfl (fun ls hl => ?_)
  refine lv_goto (tgt := 3) hx hb dX12_lay_33 (by decide) ?_
  refine lv_iload_n hx hb dX12_lay_3 rfl (lv_at hl 0 rfl) ?_
  refine r_if_lt (tgt := 36) hx hb ⟨(by omega), (by omega)⟩ dX12_lay_4 (by decide) (fun _ => ?_) (fun c => absurd (by omega) c)
  have lk_30 : (uF (uA (uF (uA (uF (uA (uF (uA S 232 (S.1 231 1) z_3) 231 1 ((S.1 231 1) + 1)) 232 ((S.1 231 1) + 1) z_10) 231 1 (((S.1 231 1) + 1) + 1)) 232 (((S.1 231 1) + 1) + 1) z_17) 231 1 ((((S.1 231 1) + 1) + 1) + 1)) 232 ((((S.1 231 1) + 1) + 1) + 1) z_24) 231 1 (((((S.1 231 1) + 1) + 1) + 1) + 1)).1 231 1 = ((((S.1 231 1) + 1) + 1) + 1) + 1 := uF_on
  exact sVret Cx hr hlk hW hL ⟨i_29, F_27, g_28, ⟨(by omega), LYb.mk (f0 := S.2.1 232) (f1 := (uA S 232 (S.1 231 1) z_3).2.1 232) (f2 := (uA (uF (uA S 232 (S.1 231 1) z_3) 231 1 ((S.1 231 1) + 1)) 232 ((S.1 231 1) + 1) z_10).2.1 232) (f3 := (uA (uF (uA (uF (uA S 232 (S.1 231 1) z_3) 231 1 ((S.1 231 1) + 1)) 232 ((S.1 231 1) + 1) z_10) 231 1 (((S.1 231 1) + 1) + 1)) 232 (((S.1 231 1) + 1) + 1) z_17).2.1 232) (f4 := (uF (uA (uF (uA (uF (uA (uF (uA S 232 (S.1 231 1) z_3) 231 1 ((S.1 231 1) + 1)) 232 ((S.1 231 1) + 1) z_10) 231 1 (((S.1 231 1) + 1) + 1)) 232 (((S.1 231 1) + 1) + 1) z_17) 231 1 ((((S.1 231 1) + 1) + 1) + 1)) 232 ((((S.1 231 1) + 1) + 1) + 1) z_24) 231 1 (((((S.1 231 1) + 1) + 1) + 1) + 1)).2.1 232) (z1 := z_3) (z2 := z_10) (z3 := z_17) (z4 := z_24) ⟨(fun j a => uA_ne (fun h => a h.2)), uA_on⟩ ⟨(fun j a => uA_ne (fun h => a (by have h2 := h.2; omega))), (by rw [show S.1 231 1 + 1 = (S.1 231 1) + 1 by omega]; exact uA_on)⟩ ⟨(fun j a => uA_ne (fun h => a (by have h2 := h.2; omega))), (by rw [show S.1 231 1 + 2 = ((S.1 231 1) + 1) + 1 by omega]; exact uA_on)⟩ ⟨(fun j a => uA_ne (fun h => a (by have h2 := h.2; omega))), (by rw [show S.1 231 1 + 3 = (((S.1 231 1) + 1) + 1) + 1 by omega]; exact uA_on)⟩ (by unfold bys; omega) (by unfold bys; omega) (by unfold bys; omega) (by unfold bys; omega)⟩⟩ dX12_lay_36

set_option maxRecDepth 100000 in
set_option maxHeartbeats 4000000 in
theorem e_X12_feed (l : Launch) (G : sG) (S : sS) {a b c1 d1 e1 : Int} (hI : dX G S) (ha : -2147483648 ≤ a ∧ a ≤ 2147483647) (hb : -2147483648 ≤ b ∧ b ≤ 2147483647) (hc1 : -2147483648 ≤ c1 ∧ c1 ≤ 2147483647) (hd1 : -2147483648 ≤ d1 ∧ d1 ≤ 2147483647) (he1 : -2147483648 ≤ e1 ∧ e1 ≤ 2147483647) (htp : 0 ≤ S.1 231 1 ∧ S.1 231 1 ≤ 30000) : Met l yX12_feed (.code yX12_feed cX12_feed 6 (some .int) :: tb) (rmk 2 0 0) (sPc G 294 S [.ref (G.2.2.1 + 231), .int (iv a), .int (iv b), .int (iv c1), .int (iv d1), .int (iv e1)]) (sQi G 294 (fun r u => dX G u ∧ Fr S u (pl [231, 232]) ∧ FF S u (fl [1]) ∧ (((S.1 231 1 + 20 ≤ 30000 → r = S.1 231 1 + 20 ∧ u.1 231 1 = S.1 231 1 + 20) ∧ (30000 < S.1 231 1 + 20 → r = -1 ∧ u.1 231 1 = S.1 231 1)) ∧ Hd (30000 < S.1 231 1 + 20 → u.2.1 232 = S.2.1 232) ∧ Hd (S.1 231 1 + 20 ≤ 30000 → FDb (S.2.1 232) (u.2.1 232) (S.1 231 1) a b c1 d1 e1)))) 0 0 (sF G) := by
  refine sEnter (by decide) (Nat.le_of_ble_eq_true rfl) ?_
  intro p e s m args below meth c Cx hr hlk hnm hW ls hl
  have Cx : sC G p m c cX12_feed 6 s args RX12 := Cx
  obtain ⟨hx, hb, hml, hown, hts⟩ := id Cx.1
  have hL : sL G [] := sL_nil
  have hl : lv_has ls 6 [(0, .ref (G.2.2.1 + 231)), (1, .int (iv a)), (2, .int (iv b)), (3, .int (iv c1)), (4, .int (iv d1)), (5, .int (iv e1))] := hl
  have hW0 := hW
  refine lv_aload_n hx hb dX12_feed_0 rfl (lv_at hl 0 rfl) ?_
  have q_1 : (-2147483648) ≤ S.1 231 1 ∧ S.1 231 1 ≤ 2147483647 := hI.fi 1
  refine g_X12_202 Cx hW (k := 231) (by decide) rfl (v := S.1 231 1) rfl dX12_feed_1 ?_
  refine lv_bipush (v := iv 20) hx hb dX12_feed_4 (by decide) ?_
  refine r_iadd hx hb dX12_feed_6 ?_
  refine lv_sipush (v := iv 30000) hx hb dX12_feed_7 (by decide) ?_
  refine r_icmp_le (tgt := 15) hx hb ⟨(by omega), (by omega)⟩ ⟨(by omega), (by omega)⟩ dX12_feed_10 (by decide) (fun c_2 => ?_) (fun c_2 => ?_)
  · refine lv_aload_n hx hb dX12_feed_15 rfl (lv_at hl 0 rfl) ?_
    refine lv_iload_n hx hb dX12_feed_16 rfl (lv_at hl 1 rfl) ?_
    refine sBv (sV (As := [.int (iv a)]) (rest := []) (k := 231) Cx (e_X12_lay l G S (wd := a) hI (by omega) (by omega)) (c_X12_206 Cx rfl rfl (rmk_ok (by omega) (by decide))) hW (by decide) rfl rfl rfl hl.1 rfl (Nat.le_of_ble_eq_true rfl) dX12_feed_17 ⟨Nat.le_of_ble_eq_true rfl, Nat.le_of_ble_eq_true rfl⟩) hL (fun u_3 H locs k_4 hW hL => ?_)
    obtain ⟨iu_3, fu_3, gu_3, xu_3⟩ := k_4
    have F_5 := (Fr.rf : Fr S S (pl [231, 232])).trans fu_3
    have g_6 : FF S u_3 (fl [1]) := FF.trans FF.rf (FF.to gu_3 (fl_sub (by decide)))
    refine lv_aload_n hx hb dX12_feed_20 rfl (lv_at hl 0 rfl) ?_
    refine lv_iload_n hx hb dX12_feed_21 rfl (lv_at hl 2 rfl) ?_
    have q_7 : (-2147483648) ≤ u_3.1 231 1 ∧ u_3.1 231 1 ≤ 2147483647 := iu_3.fi 1
    refine sBv (sV (As := [.int (iv b)]) (rest := []) (k := 231) Cx (e_X12_lay l G u_3 (wd := b) iu_3 (by omega) (by omega)) (c_X12_206 Cx rfl rfl (rmk_ok (by omega) (by decide))) hW (by decide) rfl rfl rfl hl.1 rfl (Nat.le_of_ble_eq_true rfl) dX12_feed_22 ⟨Nat.le_of_ble_eq_true rfl, Nat.le_of_ble_eq_true rfl⟩) hL (fun u_8 H locs k_9 hW hL => ?_)
    obtain ⟨iu_8, fu_8, gu_8, xu_8⟩ := k_9
    have F_10 := F_5.trans fu_8
    have g_11 : FF S u_8 (fl [1]) := FF.trans g_6 (FF.to gu_8 (fl_sub (by decide)))
    refine lv_aload_n hx hb dX12_feed_25 rfl (lv_at hl 0 rfl) ?_
    refine lv_iload_n hx hb dX12_feed_26 rfl (lv_at hl 3 rfl) ?_
    have q_12 : (-2147483648) ≤ u_8.1 231 1 ∧ u_8.1 231 1 ≤ 2147483647 := iu_8.fi 1
    refine sBv (sV (As := [.int (iv c1)]) (rest := []) (k := 231) Cx (e_X12_lay l G u_8 (wd := c1) iu_8 (by omega) (by omega)) (c_X12_206 Cx rfl rfl (rmk_ok (by omega) (by decide))) hW (by decide) rfl rfl rfl hl.1 rfl (Nat.le_of_ble_eq_true rfl) dX12_feed_27 ⟨Nat.le_of_ble_eq_true rfl, Nat.le_of_ble_eq_true rfl⟩) hL (fun u_13 H locs k_14 hW hL => ?_)
    obtain ⟨iu_13, fu_13, gu_13, xu_13⟩ := k_14
    have F_15 := F_10.trans fu_13
    have g_16 : FF S u_13 (fl [1]) := FF.trans g_11 (FF.to gu_13 (fl_sub (by decide)))
    refine lv_aload_n hx hb dX12_feed_30 rfl (lv_at hl 0 rfl) ?_
    refine lv_iload hx hb dX12_feed_31 (lv_at hl 4 rfl) ?_
    have q_17 : (-2147483648) ≤ u_13.1 231 1 ∧ u_13.1 231 1 ≤ 2147483647 := iu_13.fi 1
    refine sBv (sV (As := [.int (iv d1)]) (rest := []) (k := 231) Cx (e_X12_lay l G u_13 (wd := d1) iu_13 (by omega) (by omega)) (c_X12_206 Cx rfl rfl (rmk_ok (by omega) (by decide))) hW (by decide) rfl rfl rfl hl.1 rfl (Nat.le_of_ble_eq_true rfl) dX12_feed_33 ⟨Nat.le_of_ble_eq_true rfl, Nat.le_of_ble_eq_true rfl⟩) hL (fun u_18 H locs k_19 hW hL => ?_)
    obtain ⟨iu_18, fu_18, gu_18, xu_18⟩ := k_19
    have F_20 := F_15.trans fu_18
    have g_21 : FF S u_18 (fl [1]) := FF.trans g_16 (FF.to gu_18 (fl_sub (by decide)))
    refine lv_aload_n hx hb dX12_feed_36 rfl (lv_at hl 0 rfl) ?_
    refine lv_iload hx hb dX12_feed_37 (lv_at hl 5 rfl) ?_
    have q_22 : (-2147483648) ≤ u_18.1 231 1 ∧ u_18.1 231 1 ≤ 2147483647 := iu_18.fi 1
    refine sBv (sV (As := [.int (iv e1)]) (rest := []) (k := 231) Cx (e_X12_lay l G u_18 (wd := e1) iu_18 (by omega) (by omega)) (c_X12_206 Cx rfl rfl (rmk_ok (by omega) (by decide))) hW (by decide) rfl rfl rfl hl.1 rfl (Nat.le_of_ble_eq_true rfl) dX12_feed_39 ⟨Nat.le_of_ble_eq_true rfl, Nat.le_of_ble_eq_true rfl⟩) hL (fun u_23 H locs k_24 hW hL => ?_)
    obtain ⟨iu_23, fu_23, gu_23, xu_23⟩ := k_24
    have F_25 := F_20.trans fu_23
    have g_26 : FF S u_23 (fl [1]) := FF.trans g_21 (FF.to gu_23 (fl_sub (by decide)))
    refine lv_aload_n hx hb dX12_feed_42 rfl (lv_at hl 0 rfl) ?_
    have q_27 : (-2147483648) ≤ u_23.1 231 1 ∧ u_23.1 231 1 ≤ 2147483647 := iu_23.fi 1
    refine g_X12_202 Cx hW (k := 231) (by decide) rfl (v := u_23.1 231 1) rfl dX12_feed_43 ?_
    exact sIret Cx hr hlk hW hL ⟨iu_23, F_25, g_26, ⟨(by omega), (fun h => absurd h (by omega)), (fun _ => ⟨_, _, _, _, xu_3.2, (by have y := xu_8.2; rw [show u_3.1 231 1 = S.1 231 1 + 4 by omega] at y; exact y), (by have y := xu_13.2; rw [show u_8.1 231 1 = S.1 231 1 + 8 by omega] at y; exact y), (by have y := xu_18.2; rw [show u_13.1 231 1 = S.1 231 1 + 12 by omega] at y; exact y), (by have y := xu_23.2; rw [show u_18.1 231 1 = S.1 231 1 + 16 by omega] at y; exact y)⟩)⟩⟩ dX12_feed_46
  · refine lv_iconst (v := iv (-1)) hx hb dX12_feed_13 (by decide) ?_
    exact sIret Cx hr hlk hW hL ⟨hI, (Fr.rf : Fr S S (pl [231, 232])), FF.rf, ⟨(by omega), (fun _ => rfl), (fun h => absurd h (by omega))⟩⟩ dX12_feed_14

set_option maxRecDepth 100000 in
set_option maxHeartbeats 4000000 in
theorem e_X12_end (l : Launch) (G : sG) (S : sS) {k : Int} (hI : dX G S) (hk : -2147483648 ≤ k ∧ k ≤ 2147483647) (htp : 0 ≤ S.1 231 1 ∧ S.1 231 1 ≤ 30000) : Met l yX12_end (.code yX12_end cX12_end 2 (some .boolean) :: tb) (rmk 1 0 0) (sPc G 294 S [.ref (G.2.2.1 + 231), .int (iv k)]) (sQi G 294 (fun r u => dX G u ∧ Fr S u (pl [231]) ∧ FF S u (fl [1]) ∧ ((0 ≤ k ∧ k ≤ S.1 231 1 → r = 1 ∧ u.1 231 1 = k) ∧ (¬ (0 ≤ k ∧ k ≤ S.1 231 1) → r = 0 ∧ u.1 231 1 = S.1 231 1)))) 0 0 (sF G) := by
  refine sEnter (by decide) (Nat.le_of_ble_eq_true rfl) ?_
  intro p e s m args below meth c Cx hr hlk hnm hW ls hl
  have Cx : sC G p m c cX12_end 2 s args RX12 := Cx
  obtain ⟨hx, hb, hml, hown, hts⟩ := id Cx.1
  have hL : sL G [] := sL_nil
  have hl : lv_has ls 2 [(0, .ref (G.2.2.1 + 231)), (1, .int (iv k))] := hl
  have hW0 := hW
  refine lv_iload_n hx hb dX12_end_0 rfl (lv_at hl 1 rfl) ?_
  refine r_if_lt (tgt := 12) hx hb ⟨(by omega), (by omega)⟩ dX12_end_1 (by decide) (fun c_1 => ?_) (fun c_1 => ?_)
  · refine lv_iconst (v := iv 0) hx hb dX12_end_12 (by decide) ?_
    have q_2 : (-2147483648) ≤ S.1 231 1 ∧ S.1 231 1 ≤ 2147483647 := hI.fi 1
    exact sZret Cx hr hlk hW hL (by omega) ⟨hI, (Fr.rf : Fr S S (pl [231])), FF.rf, (by omega)⟩ dX12_end_13
  · refine lv_iload_n hx hb dX12_end_4 rfl (lv_at hl 1 rfl) ?_
    refine lv_aload_n hx hb dX12_end_5 rfl (lv_at hl 0 rfl) ?_
    have q_3 : (-2147483648) ≤ S.1 231 1 ∧ S.1 231 1 ≤ 2147483647 := hI.fi 1
    refine g_X12_202 Cx hW (k := 231) (by decide) rfl (v := S.1 231 1) rfl dX12_end_6 ?_
    refine r_icmp_le (tgt := 14) hx hb ⟨(by omega), (by omega)⟩ ⟨(by omega), (by omega)⟩ dX12_end_9 (by decide) (fun c_4 => ?_) (fun c_4 => ?_)
    · refine lv_aload_n hx hb dX12_end_14 rfl (lv_at hl 0 rfl) ?_
      refine lv_iload_n hx hb dX12_end_15 rfl (lv_at hl 1 rfl) ?_
      refine p_X12_202 Cx hW hL (k := 231) (by decide) rfl dX12_end_16 (fun H locs hW hL => ?_)
      have F_5 : Fr S (uF S 231 1 k) (pl [231]) := (Fr.rf : Fr S S (pl [231])).F rfl
      have g_6 : FF S (uF S 231 1 k) (fl [1]) := FF.F FF.rf rfl
      have i_7 : dX G (uF S 231 1 k) := hI.F (i := 1) (show (-2147483648) ≤ k ∧ k ≤ 2147483647 from ⟨by omega, by omega⟩)
      refine lv_iconst (v := iv 1) hx hb dX12_end_19 (by decide) ?_
      have lk_8 : (uF S 231 1 k).1 231 1 = k := uF_on
      exact sZret Cx hr hlk hW hL (by omega) ⟨i_7, F_5, g_6, (by omega)⟩ dX12_end_20
    · refine lv_iconst (v := iv 0) hx hb dX12_end_12 (by decide) ?_
      exact sZret Cx hr hlk hW hL (by omega) ⟨hI, (Fr.rf : Fr S S (pl [231])), FF.rf, (by omega)⟩ dX12_end_13
