/-! String constants: rows -/
section STR
variable {p : Program} {l : Launch} {e : Env} {R : Room} {s : State} {m : MethodId} {args : Array Value} {below : List Frame} {meth : Method} {c : Code} {H : Heap} {locs : List Loc} {cells slots : Nat} {Q : State → Prop}
variable {cc : ByteArray} {pc nL : Nat} {ls : Array Slot} {rest st0 : List Value} {G : sG} {n : Nat} {S S0 : sS} {own : String}
theorem sW.wS (h0 : sW G n S0 s.heap) (h : sW G n S H) (hL : sL G locs) : va_S (fun q => G.2.2.1 ≤ q) s.heap H locs := ⟨by rw [h0.1, h.1]; exact Nat.le_refl _, fun q hq hn => by rw [h.2.1 q (by omega), h0.2.1 q (by omega)], fun q hq => hL q hq⟩
theorem sW.old (h0 : sW G n S0 s.heap) : ∀ a : Nat, a < G.2.2.2.size → ¬ (fun q => G.2.2.1 ≤ q) a → s.heap[a]? = G.2.2.2[a]? := fun a _ hn => h0.2.1 a (Nat.lt_of_not_le hn)
theorem zLdc (Cx : sC G p m c cc nL s args own) {index : Nat} (i : Nat) (hi : i < 38) (hq : (strL.getD i ("", 0, "")).1 = own ∧ (strL.getD i ("", 0, "")).2.1 = index) (hdg : decode cc pc = .ok (.ldc index, 2)) (kk : W p l e R s m args below meth c H locs cells slots Q (F0 m (pc + 2) ls (.ref (G.1.2 100 i) :: rest))) : W p l e R s m args below meth c H locs cells slots Q (F0 m pc ls rest) := by
  have h := (Cx.2.2.2.2.2.2 i hi).1
  rw [hq.1, hq.2] at h
  exact va_ldcS Cx.1.1 Cx.1.2.1 Cx.1.2.2.2.1 h hdg kk
theorem zCoder (Cx : sC G p m c cc nL s args own) (h0 : sW G n S0 s.heap) (hW : sW G n S H) (hL : sL G locs) {i index : Nat} (hi : i < 38) (hl : Cond.fieldLink own index "java/lang/String" "coder" "B" ∈ tb) (hdg : decode cc pc = .ok (.getfield index, 3)) (kk : W p l e R s m args below meth c H locs cells slots Q (F0 m (pc + 3) ls (.int (iv 0) :: rest))) : W p l e R s m args below meth c H locs cells slots Q (F0 m pc ls (.ref (G.1.2 100 i) :: rest)) :=
  vk_getf (v := .int (iv 0)) Cx.1.1 Cx.1.2.1 ((Cx.2.2.2.2.2.2 i hi).2.2.1.kept h0.old) (h0.wS hW hL) Cx.1.2.2.2.1 (Cx.1.2.2.2.2 _ hl) (fun _ h => h) hdg kk
theorem zValue (Cx : sC G p m c cc nL s args own) (h0 : sW G n S0 s.heap) (hW : sW G n S H) (hL : sL G locs) {i index : Nat} (hi : i < 38) (hl : Cond.fieldLink own index "java/lang/String" "value" "[B" ∈ tb) (hdg : decode cc pc = .ok (.getfield index, 3)) (kk : W p l e R s m args below meth c H locs cells slots Q (F0 m (pc + 3) ls (.ref (G.1.2 101 i) :: rest))) : W p l e R s m args below meth c H locs cells slots Q (F0 m pc ls (.ref (G.1.2 100 i) :: rest)) :=
  vk_getf Cx.1.1 Cx.1.2.1 ((Cx.2.2.2.2.2.2 i hi).2.2.2.1.kept h0.old) (h0.wS hW hL) Cx.1.2.2.2.1 (Cx.1.2.2.2.2 _ hl) (fun _ h => h) hdg kk
theorem zLen (Cx : sC G p m c cc nL s args own) (h0 : sW G n S0 s.heap) (hW : sW G n S H) (hL : sL G locs) {i : Nat} (hi : i < 38) (hdg : decode cc pc = .ok (.arraylength, 1)) (kk : W p l e R s m args below meth c H locs cells slots Q (F0 m (pc + 1) ls (.int (iv (strN.getD i 0 : Nat)) :: rest))) : W p l e R s m args below meth c H locs cells slots Q (F0 m pc ls (.ref (G.1.2 101 i) :: rest)) :=
  va_tlen (v := iv (strN.getD i 0 : Nat)) Cx.1.1 Cx.1.2.1 ((Cx.2.2.2.2.2.2 i hi).2.2.2.2.kept h0.old) (h0.wS hW hL) rfl hdg kk
theorem strB_r : ∀ i, i < 38 → ∀ b ∈ strB.getD i [], 0 ≤ b ∧ b ≤ 127 := by decide +kernel
theorem strN_r : ∀ i, i < 38 → strN.getD i 0 ≤ 70 := by decide +kernel
theorem strB_g {i j : Nat} (hi : i < 38) : 0 ≤ (strB.getD i []).getD j 0 ∧ (strB.getD i []).getD j 0 ≤ 127 := by
  rw [List.getD_eq_getElem?_getD]
  cases h : (strB.getD i [])[j]? with
  | none => simp
  | some b => exact strB_r i hi b (List.mem_of_getElem? h)
theorem zByte (Cx : sC G p m c cc nL s args own) (h0 : sW G n S0 s.heap) (hW : sW G n S H) (hL : sL G locs) {i : Nat} {k : Int} (hi : i < 38) (hk : 0 ≤ k ∧ k < (strN.getD i 0 : Nat)) (hdg : decode cc pc = .ok (.baload, 1)) (kk : ∀ z : Int, 0 ≤ z → z ≤ 127 → W p l e R s m args below meth c H locs cells slots Q (F0 m (pc + 1) ls (.int (iv z) :: rest))) : W p l e R s m args below meth c H locs cells slots Q (F0 m pc ls (.int (iv k) :: .ref (G.1.2 101 i) :: rest)) := by
  have r := strN_r i hi
  have g := strB_g (i := i) (j := (iv k).toNatClampNeg) hi
  exact va_tb (v := .int (iv ((strB.getD i []).getD (iv k).toNatClampNeg 0))) Cx.1.1 Cx.1.2.1 ((Cx.2.2.2.2.2.2 i hi).2.2.2.2.kept h0.old) (h0.wS hW hL) (iv_in hk.1 hk.2 (by omega)) rfl hdg (kk _ g.1 g.2)
theorem zCompact (Cx : sC G p m c cc nL s args own) (h0 : sW G n S0 s.heap) (hW : sW G n S H) (hL : sL G locs) {index : Nat} (hl : Cond.fieldLink own index "java/lang/String" "COMPACT_STRINGS" "Z" ∈ tb) (hdg : decode cc pc = .ok (.getstatic index, 3)) (kk : W p l e R s m args below meth c H locs cells slots Q (F0 m (pc + 3) ls (.int (iv 1) :: rest))) : W p l e R s m args below meth c H locs cells slots Q (F0 m pc ls rest) :=
  va_gets Cx.1.1 Cx.1.2.1 (Cx.2.2.2.2.1.2.kept h0.old) (h0.wS hW hL) Cx.1.2.2.2.1 (Cx.1.2.2.2.2 _ hl) (fun _ h => h) hdg kk
theorem zFmt (Cx : sC G p m c cc nL s args own) (h0 : sW G n S0 s.heap) (hW : sW G n S H) (hL : sL G locs) {index : Nat} (hl : Cond.fieldLink own index "jdk/internal/util/Preconditions" "SIOOBE_FORMATTER" "Ljava/util/function/BiFunction;" ∈ tb) (hdg : decode cc pc = .ok (.getstatic index, 3)) (k1 : W p l e R s m args below meth c H locs cells slots Q (F0 m (pc + 3) ls (.null :: rest))) (k2 : ∀ a, W p l e R s m args below meth c H locs cells slots Q (F0 m (pc + 3) ls (.ref a :: rest))) : W p l e R s m args below meth c H locs cells slots Q (F0 m pc ls rest) := by
  rcases Cx.2.2.2.2.1.1 with h | ⟨a, h⟩
  · exact va_gets Cx.1.1 Cx.1.2.1 (h.kept h0.old) (h0.wS hW hL) Cx.1.2.2.2.1 (Cx.1.2.2.2.2 _ hl) (fun _ h => h) hdg k1
  · exact va_gets Cx.1.1 Cx.1.2.1 (h.kept h0.old) (h0.wS hW hL) Cx.1.2.2.2.1 (Cx.1.2.2.2.2 _ hl) (fun _ h => h) hdg (k2 a)
theorem zRecv (Cx : sC G p m c cc nL s args own) (h0 : sW G n S0 s.heap) (hW : sW G n S H) {i : Nat} (hi : i < 38) : ∃ cell : Cell, H[G.1.2 100 i]? = some cell ∧ cell.vm.isStatics = false ∧ s.vm.findClass "java/lang/String" = some cell.cls := va_Orecv (locs := []) ((Cx.2.2.2.2.2.2 i hi).2.1.kept h0.old) (h0.wS hW sL_nil)
variable {y : MethodName} {bytes : ByteArray} {maxL mc ms na index : Nat} {ret : Option FieldType} {rm : Room} {Qc : Array Value → State → Outcome → State → Prop} {C host : String} {As : List Value} {a : Nat}
theorem sVz (Cx : sC G p m c cc nL s args own) (hM : Met l y (.code y bytes maxL ret :: tb) rm (sPc G n S (.ref a :: As)) Qc mc ms (sF G)) (cw : CallW R s args own C index y bytes maxL ret (.code y bytes maxL ret :: tb) rm mc ms na) (hW : sW G n S H) (hrc : ∃ cell : Cell, H[a]? = some cell ∧ cell.vm.isStatics = false ∧ s.vm.findClass C = some cell.cls)
    (hn : As.length = na) (hsz : ls.size = nL) (hst : st0 = As.reverse ++ .ref a :: rest) (hro : (rest.map fun v => v.category).sum ≤ 8) (hdg : decode cc pc = .ok (.invokevirtual index, 3)) (hf : cells + mc ≤ R.cells ∧ slots + ms ≤ R.slots) :
    va_Run p l e R s m args below meth c H locs cells slots mc ms (F0 m pc ls st0) rest (Qc (Value.ref a :: As).toArray) (sF G) :=
  va_runV Cx.1 hM cw ⟨sPc_blind, hrc, (sPre Cx hW).2⟩ rfl hn hsz hst (lv_room hro) hdg hf
theorem nar_c8 : ∀ n : Nat, n < 256 → narrow .char (.int (iv (n : Int))) = .int (iv (n : Int)) := by decide +kernel
theorem i2c_8 : ∀ n : Nat, n < 256 → ((iv (n : Int)).toUInt32 % 65536).toInt32 = iv (n : Int) := by decide +kernel
theorem sCret {Qc : Int → sS → Prop} (Cx : sC G p m c cc nL s args own) (hr : meth.sig.returnType = some .char) (hlk : meth.locks = false) (hW : sW G n S H) (hL : sL G locs) {v : Int} (hn : 0 ≤ v ∧ v ≤ 255) (hp : Qc v S) (hdg : decode cc pc = .ok (.ireturn, 1)) : W p l e R s m args below meth c H locs cells slots (MQ below (sQi G n Qc) args s cells slots (sF G)) (F0 m pc ls [.int (iv v)]) :=
  W.zret Cx.1.1 Cx.1.2.1 hr (by have e : v = ((v.toNat : Nat) : Int) := by omega
                                rw [e]; exact nar_c8 v.toNat (by omega)) (fun t ht _ => ⟨v, S, rfl, hp, by rw [ht]; exact hW⟩) hL hdg hlk
theorem sByret {Qc : Int → sS → Prop} (Cx : sC G p m c cc nL s args own) (hr : meth.sig.returnType = some .byte) (hlk : meth.locks = false) (hW : sW G n S H) (hL : sL G locs) {v : Int} (hn : -128 ≤ v ∧ v ≤ 127) (hp : Qc v S) (hdg : decode cc pc = .ok (.ireturn, 1)) : W p l e R s m args below meth c H locs cells slots (MQ below (sQi G n Qc) args s cells slots (sF G)) (F0 m pc ls [.int (iv v)]) :=
  W.zret Cx.1.1 Cx.1.2.1 hr (nar_b hn.1 hn.2) (fun t ht _ => ⟨v, S, rfl, hp, by rw [ht]; exact hW⟩) hL hdg hlk
theorem r_i2c (hx : p.tables.exec = Jvm.exec) (hb : c.code = cc) {a : Int} (ha : 0 ≤ a ∧ a ≤ 255) (hdg : decode cc pc = .ok (.i2c, 1)) (kk : W p l e R s m args below meth c H locs cells slots Q (F0 m (pc + 1) ls (.int (iv a) :: rest))) : W p l e R s m args below meth c H locs cells slots Q (F0 m pc ls (.int (iv a) :: rest)) :=
  lv_i2c hx hb hdg (by have e : a = ((a.toNat : Nat) : Int) := by omega
                       rw [e]; exact i2c_8 a.toNat (by omega)) kk
theorem shr0 {a : Int} (ha : 0 ≤ a ∧ a ≤ 127) : iv a >>> (iv 0 &&& 31) = iv a := by
  have : ∀ n : Nat, n < 128 → iv (n : Int) >>> (iv 0 &&& 31) = iv (n : Int) := by decide +kernel
  have e : a = ((a.toNat : Nat) : Int) := by omega
  rw [e]; exact this a.toNat (by omega)
theorem r_ishr0 (hx : p.tables.exec = Jvm.exec) (hb : c.code = cc) {a : Int} (ha : 0 ≤ a ∧ a ≤ 127) (hdg : decode cc pc = .ok (.ishr, 1)) (kk : W p l e R s m args below meth c H locs cells slots Q (F0 m (pc + 1) ls (.int (iv a) :: rest))) : W p l e R s m args below meth c H locs cells slots Q (F0 m pc ls (.int (iv 0) :: .int (iv a) :: rest)) := by
  refine lv_ishr hx hb hdg ?_
  rw [shr0 ha]
  exact kk
/-- a String constant as an answer -/
def sQs (G : sG) (n : Nat) (post : Nat → sS → Prop) : Array Value → State → Outcome → State → Prop := fun _ _ oc t => ∃ (r : Nat) (u : sS), oc = .returned (some (.ref (G.1.2 100 r))) ∧ post r u ∧ sW G n u t.heap
theorem sSret {rt : String} {Qc : Nat → sS → Prop} (Cx : sC G p m c cc nL s args own) (hr : meth.sig.returnType = some (.object rt)) (hlk : meth.locks = false) (hW : sW G n S H) (hL : sL G locs) {v : Nat} (hp : Qc v S) (hdg : decode cc pc = .ok (.areturn, 1)) : W p l e R s m args below meth c H locs cells slots (MQ below (sQs G n Qc) args s cells slots (sF G)) (F0 m pc ls [.ref (G.1.2 100 v)]) :=
  W.aret Cx.1.1 Cx.1.2.1 hr (Or.inl ⟨_, rfl⟩) (Or.inr ⟨_, rfl⟩) (fun t ht _ => ⟨v, S, rfl, hp, by rw [ht]; exact hW⟩) hL hdg hlk
theorem sBs {n' : Nat} {aa : Array Value} {post : Nat → sS → Prop} (hr : va_Run p l e R s m args below meth c H locs cells slots mc ms (F0 m pc ls st0) rest (sQs G n' post aa) (sF G)) (hL : sL G locs)
    (kk : ∀ (r : Nat) (u : sS) (H1 : Heap) (locs1 : List Loc), post r u → sW G n' u H1 → sL G locs1 → W p l e R s m args below meth c H1 locs1 (cells + mc) (slots + ms) Q (F0 m (pc + 3) ls (.ref (G.1.2 100 r) :: rest))) : W p l e R s m args below meth c H locs cells slots Q (F0 m pc ls st0) := by
  intro T hT X
  obtain ⟨v, st₀, t, T', L, h0, X', hLf, e1, e2, ⟨r, u, hv, hp, hw⟩, st⟩ := hr T hT X
  cases hv
  obtain ⟨t2, a1, b1⟩ := kk r u T'.heap (locs ++ L) hp (by rw [e1]; exact hw) (sL_app hL hLf) T' rfl X'
  exact ⟨t2, st t2 a1, b1⟩
end STR
set_option maxRecDepth 100000 in
set_option maxHeartbeats 4000000 in
theorem s_J0_isLatin1_aae02 (l : Launch) (G : sG) (S : sS) {si : Nat} (hsi : si < 38) : Met l yJ0_isLatin1_aae02 (.code yJ0_isLatin1_aae02 cJ0_isLatin1_aae02 1 (some .boolean) :: tb) (rmk 1 0 0) (sPc G 294 S [.ref (G.1.2 100 si)]) (sQi G 294 (fun r u => u = S ∧ (r = 1))) 0 0 (sF G) := by
  refine sEnterF (by decide) (Nat.le_of_ble_eq_true rfl) ?_
  intro p e s m args below meth c Cx hr hlk hnm hW ls hl
  have Cx : sC G p m c cJ0_isLatin1_aae02 1 s args RJ0 := Cx
  obtain ⟨hx, hb, hml, hown, hts⟩ := id Cx.1
  have hL : sL G [] := sL_nil
  have hl : lv_has ls 1 [(0, .ref (G.1.2 100 si))] := hl
  have hW0 := hW
  refine zCompact Cx hW0 hW hL w_823 dJ0_isLatin1_aae02_0 ?_
  refine r_if_eq (tgt := 17) hx hb ⟨(by omega), (by omega)⟩ dJ0_isLatin1_aae02_3 (by decide) (fun c => absurd c (by omega)) (fun _ => ?_)
  refine lv_aload_n hx hb dJ0_isLatin1_aae02_6 rfl (lv_at hl 0 rfl) ?_
  refine zCoder Cx hW0 hW hL (i := si) hsi w_2803 dJ0_isLatin1_aae02_7 ?_
  refine r_if_ne (tgt := 17) hx hb ⟨(by omega), (by omega)⟩ dJ0_isLatin1_aae02_10 (by decide) (fun c => absurd (by omega) c) (fun _ => ?_)
  refine lv_iconst (v := iv 1) hx hb dJ0_isLatin1_aae02_13 (by decide) ?_
  refine lv_goto (tgt := 18) hx hb dJ0_isLatin1_aae02_14 (by decide) ?_
  exact sZret Cx hr hlk hW hL (by omega) ⟨rfl, (by omega)⟩ dJ0_isLatin1_aae02_18

set_option maxRecDepth 100000 in
set_option maxHeartbeats 4000000 in
theorem s_J0_coder_7d493 (l : Launch) (G : sG) (S : sS) {si : Nat} (hsi : si < 38) : Met l yJ0_coder_7d493 (.code yJ0_coder_7d493 cJ0_coder_7d493 1 (some .byte) :: tb) (rmk 1 0 0) (sPc G 294 S [.ref (G.1.2 100 si)]) (sQi G 294 (fun r u => u = S ∧ (r = 0))) 0 0 (sF G) := by
  refine sEnterF (by decide) (Nat.le_of_ble_eq_true rfl) ?_
  intro p e s m args below meth c Cx hr hlk hnm hW ls hl
  have Cx : sC G p m c cJ0_coder_7d493 1 s args RJ0 := Cx
  obtain ⟨hx, hb, hml, hown, hts⟩ := id Cx.1
  have hL : sL G [] := sL_nil
  have hl : lv_has ls 1 [(0, .ref (G.1.2 100 si))] := hl
  have hW0 := hW
  refine zCompact Cx hW0 hW hL w_823 dJ0_coder_7d493_0 ?_
  refine r_if_eq (tgt := 13) hx hb ⟨(by omega), (by omega)⟩ dJ0_coder_7d493_3 (by decide) (fun c => absurd c (by omega)) (fun _ => ?_)
  refine lv_aload_n hx hb dJ0_coder_7d493_6 rfl (lv_at hl 0 rfl) ?_
  refine zCoder Cx hW0 hW hL (i := si) hsi w_2803 dJ0_coder_7d493_7 ?_
  refine lv_goto (tgt := 14) hx hb dJ0_coder_7d493_10 (by decide) ?_
  exact sByret Cx hr hlk hW hL ⟨(by omega), (by omega)⟩ ⟨rfl, (by omega)⟩ dJ0_coder_7d493_14

set_option maxRecDepth 100000 in
set_option maxHeartbeats 4000000 in
theorem s_J0_length_8abf5 (l : Launch) (G : sG) (S : sS) {si : Nat} (hsi : si < 38) : Met l yJ0_length_8abf5 (.code yJ0_length_8abf5 cJ0_length_8abf5 1 (some .int) :: tb) (rmk 2 0 0) (sPc G 294 S [.ref (G.1.2 100 si)]) (sQi G 294 (fun r u => u = S ∧ (r = (strN.getD si 0 : Nat) ∧ 0 ≤ r ∧ r ≤ 70))) 0 0 (sF G) := by
  refine sEnterF (by decide) (Nat.le_of_ble_eq_true rfl) ?_
  intro p e s m args below meth c Cx hr hlk hnm hW ls hl
  have Cx : sC G p m c cJ0_length_8abf5 1 s args RJ0 := Cx
  obtain ⟨hx, hb, hml, hown, hts⟩ := id Cx.1
  have hL : sL G [] := sL_nil
  have hl : lv_has ls 1 [(0, .ref (G.1.2 100 si))] := hl
  have hW0 := hW
  have hnr := strN_r si hsi
  refine lv_aload_n hx hb dJ0_length_8abf5_0 rfl (lv_at hl 0 rfl) ?_
  refine zValue Cx hW0 hW hL (i := si) hsi w_2804 dJ0_length_8abf5_1 ?_
  refine zLen Cx hW0 hW hL (i := si) hsi dJ0_length_8abf5_4 ?_
  refine lv_aload_n hx hb dJ0_length_8abf5_5 rfl (lv_at hl 0 rfl) ?_
  refine sBi (sVz (As := []) (rest := [.int (iv (((strN.getD si 0 : Nat) : Int)))]) (a := G.1.2 100 si) Cx (s_J0_coder_7d493 l G S (si := si) hsi) (c_J0_335 Cx rfl rfl (rmk_ok (by omega) (by decide))) hW (zRecv Cx hW0 hW hsi) rfl hl.1 rfl (Nat.le_of_ble_eq_true rfl) dJ0_length_8abf5_6 ⟨Nat.le_of_ble_eq_true rfl, Nat.le_of_ble_eq_true rfl⟩) hL (fun r_3 u_1 H locs k_2 hW hL => ?_)
  obtain ⟨eu_1, xu_1⟩ := k_2
  rw [eu_1] at hW
  rw [xu_1]
  refine r_ishr0 hx hb ⟨(by omega), (by omega)⟩ dJ0_length_8abf5_9 ?_
  exact sIret Cx hr hlk hW hL ⟨rfl, (by omega)⟩ dJ0_length_8abf5_10

set_option maxRecDepth 100000 in
set_option maxHeartbeats 4000000 in
theorem s_J3_checkIndex_n (l : Launch) (G : sG) (S : sS) {k n : Int}  (hk : 0 ≤ k ∧ k < n ∧ n ≤ 2147483647) : Met l yJ3_checkIndex_8e157 (.code yJ3_checkIndex_8e157 cJ3_checkIndex_8e157 3 (some .int) :: tb) (rmk 1 0 0) (sPc G 294 S [.int (iv k), .int (iv n), .null]) (sQi G 294 (fun r u => u = S ∧ (-2147483648 ≤ r ∧ r ≤ 2147483647))) 0 0 (sF G) := by
  refine sEnterF (by decide) (Nat.le_of_ble_eq_true rfl) ?_
  intro p e s m args below meth c Cx hr hlk hnm hW ls hl
  have Cx : sC G p m c cJ3_checkIndex_8e157 3 s args RJ3 := Cx
  obtain ⟨hx, hb, hml, hown, hts⟩ := id Cx.1
  have hL : sL G [] := sL_nil
  have hl : lv_has ls 3 [(0, .int (iv k)), (1, .int (iv n)), (2, .null)] := hl
  have hW0 := hW
  refine lv_iload_n hx hb dJ3_checkIndex_8e157_0 rfl (lv_at hl 0 rfl) ?_
  refine r_if_lt (tgt := 9) hx hb ⟨(by omega), (by omega)⟩ dJ3_checkIndex_8e157_1 (by decide) (fun c => absurd c (by omega)) (fun _ => ?_)
  refine lv_iload_n hx hb dJ3_checkIndex_8e157_4 rfl (lv_at hl 0 rfl) ?_
  refine lv_iload_n hx hb dJ3_checkIndex_8e157_5 rfl (lv_at hl 1 rfl) ?_
  refine r_icmp_lt (tgt := 16) hx hb ⟨(by omega), (by omega)⟩ ⟨(by omega), (by omega)⟩ dJ3_checkIndex_8e157_6 (by decide) (fun _ => ?_) (fun c => absurd (by omega) c)
  refine lv_iload_n hx hb dJ3_checkIndex_8e157_16 rfl (lv_at hl 0 rfl) ?_
  exact sIret Cx hr hlk hW hL ⟨rfl, (by omega)⟩ dJ3_checkIndex_8e157_17

set_option maxRecDepth 100000 in
set_option maxHeartbeats 4000000 in
theorem s_J3_checkIndex_r (l : Launch) (G : sG) (S : sS) {k n : Int} {fa : Nat} (hk : 0 ≤ k ∧ k < n ∧ n ≤ 2147483647) : Met l yJ3_checkIndex_8e157 (.code yJ3_checkIndex_8e157 cJ3_checkIndex_8e157 3 (some .int) :: tb) (rmk 1 0 0) (sPc G 294 S [.int (iv k), .int (iv n), .ref fa]) (sQi G 294 (fun r u => u = S ∧ (-2147483648 ≤ r ∧ r ≤ 2147483647))) 0 0 (sF G) := by
  refine sEnterF (by decide) (Nat.le_of_ble_eq_true rfl) ?_
  intro p e s m args below meth c Cx hr hlk hnm hW ls hl
  have Cx : sC G p m c cJ3_checkIndex_8e157 3 s args RJ3 := Cx
  obtain ⟨hx, hb, hml, hown, hts⟩ := id Cx.1
  have hL : sL G [] := sL_nil
  have hl : lv_has ls 3 [(0, .int (iv k)), (1, .int (iv n)), (2, .ref fa)] := hl
  have hW0 := hW
  refine lv_iload_n hx hb dJ3_checkIndex_8e157_0 rfl (lv_at hl 0 rfl) ?_
  refine r_if_lt (tgt := 9) hx hb ⟨(by omega), (by omega)⟩ dJ3_checkIndex_8e157_1 (by decide) (fun c => absurd c (by omega)) (fun _ => ?_)
  refine lv_iload_n hx hb dJ3_checkIndex_8e157_4 rfl (lv_at hl 0 rfl) ?_
  refine lv_iload_n hx hb dJ3_checkIndex_8e157_5 rfl (lv_at hl 1 rfl) ?_
  refine r_icmp_lt (tgt := 16) hx hb ⟨(by omega), (by omega)⟩ ⟨(by omega), (by omega)⟩ dJ3_checkIndex_8e157_6 (by decide) (fun _ => ?_) (fun c => absurd (by omega) c)
  refine lv_iload_n hx hb dJ3_checkIndex_8e157_16 rfl (lv_at hl 0 rfl) ?_
  exact sIret Cx hr hlk hW hL ⟨rfl, (by omega)⟩ dJ3_checkIndex_8e157_17

set_option maxRecDepth 100000 in
set_option maxHeartbeats 4000000 in
theorem s_J0_checkIndex_df160 (l : Launch) (G : sG) (S : sS) {k n : Int} (hk : 0 ≤ k ∧ k < n ∧ n ≤ 2147483647) : Met l yJ0_checkIndex_df160 (.code yJ0_checkIndex_df160 cJ0_checkIndex_df160 2 none :: tb) (rmk 2 0 0) (sPc G 294 S [.int (iv k), .int (iv n)]) (sQv G 294 (fun u => u = S)) 0 0 (sF G) := by
  refine sEnterF (by decide) (Nat.le_of_ble_eq_true rfl) ?_
  intro p e s m args below meth c Cx hr hlk hnm hW ls hl
  have Cx : sC G p m c cJ0_checkIndex_df160 2 s args RJ0 := Cx
  obtain ⟨hx, hb, hml, hown, hts⟩ := id Cx.1
  have hL : sL G [] := sL_nil
  have hl : lv_has ls 2 [(0, .int (iv k)), (1, .int (iv n))] := hl
  have hW0 := hW
  refine lv_iload_n hx hb dJ0_checkIndex_df160_0 rfl (lv_at hl 0 rfl) ?_
  refine lv_iload_n hx hb dJ0_checkIndex_df160_1 rfl (lv_at hl 1 rfl) ?_
  refine zFmt Cx hW0 hW hL w_862 dJ0_checkIndex_df160_2 ?_ (fun fa => ?_)
  · refine sBi (sSt (As := [.int (iv k), .int (iv n), .null]) (rest := []) Cx (s_J3_checkIndex_n l G S (k := k) (n := n) (by omega)) (c_J0_1059 Cx rfl rfl (rmk_ok (by omega) (by decide))) hW rfl hl.1 rfl (Nat.le_of_ble_eq_true rfl) dJ0_checkIndex_df160_5 ⟨Nat.le_of_ble_eq_true rfl, Nat.le_of_ble_eq_true rfl⟩) hL (fun r_3 u_1 H locs k_2 hW hL => ?_)
    obtain ⟨eu_1, xu_1⟩ := k_2
    rw [eu_1] at hW
    refine lv_pop hx hb dJ0_checkIndex_df160_8 rfl ?_
    exact sVret Cx hr hlk hW hL rfl dJ0_checkIndex_df160_9
  · refine sBi (sSt (As := [.int (iv k), .int (iv n), .ref fa]) (rest := []) Cx (s_J3_checkIndex_r l G S (k := k) (n := n) (fa := fa) (by omega)) (c_J0_1059 Cx rfl rfl (rmk_ok (by omega) (by decide))) hW rfl hl.1 rfl (Nat.le_of_ble_eq_true rfl) dJ0_checkIndex_df160_5 ⟨Nat.le_of_ble_eq_true rfl, Nat.le_of_ble_eq_true rfl⟩) hL (fun r_6 u_4 H locs k_5 hW hL => ?_)
    obtain ⟨eu_4, xu_4⟩ := k_5
    rw [eu_4] at hW
    refine lv_pop hx hb dJ0_checkIndex_df160_8 rfl ?_
    exact sVret Cx hr hlk hW hL rfl dJ0_checkIndex_df160_9

set_option maxRecDepth 100000 in
set_option maxHeartbeats 4000000 in
theorem s_J1_charAt_3b067 (l : Launch) (G : sG) (S : sS) {si : Nat} {k : Int} (hsi : si < 38) (hk : 0 ≤ k ∧ k < (strN.getD si 0 : Nat)) : Met l yJ1_charAt_3b067 (.code yJ1_charAt_3b067 cJ1_charAt_3b067 2 (some .char) :: tb) (rmk 3 0 0) (sPc G 294 S [.ref (G.1.2 101 si), .int (iv k)]) (sQi G 294 (fun r u => u = S ∧ (0 ≤ r ∧ r ≤ 255))) 0 0 (sF G) := by
  refine sEnterF (by decide) (Nat.le_of_ble_eq_true rfl) ?_
  intro p e s m args below meth c Cx hr hlk hnm hW ls hl
  have Cx : sC G p m c cJ1_charAt_3b067 2 s args RJ1 := Cx
  obtain ⟨hx, hb, hml, hown, hts⟩ := id Cx.1
  have hL : sL G [] := sL_nil
  have hl : lv_has ls 2 [(0, .ref (G.1.2 101 si)), (1, .int (iv k))] := hl
  have hW0 := hW
  have hnr := strN_r si hsi
  refine lv_iload_n hx hb dJ1_charAt_3b067_0 rfl (lv_at hl 1 rfl) ?_
  refine lv_aload_n hx hb dJ1_charAt_3b067_1 rfl (lv_at hl 0 rfl) ?_
  refine zLen Cx hW0 hW hL (i := si) hsi dJ1_charAt_3b067_2 ?_
  refine sBv (sSt (As := [.int (iv k), .int (iv (((strN.getD si 0 : Nat) : Int)))]) (rest := []) Cx (s_J0_checkIndex_df160 l G S (k := k) (n := ((strN.getD si 0 : Nat) : Int)) (by omega)) (c_J1_9 Cx rfl rfl (rmk_ok (by omega) (by decide))) hW rfl hl.1 rfl (Nat.le_of_ble_eq_true rfl) dJ1_charAt_3b067_3 ⟨Nat.le_of_ble_eq_true rfl, Nat.le_of_ble_eq_true rfl⟩) hL (fun u_1 H locs k_2 hW hL => ?_)
  rw [k_2] at hW
  refine lv_aload_n hx hb dJ1_charAt_3b067_6 rfl (lv_at hl 0 rfl) ?_
  refine lv_iload_n hx hb dJ1_charAt_3b067_7 rfl (lv_at hl 1 rfl) ?_
  refine zByte Cx hW0 hW hL (i := si) hsi ⟨(by omega), (by omega)⟩ dJ1_charAt_3b067_8 (fun z_3 hz_3 kz_3 => ?_)
  refine lv_sipush (v := iv 255) hx hb dJ1_charAt_3b067_9 (by decide) ?_
  refine r_and255e hx hb ⟨(by omega), (by omega)⟩ dJ1_charAt_3b067_12 (fun z_4 hz_4 kz_4 ez_4 => ?_)
  refine r_i2c hx hb ⟨(by omega), (by omega)⟩ dJ1_charAt_3b067_13 ?_
  exact sCret Cx hr hlk hW hL ⟨(by omega), (by omega)⟩ ⟨rfl, (by omega)⟩ dJ1_charAt_3b067_14

set_option maxRecDepth 100000 in
set_option maxHeartbeats 4000000 in
theorem s_J0_charAt_5068e (l : Launch) (G : sG) (S : sS) {si : Nat} {k : Int} (hsi : si < 38) (hk : 0 ≤ k ∧ k < (strN.getD si 0 : Nat)) : Met l yJ0_charAt_5068e (.code yJ0_charAt_5068e cJ0_charAt_5068e 2 (some .char) :: tb) (rmk 4 0 0) (sPc G 294 S [.ref (G.1.2 100 si), .int (iv k)]) (sQi G 294 (fun r u => u = S ∧ (0 ≤ r ∧ r ≤ 255))) 0 0 (sF G) := by
  refine sEnterF (by decide) (Nat.le_of_ble_eq_true rfl) ?_
  intro p e s m args below meth c Cx hr hlk hnm hW ls hl
  have Cx : sC G p m c cJ0_charAt_5068e 2 s args RJ0 := Cx
  obtain ⟨hx, hb, hml, hown, hts⟩ := id Cx.1
  have hL : sL G [] := sL_nil
  have hl : lv_has ls 2 [(0, .ref (G.1.2 100 si)), (1, .int (iv k))] := hl
  have hW0 := hW
  have hnr := strN_r si hsi
  refine lv_aload_n hx hb dJ0_charAt_5068e_0 rfl (lv_at hl 0 rfl) ?_
  refine sBi (sVz (As := []) (rest := []) (a := G.1.2 100 si) Cx (s_J0_isLatin1_aae02 l G S (si := si) hsi) (c_J0_492 Cx rfl rfl (rmk_ok (by omega) (by decide))) hW (zRecv Cx hW0 hW hsi) rfl hl.1 rfl (Nat.le_of_ble_eq_true rfl) dJ0_charAt_5068e_1 ⟨Nat.le_of_ble_eq_true rfl, Nat.le_of_ble_eq_true rfl⟩) hL (fun r_3 u_1 H locs k_2 hW hL => ?_)
  obtain ⟨eu_1, xu_1⟩ := k_2
  rw [eu_1] at hW
  refine r_if_eq (tgt := 16) hx hb ⟨(by omega), (by omega)⟩ dJ0_charAt_5068e_4 (by decide) (fun c => absurd c (by omega)) (fun _ => ?_)
  refine lv_aload_n hx hb dJ0_charAt_5068e_7 rfl (lv_at hl 0 rfl) ?_
  refine zValue Cx hW0 hW hL (i := si) hsi w_2804 dJ0_charAt_5068e_8 ?_
  refine lv_iload_n hx hb dJ0_charAt_5068e_11 rfl (lv_at hl 1 rfl) ?_
  refine sBi (sSt (As := [.ref (G.1.2 101 si), .int (iv k)]) (rest := []) Cx (s_J1_charAt_3b067 l G S (si := si) (k := k) hsi (by omega)) (c_J0_495 Cx rfl rfl (rmk_ok (by omega) (by decide))) hW rfl hl.1 rfl (Nat.le_of_ble_eq_true rfl) dJ0_charAt_5068e_12 ⟨Nat.le_of_ble_eq_true rfl, Nat.le_of_ble_eq_true rfl⟩) hL (fun r_6 u_4 H locs k_5 hW hL => ?_)
  obtain ⟨eu_4, xu_4⟩ := k_5
  rw [eu_4] at hW
  exact sCret Cx hr hlk hW hL ⟨(by omega), (by omega)⟩ ⟨rfl, (by omega)⟩ dJ0_charAt_5068e_15
