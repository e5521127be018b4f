section RF7
variable {p : Program} {l : Launch} {e : Env} {R : Room} {s : State} {m : MethodId} {args : Array Value} {below : List Frame} {meth : Method} {c : Code} {H : Heap} {locs : List Loc} {cells slots : Nat} {Q : State → Prop}
variable {cc : ByteArray} {pc nL : Nat} {ls : Array Slot} {rest st0 : List Value} {G : sG} {n : Nat} {S : sS} {own : String}
theorem sLdcw {T : State} (X : Stand p l e R s m args below meth c T locs cells slots) (hexec : p.tables.exec = Jvm.exec) {own text : String} {index : Nat} {a : Addr} (hown : s.vm.findClass own = some m.cls)
    (hconst : (Cond.stringRef own index text).before args s = true) (hev : (Term.string own index).eval args s none [] s = some (.ref a)) {g : JFrame} (hg : g.method = m) (hdg : decode c.code g.pc = .ok (.ldc_w index, 3)) :
    ∀ target, Steps p.tables e below (T.setTop { g with pc := g.pc + 3, stack := .ref a :: g.stack }) target → Steps p.tables e below (T.setTop g) target := by
  obtain ⟨k, cf, i, a', hk, hcf, hcp, -, hr, hev'⟩ := Cond.stringRef_spec hown hconst
  cases hev.symm.trans hev'
  obtain ⟨k', hk', he⟩ := X.warmed.alike.2.2 _ _ hk
  have hr' : k'.resolved[index]? = some (some (.string a)) := by
    rcases X.warmed.entry hk hk' index with h | ⟨h, -⟩
    · rw [h]; exact hr
    · rw [hr] at h; cases h
  intro target hrest
  subst hg
  jvm_step X.here [hexec, hdg, ldc_w.wp_string (e := e) (s := T) (f := g) X.here.top hk' (by rw [he]; exact hcf) hcp hr']
  exact hrest
theorem zLdcw (Cx : sC G p m c cc nL s args own) {index : Nat} (i : Nat) (hi : i < 38) (hq : (strL.getD i ("", 0, "")).1 = own ∧ (strL.getD i ("", 0, "")).2.1 = index) (hdg : decode cc pc = .ok (.ldc_w index, 3)) (kk : W p l e R s m args below meth c H locs cells slots Q (F0 m (pc + 3) ls (.ref (G.1.2 100 i) :: rest))) : W p l e R s m args below meth c H locs cells slots Q (F0 m pc ls rest) := by
  have h := (Cx.2.2.2.2.2.2 i hi).1
  rw [hq.1, hq.2] at h
  intro T hT X
  obtain ⟨t, a1, b1⟩ := kk T hT X
  exact ⟨t, sLdcw X Cx.1.1 Cx.1.2.2.2.1 h.1 h.2 (g := F0 m pc ls rest) rfl (by rw [Cx.1.2.1]; exact hdg) t a1, b1⟩
end RF7
theorem NO.abs {S : sS} {a : Nat} {p L z : Int} (h : NO (S.2.1 a) p L) (hz : (0 ≤ S.2.1 a p → z = S.2.1 a p) ∧ (S.2.1 a p ≤ 0 → z = -(S.2.1 a p))) : NO ((uA S a p z).2.1 a) p L ∧ nv ((uA S a p z).2.1 a) p = nu (S.2.1 a) p := by
  have v := nv_abs h
  have g := h.sgn
  rcases (by omega : S.2.1 a p < 0 ∨ 0 ≤ S.2.1 a p) with q | q
  · rw [hz.2 (by omega)]
    exact ⟨h.neg.1, by rw [h.neg.2]; omega⟩
  · rw [hz.1 q]
    have e : (uA S a p (S.2.1 a p)).2.1 a = S.2.1 a := funext fun j => by
      rw [uA_get]; split
      · rename_i w; rw [w.2]
      · rfl
    rw [e]; exact ⟨h, by omega⟩
theorem NO.less {f g : Int → Int} {p q L M : Int} (h : NO f p L) (k : NO g q M) (h0 : 0 ≤ nv f p) (hl : nv f p < nv g q) : NO f p M := by
  have a := nv_abs h
  have b := nv_abs k
  have c := k.nul
  have e := h.lim (n := (al g q).toNat) (by omega)
  exact ⟨by have := k.1; have := al_0 g q; omega, h.2⟩
set_option maxRecDepth 100000 in
set_option maxHeartbeats 4000000 in
theorem s_X12_cell (l : Launch) (G : sG) (S : sS) {i j : Int} (hi : -100 ≤ i ∧ i ≤ 100) (hj : -100 ≤ j ∧ j ≤ 100) : Met l yX12_cell (.code yX12_cell cX12_cell 3 (some .int) :: tb) (rmk 1 0 0) (sPc G 294 S [.ref (G.2.2.1 + 231), .int (iv i), .int (iv j)]) (sQi G 294 (fun r u => u = S ∧ (r = 8 * (15 * i + j)))) 0 0 (sF G) := by
  refine sEnter (by decide) (Nat.le_of_ble_eq_true rfl) ?_
  intro p e s m args below meth c Cx hr hlk hnm hW ls hl
  have Cx : sC G p m c cX12_cell 3 s args RX12 := Cx
  obtain ⟨hx, hb, hml, hown, hts⟩ := id Cx.1
  have hL : sL G [] := sL_nil
  have hl : lv_has ls 3 [(0, .ref (G.2.2.1 + 231)), (1, .int (iv i)), (2, .int (iv j))] := hl
  have hW0 := hW
  refine lv_bipush (v := iv 8) hx hb dX12_cell_0 (by decide) ?_
  refine lv_bipush (v := iv 15) hx hb dX12_cell_2 (by decide) ?_
  refine lv_iload_n hx hb dX12_cell_4 rfl (lv_at hl 1 rfl) ?_
  refine r_imul hx hb dX12_cell_5 ?_
  refine lv_iload_n hx hb dX12_cell_6 rfl (lv_at hl 2 rfl) ?_
  refine r_iadd hx hb dX12_cell_7 ?_
  refine r_imul hx hb dX12_cell_8 ?_
  exact sIret Cx hr hlk hW hL ⟨rfl, (by omega)⟩ dX12_cell_9

set_option maxRecDepth 100000 in
set_option maxHeartbeats 4000000 in
theorem s_X12_rowCell (l : Launch) (G : sG) (S : sS) {i j : Int} (hi : -100 ≤ i ∧ i ≤ 100) (hj : -100 ≤ j ∧ j ≤ 100) : Met l yX12_rowCell (.code yX12_rowCell cX12_rowCell 2 (some .int) :: tb) (rmk 1 0 0) (sPc G 294 S [.int (iv i), .int (iv j)]) (sQi G 294 (fun r u => u = S ∧ (r = 8 * (13 * i + j)))) 0 0 (sF G) := by
  refine sEnter (by decide) (Nat.le_of_ble_eq_true rfl) ?_
  intro p e s m args below meth c Cx hr hlk hnm hW ls hl
  have Cx : sC G p m c cX12_rowCell 2 s args RX12 := Cx
  obtain ⟨hx, hb, hml, hown, hts⟩ := id Cx.1
  have hL : sL G [] := sL_nil
  have hl : lv_has ls 2 [(0, .int (iv i)), (1, .int (iv j))] := hl
  have hW0 := hW
  refine lv_bipush (v := iv 8) hx hb dX12_rowCell_0 (by decide) ?_
  refine lv_bipush (v := iv 13) hx hb dX12_rowCell_2 (by decide) ?_
  refine lv_iload_n hx hb dX12_rowCell_4 rfl (lv_at hl 0 rfl) ?_
  refine r_imul hx hb dX12_rowCell_5 ?_
  refine lv_iload_n hx hb dX12_rowCell_6 rfl (lv_at hl 1 rfl) ?_
  refine r_iadd hx hb dX12_rowCell_7 ?_
  refine r_imul hx hb dX12_rowCell_8 ?_
  exact sIret Cx hr hlk hW hL ⟨rfl, (by omega)⟩ dX12_rowCell_9

set_option maxRecDepth 100000 in
set_option maxHeartbeats 4000000 in
theorem s_X12_heldCell (l : Launch) (G : sG) (S : sS) {i j : Int} (hi : -100 ≤ i ∧ i ≤ 100) (hj : -100 ≤ j ∧ j ≤ 100) : Met l yX12_heldCell (.code yX12_heldCell cX12_heldCell 3 (some .int) :: tb) (rmk 1 0 0) (sPc G 294 S [.ref (G.2.2.1 + 231), .int (iv i), .int (iv j)]) (sQi G 294 (fun r u => u = S ∧ (r = 10 * (13 * i + j)))) 0 0 (sF G) := by
  refine sEnter (by decide) (Nat.le_of_ble_eq_true rfl) ?_
  intro p e s m args below meth c Cx hr hlk hnm hW ls hl
  have Cx : sC G p m c cX12_heldCell 3 s args RX12 := Cx
  obtain ⟨hx, hb, hml, hown, hts⟩ := id Cx.1
  have hL : sL G [] := sL_nil
  have hl : lv_has ls 3 [(0, .ref (G.2.2.1 + 231)), (1, .int (iv i)), (2, .int (iv j))] := hl
  have hW0 := hW
  refine lv_bipush (v := iv 10) hx hb dX12_heldCell_0 (by decide) ?_
  refine lv_bipush (v := iv 13) hx hb dX12_heldCell_2 (by decide) ?_
  refine lv_iload_n hx hb dX12_heldCell_4 rfl (lv_at hl 1 rfl) ?_
  refine r_imul hx hb dX12_heldCell_5 ?_
  refine lv_iload_n hx hb dX12_heldCell_6 rfl (lv_at hl 2 rfl) ?_
  refine r_iadd hx hb dX12_heldCell_7 ?_
  refine r_imul hx hb dX12_heldCell_8 ?_
  exact sIret Cx hr hlk hW hL ⟨rfl, (by omega)⟩ dX12_heldCell_9

set_option maxRecDepth 100000 in
set_option maxHeartbeats 4000000 in
theorem s_X12_asLong (l : Launch) (G : sG) (S : sS) {ka Nka : Nat} {po La : Int} (hI : dX G S) (hika : ia ka Nka) (hR : (0 ≤ po ∧ po + La < Nka) ∧ La ≤ 62) (hA : NO (S.2.1 ka) po La) : Met l yX12_asLong (.code yX12_asLong cX12_asLong 6 (some .long) :: tb) (rmk 3 0 0) (sPc G 294 S [.ref (G.2.2.1 + 231), .ref (G.2.2.1 + ka), .int (iv po)]) (sQl G 294 (fun r u => u = S ∧ (-9223372036854775808 ≤ r ∧ r ≤ 9223372036854775807))) 0 0 (sF G) := by
  refine sEnter (by decide) (Nat.le_of_ble_eq_true rfl) ?_
  intro p e s m args below meth c Cx hr hlk hnm hW ls hl
  have Cx : sC G p m c cX12_asLong 6 s args RX12 := Cx
  obtain ⟨hx, hb, hml, hown, hts⟩ := id Cx.1
  have hL : sL G [] := sL_nil
  have hl : lv_has ls 6 [(0, .ref (G.2.2.1 + 231)), (1, .ref (G.2.2.1 + ka)), (2, .int (iv po))] := hl
  have hW0 := hW
  have hN := hika.2.2.2.1
  have hA1 := hA.b
  have hA0 := hA.1
  have hAn := al_0 (S.2.1 ka) po
  refine lv_lconst (v := jv 0) hx hb dX12_asLong_0 (by decide) ?_
  refine lv_lstore_n (lv' := [(3, .long (jv 0)), (0, .ref (G.2.2.1 + 231)), (1, .ref (G.2.2.1 + ka)), (2, .int (iv po))]) hx hb dX12_asLong_1 rfl hl (by decide) rfl (fun ls hl => ?_)
  refine lv_aload_n hx hb dX12_asLong_2 rfl (lv_at hl 2 rfl) ?_
  refine lv_iload_n hx hb dX12_asLong_3 rfl (lv_at hl 3 rfl) ?_
  refine sBi (sSt (As := [.ref (G.2.2.1 + ka), .int (iv po)]) (rest := []) Cx (s_X12_limbs l G S (ka := ka) (po := po) (Nka := Nka) hI hika (by omega) (by omega)) (c_X12_221 Cx rfl rfl (rmk_ok (by omega) (by decide))) hW rfl hl.1 rfl (Nat.le_of_ble_eq_true rfl) dX12_asLong_4 ⟨Nat.le_of_ble_eq_true rfl, Nat.le_of_ble_eq_true rfl⟩) hL (fun n u_1 H locs k_2 hW hL => ?_)
  obtain ⟨eu_1, xu_1⟩ := k_2
  rw [eu_1] at hW
  refine lv_istore (lv' := [(5, .int (iv n)), (3, .long (jv 0)), (0, .ref (G.2.2.1 + 231)), (1, .ref (G.2.2.1 + ka)), (2, .int (iv po))]) hx hb dX12_asLong_7 hl (by decide) rfl (fun ls hl => ?_)
  have loop_9 : ∀ (fuel : Nat) (k : Int) (v : Int) (H : Heap) (locs : List Loc) (ls : Array Slot), k.toNat < fuel → (0 ≤ k ∧ k ≤ n) → (-9223372036854775808 ≤ v ∧ v ≤ 9223372036854775807) → sW G 294 S H → sL G locs → lv_has ls 6 [(5, .int (iv k)), (3, .long (jv v)), (0, .ref (G.2.2.1 + 231)), (1, .ref (G.2.2.1 + ka)), (2, .int (iv po))] → W p l e (rmk 3 0 0) s m args below meth c H locs 0 0 (MQ below (sQl G 294 (fun r u => u = S ∧ (-9223372036854775808 ≤ r ∧ r ≤ 9223372036854775807))) args s 0 0 (sF G)) (F0 m 9 ls []) := by
    intro fuel
    induction fuel with
    | zero => intro k v H locs ls hmeas hk hv hW hL hl; exact absurd hmeas (Nat.not_lt_zero _)
    | succ fuel ih_9 =>
      intro k v H locs ls hmeas hk hv hW hL hl
      refine lv_iload hx hb dX12_asLong_9 (lv_at hl 0 rfl) ?_
      refine r_if_le (tgt := 34) hx hb ⟨(by omega), (by omega)⟩ dX12_asLong_11 (by decide) (fun c_3 => ?_) (fun c_3 => ?_)
      · refine lv_aload_n hx hb dX12_asLong_34 rfl (lv_at hl 3 rfl) ?_
        refine lv_iload_n hx hb dX12_asLong_35 rfl (lv_at hl 4 rfl) ?_
        refine rIald Cx hW (k := ka) hika.lt hika.1 (by omega) (by omega) (by omega) dX12_asLong_36 ?_
        have q_4 : (-2147483648) ≤ S.2.1 ka po ∧ S.2.1 ka po ≤ 2147483647 := hI.aj hika.ge po
        refine r_i (b := S.2.1 ka po) rfl ?_
        refine r_if_ge (tgt := 45) hx hb ⟨(by omega), (by omega)⟩ dX12_asLong_37 (by decide) (fun c_5 => ?_) (fun c_5 => ?_)
        · refine lv_lload_n hx hb dX12_asLong_45 rfl (lv_at hl 1 rfl) ?_
          exact sLret Cx hr hlk hW hL ⟨rfl, (by omega)⟩ dX12_asLong_46
        · refine lv_lload_n hx hb dX12_asLong_40 rfl (lv_at hl 1 rfl) ?_
          refine r_lneg hx hb dX12_asLong_41 ?_
          obtain ⟨z_6, ez_6, hz_6, kz_6⟩ := jv_of (jv (-v))
          rw [ez_6]
          refine lv_goto (tgt := 46) hx hb dX12_asLong_42 (by decide) ?_
          exact sLret Cx hr hlk hW hL ⟨rfl, (by omega)⟩ dX12_asLong_46
      · refine lv_lload_n hx hb dX12_asLong_14 rfl (lv_at hl 1 rfl) ?_
        refine lv_ldc2 hx hb hown (hts _ w_2464) dX12_asLong_15 ?_
        refine r_lmul hx hb dX12_asLong_18 ?_
        obtain ⟨z_7, ez_7, hz_7, kz_7⟩ := jv_of (jv (v * 1000000000))
        rw [ez_7]
        refine lv_aload_n hx hb dX12_asLong_19 rfl (lv_at hl 3 rfl) ?_
        refine lv_iload_n hx hb dX12_asLong_20 rfl (lv_at hl 4 rfl) ?_
        refine lv_iload hx hb dX12_asLong_21 (lv_at hl 0 rfl) ?_
        refine r_iadd hx hb dX12_asLong_23 ?_
        refine rIald Cx hW (k := ka) hika.lt hika.1 (by omega) (by omega) (by omega) dX12_asLong_24 ?_
        have q_8 : (-2147483648) ≤ S.2.1 ka (po + k) ∧ S.2.1 ka (po + k) ≤ 2147483647 := hI.aj hika.ge (po + k)
        refine r_i (b := S.2.1 ka (po + k)) rfl ?_
        refine r_i2l hx hb ⟨(by omega), (by omega)⟩ dX12_asLong_25 ?_
        refine r_ladd hx hb dX12_asLong_26 ?_
        obtain ⟨z_9, ez_9, hz_9, kz_9⟩ := jv_of (jv (z_7 + (S.2.1 ka (po + k))))
        rw [ez_9]
        refine lv_lstore_n (lv' := [(3, .long (jv z_9)), (5, .int (iv k)), (0, .ref (G.2.2.1 + 231)), (1, .ref (G.2.2.1 + ka)), (2, .int (iv po))]) hx hb dX12_asLong_27 rfl hl (by decide) rfl (fun ls hl => ?_)
        refine lv_iinc (v := iv (k + (-1))) (lv' := [(5, .int (iv (k + (-1)))), (3, .long (jv z_9)), (0, .ref (G.2.2.1 + 231)), (1, .ref (G.2.2.1 + ka)), (2, .int (iv po))]) hx hb dX12_asLong_28 hl (k := 1) rfl ((Int32.ofInt_add _ _).symm) (by decide) rfl (fun ls hl => ?_)
        refine lv_goto (tgt := 9) hx hb dX12_asLong_31 (by decide) ?_
        exact ih_9 (k + (-1)) z_9 _ _ _ (by omega) (by omega) (by omega) hW hL (lv_sub hl [0, 1, 2, 3, 4] rfl)
  exact loop_9 (_ + 1) n 0 _ _ _ (Nat.lt_succ_self _) (by omega) (by omega) hW hL (lv_sub hl [0, 1, 2, 3, 4] rfl)

set_option maxRecDepth 100000 in
set_option maxHeartbeats 4000000 in
theorem s_X12_common (l : Launch) (G : sG) (S : sS) {ka kb Nka Nkb : Nat} {po qo La Lb Lx : Int} (hI : dX G S) (hika : ia ka Nka) (hikb : ia kb Nkb) (nka241 : Hd (ka ≠ 241)) (nkb241 : Hd (kb ≠ 241)) (nkb242 : Hd (kb ≠ 242)) (hR : (0 ≤ po ∧ po + La < Nka) ∧ (0 ≤ qo ∧ qo + Lb < Nkb) ∧ La ≤ Lx ∧ Lb ≤ Lx ∧ 2 ≤ Lx ∧ Lx ≤ 62) (hA : NO (S.2.1 ka) po La) (hB : NO (S.2.1 kb) qo Lb) (hps : Hd (0 < nv (S.2.1 ka) po ∨ 0 < nv (S.2.1 kb) qo)) : Met l yX12_common (.code yX12_common cX12_common 5 none :: tb) (rmk 6 0 0) (sPc G 294 S [.ref (G.2.2.1 + 231), .ref (G.2.2.1 + ka), .int (iv po), .ref (G.2.2.1 + kb), .int (iv qo)]) (sQv G 294 (fun u => dX G u ∧ Fr S u (pl [233, 234, 235, 239, 240, 241, 242]) ∧ FF S u (fl []) ∧ (NO (u.2.1 241) 0 Lx ∧ 0 < nv (u.2.1 241) 0))) 0 0 (sF G) := by
  refine sEnter (by decide) (Nat.le_of_ble_eq_true rfl) ?_
  intro p e s m args below meth c Cx hr hlk hnm hW ls hl
  have Cx : sC G p m c cX12_common 5 s args RX12 := Cx
  obtain ⟨hx, hb, hml, hown, hts⟩ := id Cx.1
  have hL : sL G [] := sL_nil
  have hl : lv_has ls 5 [(0, .ref (G.2.2.1 + 231)), (1, .ref (G.2.2.1 + ka)), (2, .int (iv po)), (3, .ref (G.2.2.1 + kb)), (4, .int (iv qo))] := hl
  have hW0 := hW
  have hN := hika.2.2.2.1
  have hA1 := hA.b
  have hA0 := hA.1
  have hAn := al_0 (S.2.1 ka) po
  have hNb := hikb.2.2.2.1
  have hB1 := hB.b
  have hB0 := hB.1
  refine lv_aload_n hx hb dX12_common_0 rfl (lv_at hl 1 rfl) ?_
  refine lv_iload_n hx hb dX12_common_1 rfl (lv_at hl 2 rfl) ?_
  refine lv_aload_n hx hb dX12_common_2 rfl (lv_at hl 0 rfl) ?_
  refine g_X12_38 Cx hW (k := 231) (by decide) rfl (v := .ref (G.2.2.1 + 241)) (rd_11 hI) dX12_common_3 ?_
  refine lv_iconst (v := iv 0) hx hb dX12_common_6 (by decide) ?_
  refine sBv (sSt (As := [.ref (G.2.2.1 + ka), .int (iv po), .ref (G.2.2.1 + 241), .int (iv 0)]) (rest := []) Cx (s_X12_copy l G S (ka := ka) (po := po) (kb := 241) (qo := 0) (Nka := Nka) (Nkb := 68) (La := La) hI hika ⟨rfl, by decide, by decide, by decide, rfl⟩ (neS nka241) (by omega) hA) (c_X12_233 Cx rfl rfl (rmk_ok (by omega) (by decide))) hW rfl hl.1 rfl (Nat.le_of_ble_eq_true rfl) dX12_common_7 ⟨Nat.le_of_ble_eq_true rfl, Nat.le_of_ble_eq_true rfl⟩) hL (fun u_1 H locs k_2 hW hL => ?_)
  obtain ⟨iu_1, fu_1, xu_1⟩ := k_2
  have F_3 := (Fr.rf : Fr S S (pl [233, 234, 235, 239, 240, 241, 242])).trans (fu_1.to (p1_sub rfl))
  have g_4 : FF S u_1 (fl []) := FF.fr FF.rf fu_1 rfl
  refine lv_aload_n hx hb dX12_common_10 rfl (lv_at hl 3 rfl) ?_
  refine lv_iload hx hb dX12_common_11 (lv_at hl 4 rfl) ?_
  refine lv_aload_n hx hb dX12_common_13 rfl (lv_at hl 0 rfl) ?_
  refine g_X12_41 Cx hW (k := 231) (by decide) rfl (v := .ref (G.2.2.1 + 242)) (rd_12 iu_1) dX12_common_14 ?_
  refine lv_iconst (v := iv 0) hx hb dX12_common_17 (by decide) ?_
  refine sBv (sSt (As := [.ref (G.2.2.1 + kb), .int (iv qo), .ref (G.2.2.1 + 242), .int (iv 0)]) (rest := []) Cx (s_X12_copy l G u_1 (ka := kb) (po := qo) (kb := 242) (qo := 0) (Nka := Nkb) (Nkb := 68) (La := Lb) iu_1 hikb ⟨rfl, by decide, by decide, by decide, rfl⟩ (neS nkb242) (by omega) (by rw [show u_1.2.1 kb = S.2.1 kb from (funext fun j => (fu_1 kb (p1_no (neD nkb241))).2.1 j : u_1.2.1 kb = S.2.1 kb)]; exact hB)) (c_X12_233 Cx rfl rfl (rmk_ok (by omega) (by decide))) hW rfl hl.1 rfl (Nat.le_of_ble_eq_true rfl) dX12_common_18 ⟨Nat.le_of_ble_eq_true rfl, Nat.le_of_ble_eq_true rfl⟩) hL (fun u_5 H locs k_6 hW hL => ?_)
  obtain ⟨iu_5, fu_5, xu_5⟩ := k_6
  have F_7 := F_3.trans (fu_5.to (p1_sub rfl))
  have g_8 : FF S u_5 (fl []) := FF.fr g_4 fu_5 rfl
  have bcf := (xu_1.1.1).b
  have bca := (xu_5.1.1).b
  refine lv_aload_n hx hb dX12_common_21 rfl (lv_at hl 0 rfl) ?_
  refine g_X12_38 Cx hW (k := 231) (by decide) rfl (v := .ref (G.2.2.1 + 241)) (rd_11 iu_5) dX12_common_22 ?_
  refine lv_iconst (v := iv 0) hx hb dX12_common_25 (by decide) ?_
  refine lv_aload_n hx hb dX12_common_26 rfl (lv_at hl 0 rfl) ?_
  refine g_X12_38 Cx hW (k := 231) (by decide) rfl (v := .ref (G.2.2.1 + 241)) (rd_11 iu_5) dX12_common_27 ?_
  refine lv_iconst (v := iv 0) hx hb dX12_common_30 (by decide) ?_
  refine rIald Cx hW (k := 241) (by decide) rfl (by decide) (by omega) (by omega) dX12_common_31 ?_
  have q_9 : (-2147483648) ≤ u_1.2.1 241 0 ∧ u_1.2.1 241 0 ≤ 2147483647 := iu_1.ai 241 0
  refine r_i (b := u_1.2.1 241 0) ((fu_5 241 rfl).2.1 0) ?_
  refine r_abs hx hb (hml.trans hl.1.symm) hown (hts _ w_2487) (hts _ w_1156) (hts _ w_206) (hts _ w_1157) (rmk_f (by omega)) (rmk_l (by omega) (Nat.le_of_ble_eq_true rfl)) (Nat.le_of_ble_eq_true rfl) (Nat.le_of_ble_eq_true rfl) ⟨(by omega), (by omega)⟩ dX12_common_32 (fun z_10 hz_10 => ?_)
  refine rIast Cx hW hL (k := 241) (by decide) rfl (by decide) (by omega) (by omega) dX12_common_35 (fun H locs hW hL => ?_)
  have F_11 : Fr S (uA u_5 241 0 z_10) (pl [233, 234, 235, 239, 240, 241, 242]) := F_7.A rfl
  have i_12 : dX G (uA u_5 241 0 z_10) := iu_5.A (k := 241) (show (-2147483648) ≤ z_10 ∧ z_10 ≤ 2147483647 from ⟨by omega, by omega⟩)
  have acf := NO.abs (S := u_5) (a := 241) (p := 0) (L := La) (z := z_10) (by rw [show u_5.2.1 241 = u_1.2.1 241 from funext fun j => (fu_5 241 rfl).2.1 j]; exact xu_1.1.1) (by have e0 : u_5.2.1 241 0 = u_1.2.1 241 0 := (fu_5 241 rfl).2.1 0; omega)
  refine lv_aload_n hx hb dX12_common_36 rfl (lv_at hl 0 rfl) ?_
  refine g_X12_41 Cx hW (k := 231) (by decide) rfl (v := .ref (G.2.2.1 + 242)) (rd_12 i_12) dX12_common_37 ?_
  refine lv_iconst (v := iv 0) hx hb dX12_common_40 (by decide) ?_
  refine lv_aload_n hx hb dX12_common_41 rfl (lv_at hl 0 rfl) ?_
  refine g_X12_41 Cx hW (k := 231) (by decide) rfl (v := .ref (G.2.2.1 + 242)) (rd_12 i_12) dX12_common_42 ?_
  refine lv_iconst (v := iv 0) hx hb dX12_common_45 (by decide) ?_
  refine rIald Cx hW (k := 242) (by decide) rfl (by decide) (by omega) (by omega) dX12_common_46 ?_
  have q_13 : (-2147483648) ≤ u_5.2.1 242 0 ∧ u_5.2.1 242 0 ≤ 2147483647 := iu_5.ai 242 0
  refine r_i (b := u_5.2.1 242 0) (uA_ne (fun h => absurd h.1 (by decide))) ?_
  refine r_abs hx hb (hml.trans hl.1.symm) hown (hts _ w_2487) (hts _ w_1156) (hts _ w_206) (hts _ w_1157) (rmk_f (by omega)) (rmk_l (by omega) (Nat.le_of_ble_eq_true rfl)) (Nat.le_of_ble_eq_true rfl) (Nat.le_of_ble_eq_true rfl) ⟨(by omega), (by omega)⟩ dX12_common_47 (fun z_14 hz_14 => ?_)
  refine rIast Cx hW hL (k := 242) (by decide) rfl (by decide) (by omega) (by omega) dX12_common_50 (fun H locs hW hL => ?_)
  have F_15 : Fr S (uA (uA u_5 241 0 z_10) 242 0 z_14) (pl [233, 234, 235, 239, 240, 241, 242]) := F_11.A rfl
  have i_16 : dX G (uA (uA u_5 241 0 z_10) 242 0 z_14) := i_12.A (k := 242) (show (-2147483648) ≤ z_14 ∧ z_14 ≤ 2147483647 from ⟨by omega, by omega⟩)
  have aca := NO.abs (S := (uA u_5 241 0 z_10)) (a := 242) (p := 0) (L := Lb) (z := z_14) (by rw [show (uA u_5 241 0 z_10).2.1 242 = u_5.2.1 242 from funext fun j => uA_ne (fun h => absurd h.1 (by decide))]; exact xu_5.1.1) (by have e0 : (uA u_5 241 0 z_10).2.1 242 0 = u_5.2.1 242 0 := uA_ne (fun h => absurd h.1 (by decide)); omega)
  have loop_51 : ∀ (fuel : Nat) (S51 : sS)  (H : Heap) (locs : List Loc) (ls : Array Slot), (nv (S51.2.1 242) 0).toNat < fuel → (dX G S51) → (Fr S S51 (pl [233, 234, 235, 239, 240, 241, 242])) → (Fr ((uA (uA u_5 241 0 z_10) 242 0 z_14)) S51 (pl [233, 234, 235, 239, 240, 241, 242])) → (FF S S51 (fl [])) → (FF ((uA (uA u_5 241 0 z_10) 242 0 z_14)) S51 (fl [])) → (NO (S51.2.1 241) 0 Lx) → (NO (S51.2.1 242) 0 Lx) → (0 ≤ nv (S51.2.1 241) 0 ∧ 0 ≤ nv (S51.2.1 242) 0) → (Hd (0 < nv (S51.2.1 241) 0 ∨ 0 < nv (S51.2.1 242) 0)) → sW G 294 S51 H → sL G locs → lv_has ls 5 [(0, .ref (G.2.2.1 + 231)), (1, .ref (G.2.2.1 + ka)), (2, .int (iv po)), (3, .ref (G.2.2.1 + kb)), (4, .int (iv qo))] → W p l e (rmk 6 0 0) s m args below meth c H locs 0 0 (MQ below (sQv G 294 (fun u => dX G u ∧ Fr S u (pl [233, 234, 235, 239, 240, 241, 242]) ∧ FF S u (fl []) ∧ (NO (u.2.1 241) 0 Lx ∧ 0 < nv (u.2.1 241) 0))) args s 0 0 (sF G)) (F0 m 51 ls []) := by
    intro fuel
    induction fuel with
    | zero => intro S51  H locs ls hmeas hI51 hFm51 hL51_ hGm51 gL51_ hN1 hN2 hge hor hW hL hl; exact absurd hmeas (Nat.not_lt_zero _)
    | succ fuel ih_51 =>
      intro S51  H locs ls hmeas hI51 hFm51 hL51_ hGm51 gL51_ hN1 hN2 hge hor hW hL hl
      refine lv_aload_n hx hb dX12_common_51 rfl (lv_at hl 0 rfl) ?_
      refine g_X12_41 Cx hW (k := 231) (by decide) rfl (v := .ref (G.2.2.1 + 242)) (rd_12 hI51) dX12_common_52 ?_
      refine lv_iconst (v := iv 0) hx hb dX12_common_55 (by decide) ?_
      refine rIald Cx hW (k := 242) (by decide) rfl (by decide) (by omega) (by omega) dX12_common_56 ?_
      have q_17 : (-2147483648) ≤ S51.2.1 242 0 ∧ S51.2.1 242 0 ≤ 2147483647 := hI51.ai 242 0
      refine r_i (b := S51.2.1 242 0) rfl ?_
      refine r_if_eq (tgt := 113) hx hb ⟨(by omega), (by omega)⟩ dX12_common_57 (by decide) (fun c_18 => ?_) (fun c_18 => ?_)
      · exact sVret Cx hr hlk hW hL ⟨hI51, hFm51, hGm51, ⟨hN1, (by have e := hN2.sgn; unfold Hd at hor; omega)⟩⟩ dX12_common_113
      · have hs2 := hN2.sgn
        have hs1 := hN1.sgn
        refine lv_aload_n hx hb dX12_common_60 rfl (lv_at hl 0 rfl) ?_
        refine lv_aload_n hx hb dX12_common_61 rfl (lv_at hl 0 rfl) ?_
        refine g_X12_38 Cx hW (k := 231) (by decide) rfl (v := .ref (G.2.2.1 + 241)) (rd_11 hI51) dX12_common_62 ?_
        refine lv_iconst (v := iv 0) hx hb dX12_common_65 (by decide) ?_
        refine lv_aload_n hx hb dX12_common_66 rfl (lv_at hl 0 rfl) ?_
        refine g_X12_41 Cx hW (k := 231) (by decide) rfl (v := .ref (G.2.2.1 + 242)) (rd_12 hI51) dX12_common_67 ?_
        refine lv_iconst (v := iv 0) hx hb dX12_common_70 (by decide) ?_
        refine lv_aload_n hx hb dX12_common_71 rfl (lv_at hl 0 rfl) ?_
        refine g_X12_32 Cx hW (k := 231) (by decide) rfl (v := .ref (G.2.2.1 + 239)) (rd_9 hI51) dX12_common_72 ?_
        refine lv_iconst (v := iv 0) hx hb dX12_common_75 (by decide) ?_
        refine lv_aload_n hx hb dX12_common_76 rfl (lv_at hl 0 rfl) ?_
        refine g_X12_35 Cx hW (k := 231) (by decide) rfl (v := .ref (G.2.2.1 + 240)) (rd_10 hI51) dX12_common_77 ?_
        refine lv_iconst (v := iv 0) hx hb dX12_common_80 (by decide) ?_
        refine sBv (sV (As := [.ref (G.2.2.1 + 241), .int (iv 0), .ref (G.2.2.1 + 242), .int (iv 0), .ref (G.2.2.1 + 239), .int (iv 0), .ref (G.2.2.1 + 240), .int (iv 0)]) (rest := []) (k := 231) Cx (s_X12_divide l G S51 (ka := 241) (po := 0) (kb := 242) (qo := 0) (kc := 239) (ro := 0) (kd := 240) (eo := 0) (Nka := 68) (Nkb := 68) (Nkc := 68) (Nkd := 68) (La := Lx) (Lb := Lx) (Ld := Lx + 1) hI51 ⟨rfl, by decide, by decide, by decide, rfl⟩ ⟨rfl, by decide, by decide, by decide, rfl⟩ ⟨rfl, by decide, by decide, by decide, rfl⟩ ⟨rfl, by decide, by decide, by decide, rfl⟩ (show (239 : Nat) ≠ 241 by decide) (show (240 : Nat) ≠ 241 by decide) (show (239 : Nat) ≠ 242 by decide) (show (240 : Nat) ≠ 242 by decide) (show (239 : Nat) ≠ 240 by decide) (show (241 : Nat) ≠ 233 by decide) (show (242 : Nat) ≠ 233 by decide) (show (242 : Nat) ≠ 234 by decide) (show (242 : Nat) ≠ 235 by decide) (show (239 : Nat) ≠ 233 by decide) (show (239 : Nat) ≠ 234 by decide) (show (239 : Nat) ≠ 235 by decide) (show (240 : Nat) ≠ 233 by decide) (show (240 : Nat) ≠ 234 by decide) (show (240 : Nat) ≠ 235 by decide) (by omega) (by omega) hN1 hN2) (c_X12_266 Cx rfl rfl (rmk_ok (by omega) (by decide))) hW (by decide) rfl rfl rfl hl.1 rfl (Nat.le_of_ble_eq_true rfl) dX12_common_81 ⟨Nat.le_of_ble_eq_true rfl, Nat.le_of_ble_eq_true rfl⟩) hL (fun u_19 H locs k_20 hW hL => ?_)
        obtain ⟨iu_19, fu_19, xu_19⟩ := k_20
        have F_21 := hFm51.trans (fu_19.to (pl_sub (by decide)))
        have F_22 := hL51_.trans (fu_19.to (pl_sub (by decide)))
        have g_23 : FF S u_19 (fl []) := FF.fr hGm51 fu_19 rfl
        have g_24 : FF ((uA (uA u_5 241 0 z_10) 242 0 z_14)) u_19 (fl []) := FF.fr gL51_ fu_19 rfl
        refine lv_aload_n hx hb dX12_common_84 rfl (lv_at hl 0 rfl) ?_
        refine g_X12_41 Cx hW (k := 231) (by decide) rfl (v := .ref (G.2.2.1 + 242)) (rd_12 iu_19) dX12_common_85 ?_
        refine lv_iconst (v := iv 0) hx hb dX12_common_88 (by decide) ?_
        refine lv_aload_n hx hb dX12_common_89 rfl (lv_at hl 0 rfl) ?_
        refine g_X12_38 Cx hW (k := 231) (by decide) rfl (v := .ref (G.2.2.1 + 241)) (rd_11 iu_19) dX12_common_90 ?_
        refine lv_iconst (v := iv 0) hx hb dX12_common_93 (by decide) ?_
        refine sBv (sSt (As := [.ref (G.2.2.1 + 242), .int (iv 0), .ref (G.2.2.1 + 241), .int (iv 0)]) (rest := []) Cx (s_X12_copy l G u_19 (ka := 242) (po := 0) (kb := 241) (qo := 0) (Nka := 68) (Nkb := 68) (La := Lx) iu_19 ⟨rfl, by decide, by decide, by decide, rfl⟩ ⟨rfl, by decide, by decide, by decide, rfl⟩ (show (241 : Nat) ≠ 242 by decide) (by omega) (by rw [show u_19.2.1 242 = S51.2.1 242 from (funext fun j => (fu_19 242 rfl).2.1 j : u_19.2.1 242 = S51.2.1 242)]; exact hN2)) (c_X12_233 Cx rfl rfl (rmk_ok (by omega) (by decide))) hW rfl hl.1 rfl (Nat.le_of_ble_eq_true rfl) dX12_common_94 ⟨Nat.le_of_ble_eq_true rfl, Nat.le_of_ble_eq_true rfl⟩) hL (fun u_25 H locs k_26 hW hL => ?_)
        obtain ⟨iu_25, fu_25, xu_25⟩ := k_26
        have F_27 := F_21.trans (fu_25.to (p1_sub rfl))
        have F_28 := F_22.trans (fu_25.to (p1_sub rfl))
        have g_29 : FF S u_25 (fl []) := FF.fr g_23 fu_25 rfl
        have g_30 : FF ((uA (uA u_5 241 0 z_10) 242 0 z_14)) u_25 (fl []) := FF.fr g_24 fu_25 rfl
        refine lv_aload_n hx hb dX12_common_97 rfl (lv_at hl 0 rfl) ?_
        refine g_X12_35 Cx hW (k := 231) (by decide) rfl (v := .ref (G.2.2.1 + 240)) (rd_10 iu_25) dX12_common_98 ?_
        refine lv_iconst (v := iv 0) hx hb dX12_common_101 (by decide) ?_
        refine lv_aload_n hx hb dX12_common_102 rfl (lv_at hl 0 rfl) ?_
        refine g_X12_41 Cx hW (k := 231) (by decide) rfl (v := .ref (G.2.2.1 + 242)) (rd_12 iu_25) dX12_common_103 ?_
        refine lv_iconst (v := iv 0) hx hb dX12_common_106 (by decide) ?_
        refine sBv (sSt (As := [.ref (G.2.2.1 + 240), .int (iv 0), .ref (G.2.2.1 + 242), .int (iv 0)]) (rest := []) Cx (s_X12_copy l G u_25 (ka := 240) (po := 0) (kb := 242) (qo := 0) (Nka := 68) (Nkb := 68) (La := Lx) iu_25 ⟨rfl, by decide, by decide, by decide, rfl⟩ ⟨rfl, by decide, by decide, by decide, rfl⟩ (show (242 : Nat) ≠ 240 by decide) (by omega) (by rw [show u_25.2.1 240 = u_19.2.1 240 from (funext fun j => (fu_25 240 rfl).2.1 j : u_25.2.1 240 = u_19.2.1 240)]; exact xu_19.2.1.less hN2 xu_19.2.2.1.2.1 xu_19.2.2.1.2.2)) (c_X12_233 Cx rfl rfl (rmk_ok (by omega) (by decide))) hW rfl hl.1 rfl (Nat.le_of_ble_eq_true rfl) dX12_common_107 ⟨Nat.le_of_ble_eq_true rfl, Nat.le_of_ble_eq_true rfl⟩) hL (fun u_31 H locs k_32 hW hL => ?_)
        obtain ⟨iu_31, fu_31, xu_31⟩ := k_32
        have F_33 := F_27.trans (fu_31.to (p1_sub rfl))
        have F_34 := F_28.trans (fu_31.to (p1_sub rfl))
        have g_35 : FF S u_31 (fl []) := FF.fr g_29 fu_31 rfl
        have g_36 : FF ((uA (uA u_5 241 0 z_10) 242 0 z_14)) u_31 (fl []) := FF.fr g_30 fu_31 rfl
        refine lv_goto (tgt := 51) hx hb dX12_common_110 (by decide) ?_
        exact ih_51 u_31  _ _ _ (by have e1 : nv (u_31.2.1 241) 0 = nv (S51.2.1 242) 0 := (by rw [show u_31.2.1 241 = u_25.2.1 241 from (funext fun j => (fu_31 241 rfl).2.1 j : u_31.2.1 241 = u_25.2.1 241), xu_25.1.2.1, show u_19.2.1 242 = S51.2.1 242 from (funext fun j => (fu_19 242 rfl).2.1 j)]); have e2 : nv (u_31.2.1 242) 0 = nv (u_19.2.1 240) 0 := (by rw [xu_31.1.2.1, show u_25.2.1 240 = u_19.2.1 240 from (funext fun j => (fu_25 240 rfl).2.1 j)]); have e3 := xu_19.2.2.1.2; omega) iu_31 F_33 F_34 g_35 g_36 (by rw [show u_31.2.1 241 = u_25.2.1 241 from (funext fun j => (fu_31 241 rfl).2.1 j : u_31.2.1 241 = u_25.2.1 241)]; exact xu_25.1.1) xu_31.1.1 (by have e1 : nv (u_31.2.1 241) 0 = nv (S51.2.1 242) 0 := (by rw [show u_31.2.1 241 = u_25.2.1 241 from (funext fun j => (fu_31 241 rfl).2.1 j : u_31.2.1 241 = u_25.2.1 241), xu_25.1.2.1, show u_19.2.1 242 = S51.2.1 242 from (funext fun j => (fu_19 242 rfl).2.1 j)]); have e2 : nv (u_31.2.1 242) 0 = nv (u_19.2.1 240) 0 := (by rw [xu_31.1.2.1, show u_25.2.1 240 = u_19.2.1 240 from (funext fun j => (fu_25 240 rfl).2.1 j)]); have e3 := xu_19.2.2.1.2; omega) (by unfold Hd; have e1 : nv (u_31.2.1 241) 0 = nv (S51.2.1 242) 0 := (by rw [show u_31.2.1 241 = u_25.2.1 241 from (funext fun j => (fu_31 241 rfl).2.1 j : u_31.2.1 241 = u_25.2.1 241), xu_25.1.2.1, show u_19.2.1 242 = S51.2.1 242 from (funext fun j => (fu_19 242 rfl).2.1 j)]); have e2 : nv (u_31.2.1 242) 0 = nv (u_19.2.1 240) 0 := (by rw [xu_31.1.2.1, show u_25.2.1 240 = u_19.2.1 240 from (funext fun j => (fu_25 240 rfl).2.1 j)]); have e3 := xu_19.2.2.1.2; omega) hW hL (lv_sub hl [0, 1, 2, 3, 4] rfl)
  exact loop_51 (_ + 1) (uA (uA u_5 241 0 z_10) 242 0 z_14)  _ _ _ (Nat.lt_succ_self _) i_16 F_15 Fr.rf g_8 FF.rf (by rw [show (uA (uA u_5 241 0 z_10) 242 0 z_14).2.1 241 = (uA u_5 241 0 z_10).2.1 241 from funext fun j => uA_ne (fun h => absurd h.1 (by decide))]; exact acf.1.mono (by omega)) (by rw [show (uA (uA u_5 241 0 z_10) 242 0 z_14).2.1 242 = (uA (uA u_5 241 0 z_10) 242 0 z_14).2.1 242 from funext fun j => rfl]; exact aca.1.mono (by omega)) (by rw [show (uA (uA u_5 241 0 z_10) 242 0 z_14).2.1 241 = (uA u_5 241 0 z_10).2.1 241 from funext fun j => uA_ne (fun h => absurd h.1 (by decide)), acf.2]; rw [show (uA (uA u_5 241 0 z_10) 242 0 z_14).2.1 242 = (uA (uA u_5 241 0 z_10) 242 0 z_14).2.1 242 from funext fun j => rfl, aca.2]; rw [show u_5.2.1 241 = u_1.2.1 241 from (funext fun j => (fu_5 241 rfl).2.1 j : u_5.2.1 241 = u_1.2.1 241), show (uA u_5 241 0 z_10).2.1 242 = u_5.2.1 242 from (funext fun j => uA_ne (fun h => absurd h.1 (by decide)) : (uA u_5 241 0 z_10).2.1 242 = u_5.2.1 242)]; have n1 := nv_abs xu_1.1.1; have n2 := nv_abs xu_5.1.1; have m1 := xu_1.1.2.1; have m2 := xu_5.1.2.1; have z1 := (xu_1.1.1).nu0; have z2 := (xu_5.1.1).nu0; rw [show u_1.2.1 kb = S.2.1 kb from funext fun j => (fu_1 kb (p1_no (neD nkb241))).2.1 j] at m2; omega) (by unfold Hd; rw [show (uA (uA u_5 241 0 z_10) 242 0 z_14).2.1 241 = (uA u_5 241 0 z_10).2.1 241 from funext fun j => uA_ne (fun h => absurd h.1 (by decide)), acf.2]; rw [show (uA (uA u_5 241 0 z_10) 242 0 z_14).2.1 242 = (uA (uA u_5 241 0 z_10) 242 0 z_14).2.1 242 from funext fun j => rfl, aca.2]; rw [show u_5.2.1 241 = u_1.2.1 241 from (funext fun j => (fu_5 241 rfl).2.1 j : u_5.2.1 241 = u_1.2.1 241), show (uA u_5 241 0 z_10).2.1 242 = u_5.2.1 242 from (funext fun j => uA_ne (fun h => absurd h.1 (by decide)) : (uA u_5 241 0 z_10).2.1 242 = u_5.2.1 242)]; have n1 := nv_abs xu_1.1.1; have n2 := nv_abs xu_5.1.1; have m1 := xu_1.1.2.1; have m2 := xu_5.1.2.1; have z1 := (xu_1.1.1).nu0; have z2 := (xu_5.1.1).nu0; rw [show u_1.2.1 kb = S.2.1 kb from funext fun j => (fu_1 kb (p1_no (neD nkb241))).2.1 j] at m2; unfold Hd at hps; omega) hW hL (lv_sub hl [0, 1, 2, 3, 4] rfl)
