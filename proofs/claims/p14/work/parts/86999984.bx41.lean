set_option maxRecDepth 100000 in
set_option maxHeartbeats 4000000 in
theorem b_X0_digitAt (l : Launch) (G : sG) (S : sS) {o h : Nat} {a w : Int} (hI : cX G S o 0 0) (ho : tau o = .inl 0) (hh : tau h = .inl 0) (noh : Hd (o ≠ h)) (haw : 0 ≤ a ∧ 2 ≤ w ∧ a + w ≤ 31) (hlead : 500000000 ≤ S.2.1 (h + 1) (w - 1)) (hU : V (S.2.1 (o + 1)) a (w + 1).toNat < 1000000000 * V (S.2.1 (h + 1)) 0 w.toNat) : Met l yX0_digitAt (.code yX0_digitAt cX0_digitAt 18 (some .int) :: tb) (rmk 1 0 0) (sPc G 294 S [.ref (G.2.2.1 + o), .int (iv a), .ref (G.2.2.1 + h), .int (iv w)]) (sQi G 294 (fun r u => cX G u o 0 0 ∧ Fr S u (pB o) ∧ (0 ≤ r ∧ r ≤ 999999999 ∧ u.1 = S.1 ∧ u.2.1 (o + 1) (a + w) = 0 ∧ V (u.2.1 (o + 1)) a w.toNat < V (S.2.1 (h + 1)) 0 w.toNat ∧ (∀ j, j < a ∨ a + w < j → u.2.1 (o + 1) j = S.2.1 (o + 1) j) ∧ Hd (V (S.2.1 (o + 1)) a (w + 1).toNat = r * V (S.2.1 (h + 1)) 0 w.toNat + V (u.2.1 (o + 1)) a w.toNat)))) 0 0 (sF G) := by
  refine sEnter (by decide) (Nat.le_of_ble_eq_true rfl) ?_
  intro p e s m args below meth c Cx hr hlk hnm hW ls hl
  have Cx : sC G p m c cX0_digitAt 18 s args RX0 := Cx
  obtain ⟨hx, hb, hml, hown, hts⟩ := id Cx.1
  have hL : sL G [] := sL_nil
  have hl : lv_has ls 18 [(0, .ref (G.2.2.1 + o)), (1, .int (iv a)), (2, .ref (G.2.2.1 + h)), (3, .int (iv w))] := hl
  have hW0 := hW
  have hv1 := limbR hI hh (w - 1)
  have hv2 := limbR hI hh (w - 2)
  have hu0 := limbR hI ho (a + w)
  have hu1 := limbR hI ho (a + w - 1)
  have hu2 := limbR hI ho (a + w - 2)
  have hP := pw_pos (w - 2).toNat
  have hP1 := pw_pos (w - 1).toNat
  have eV := V_top2 (f := S.2.1 (h + 1)) (s := 0) (w := w) (by omega)
  rw [show (0 : Int) + w - 1 = w - 1 by omega, show (0 : Int) + w - 2 = w - 2 by omega] at eV
  have eU := V_top3 (f := (S.2.1 (o + 1))) (s := a) (w := w) (by omega)
  have hvl := V_lt (f := S.2.1 (h + 1)) (s := 0) (n := (w - 2).toNat) (fun i _ _ => limbR hI hh i)
  have hvl0 := V_0 (f := S.2.1 (h + 1)) (s := 0) (n := (w - 2).toNat) (fun i _ _ => (limbR hI hh i).1)
  have hul := V_lt (f := (S.2.1 (o + 1))) (s := a) (n := (w - 2).toNat) (fun i _ _ => limbR hI ho i)
  have hul0 := V_0 (f := (S.2.1 (o + 1))) (s := a) (n := (w - 2).toNat) (fun i _ _ => (limbR hI ho i).1)
  have hV0 : 0 ≤ V (S.2.1 (h + 1)) 0 w.toNat := V_0 (fun i _ _ => (limbR hI hh i).1)
  have hVP : V (S.2.1 (h + 1)) 0 w.toNat < pw w.toNat := V_lt (fun i _ _ => limbR hI hh i)
  have eV1 := V_topr (f := S.2.1 (h + 1)) (s := 0) (w := w) (by omega)
  rw [show (0 : Int) + w - 1 = w - 1 by omega] at eV1
  have hvl1 := V_lt (f := S.2.1 (h + 1)) (s := 0) (n := (w - 1).toNat) (fun i _ _ => limbR hI hh i)
  have hvl10 := V_0 (f := S.2.1 (h + 1)) (s := 0) (n := (w - 1).toNat) (fun i _ _ => (limbR hI hh i).1)
  have eU1 : V (S.2.1 (o + 1)) a (w + 1).toNat = (S.2.1 (o + 1) (a + w) * 1000000000 + S.2.1 (o + 1) (a + w - 1)) * pw (w - 1).toNat + V (S.2.1 (o + 1)) a (w - 1).toNat := by have q1 := V_stp (f := (S.2.1 (o + 1))) (s := a) (i := w) (by omega); have q2 := V_topr (f := (S.2.1 (o + 1))) (s := a) (w := w) (by omega); have q3 := pw_stp (i := w - 1) (by omega); rw [show w - 1 + 1 = w by omega] at q3; rw [q1, q2, q3]; grind
  have hul1 := V_lt (f := (S.2.1 (o + 1))) (s := a) (n := (w - 1).toNat) (fun i _ _ => limbR hI ho i)
  have hul10 := V_0 (f := (S.2.1 (o + 1))) (s := a) (n := (w - 1).toNat) (fun i _ _ => (limbR hI ho i).1)
  have hU0 : 0 ≤ V (S.2.1 (o + 1)) a (w + 1).toNat := V_0 (fun i _ _ => (limbR hI ho i).1)
  have hu0v : S.2.1 (o + 1) (a + w) ≤ S.2.1 (h + 1) (w - 1) := kn_u0 (U := V (S.2.1 (o + 1)) a (w + 1).toNat) (V := V (S.2.1 (h + 1)) 0 w.toNat) (P := pw (w - 1).toNat) (ul := S.2.1 (o + 1) (a + w - 1) * pw (w - 1).toNat + V (S.2.1 (o + 1)) a (w - 1).toNat) hP1 (by rw [eU1]; grind) (by have := Int.mul_nonneg hu1.1 (Int.le_of_lt hP1); omega) eV1 hvl1 hU
  have hkeep := True.intro
  refine lv_aload_n hx hb dX0_digitAt_0 rfl (lv_at hl 2 rfl) ?_
  refine g_X0_9 Cx hW (k := h) (big_l hh) hh (v := .ref (G.2.2.1 + (h + 1))) (hI.rq.1 h hh) dX0_digitAt_1 ?_
  refine lv_iload_n hx hb dX0_digitAt_4 rfl (lv_at hl 3 rfl) ?_
  refine lv_iconst (v := iv 1) hx hb dX0_digitAt_5 (by decide) ?_
  refine r_isub hx hb dX0_digitAt_6 ?_
  refine rIald Cx hW (k := h + 1) (big_l1 hh) (big_row hh).1 (by decide) (by omega) (by omega) dX0_digitAt_7 ?_
  have q_1 := limbR hI hh (w - 1)
  refine r_i (b := S.2.1 (h + 1) (w - 1)) rfl ?_
  refine r_i2l hx hb ⟨(by omega), (by omega)⟩ dX0_digitAt_8 ?_
  refine lv_lstore (lv' := [(4, .long (jv (S.2.1 (h + 1) (w - 1)))), (0, .ref (G.2.2.1 + o)), (1, .int (iv a)), (2, .ref (G.2.2.1 + h)), (3, .int (iv w))]) hx hb dX0_digitAt_9 hl (by decide) rfl (fun ls hl => ?_)
  refine lv_lload hx hb dX0_digitAt_11 (lv_at hl 0 rfl) ?_
  refine lv_lconst (v := jv 0) hx hb dX0_digitAt_13 (by decide) ?_
  refine r_lcmp hx hb ⟨(by omega), (by omega)⟩ ⟨(by omega), (by omega)⟩ dX0_digitAt_14 (fun z_2 az_2 bz_2 cz_2 => ?_)
  refine r_if_gt (tgt := 20) hx hb ⟨(by omega), (by omega)⟩ dX0_digitAt_15 (by decide) (fun _ => ?_) (fun c => absurd (by omega) c)
  refine lv_aload_n hx hb dX0_digitAt_20 rfl (lv_at hl 1 rfl) ?_
  refine g_X0_9 Cx hW (k := o) (big_l ho) ho (v := .ref (G.2.2.1 + (o + 1))) (hI.rq.1 o ho) dX0_digitAt_21 ?_
  refine lv_iload_n hx hb dX0_digitAt_24 rfl (lv_at hl 2 rfl) ?_
  refine lv_iload_n hx hb dX0_digitAt_25 rfl (lv_at hl 4 rfl) ?_
  refine r_iadd hx hb dX0_digitAt_26 ?_
  refine rIald Cx hW (k := o + 1) (big_l1 ho) (big_row ho).1 (by decide) (by omega) (by omega) dX0_digitAt_27 ?_
  have q_3 := limbR hI ho (a + w)
  refine r_i (b := S.2.1 (o + 1) (a + w)) rfl ?_
  refine r_i2l hx hb ⟨(by omega), (by omega)⟩ dX0_digitAt_28 ?_
  refine lv_ldc2 hx hb hown (hts _ w_1163) dX0_digitAt_29 ?_
  refine r_lmul hx hb dX0_digitAt_32 ?_
  refine lv_aload_n hx hb dX0_digitAt_33 rfl (lv_at hl 1 rfl) ?_
  refine g_X0_9 Cx hW (k := o) (big_l ho) ho (v := .ref (G.2.2.1 + (o + 1))) (hI.rq.1 o ho) dX0_digitAt_34 ?_
  refine lv_iload_n hx hb dX0_digitAt_37 rfl (lv_at hl 2 rfl) ?_
  refine lv_iload_n hx hb dX0_digitAt_38 rfl (lv_at hl 4 rfl) ?_
  refine r_iadd hx hb dX0_digitAt_39 ?_
  refine lv_iconst (v := iv 1) hx hb dX0_digitAt_40 (by decide) ?_
  refine r_isub hx hb dX0_digitAt_41 ?_
  refine rIald Cx hW (k := o + 1) (big_l1 ho) (big_row ho).1 (by decide) (by omega) (by omega) dX0_digitAt_42 ?_
  have q_4 := limbR hI ho ((a + w) - 1)
  refine r_i (b := S.2.1 (o + 1) ((a + w) - 1)) rfl ?_
  refine r_i2l hx hb ⟨(by omega), (by omega)⟩ dX0_digitAt_43 ?_
  refine r_ladd hx hb dX0_digitAt_44 ?_
  refine lv_lstore (lv' := [(6, .long (jv (((S.2.1 (o + 1) (a + w)) * 1000000000) + (S.2.1 (o + 1) ((a + w) - 1))))), (4, .long (jv (S.2.1 (h + 1) (w - 1)))), (0, .ref (G.2.2.1 + o)), (1, .int (iv a)), (2, .ref (G.2.2.1 + h)), (3, .int (iv w))]) hx hb dX0_digitAt_45 hl (by decide) rfl (fun ls hl => ?_)
  refine lv_lload hx hb dX0_digitAt_47 (lv_at hl 0 rfl) ?_
  refine lv_lload hx hb dX0_digitAt_49 (lv_at hl 1 rfl) ?_
  refine r_ldiv hx hb ⟨(by omega), (by omega)⟩ ⟨(by omega), (by omega)⟩ (by omega) dX0_digitAt_51 ?_
  obtain ⟨g0, eg0⟩ : ∃ z : Int, z = (((S.2.1 (o + 1) (a + w)) * 1000000000) + (S.2.1 (o + 1) ((a + w) - 1))).tdiv (S.2.1 (h + 1) (w - 1)) := ⟨_, rfl⟩
  have hg0 := divQ (a := ((S.2.1 (o + 1) (a + w)) * 1000000000) + (S.2.1 (o + 1) ((a + w) - 1))) (b := S.2.1 (h + 1) (w - 1)) (by omega) (by omega)
  rw [← eg0] at hg0
  refine r_j (b := g0) eg0.symm ?_
  clear eg0
  refine lv_lstore (lv' := [(8, .long (jv g0)), (6, .long (jv (((S.2.1 (o + 1) (a + w)) * 1000000000) + (S.2.1 (o + 1) ((a + w) - 1))))), (4, .long (jv (S.2.1 (h + 1) (w - 1)))), (0, .ref (G.2.2.1 + o)), (1, .int (iv a)), (2, .ref (G.2.2.1 + h)), (3, .int (iv w))]) hx hb dX0_digitAt_52 hl (by decide) rfl (fun ls hl => ?_)
  refine lv_lload hx hb dX0_digitAt_54 (lv_at hl 1 rfl) ?_
  refine lv_lload hx hb dX0_digitAt_56 (lv_at hl 0 rfl) ?_
  refine lv_lload hx hb dX0_digitAt_58 (lv_at hl 2 rfl) ?_
  refine r_lmul hx hb dX0_digitAt_60 ?_
  obtain ⟨gl, egl⟩ : ∃ z : Int, z = g0 * (S.2.1 (h + 1) (w - 1)) := ⟨_, rfl⟩
  refine r_j (b := gl) egl.symm ?_
  have hgl : gl ≤ (S.2.1 (o + 1) (a + w) * 1000000000 + S.2.1 (o + 1) (a + w - 1)) ∧ (S.2.1 (o + 1) (a + w) * 1000000000 + S.2.1 (o + 1) (a + w - 1)) < gl + S.2.1 (h + 1) (w - 1) := by rw [egl]; exact hg0.2
  have hg0b : g0 < 1000000002 := lt_of_m (l := S.2.1 (h + 1) (w - 1)) (h := S.2.1 (o + 1) (a + w) * 1000000000 + S.2.1 (o + 1) (a + w - 1)) (by omega) hg0.2.1 (by omega)
  refine r_lsub hx hb dX0_digitAt_61 ?_
  refine lv_lstore (lv' := [(10, .long (jv ((((S.2.1 (o + 1) (a + w)) * 1000000000) + (S.2.1 (o + 1) ((a + w) - 1))) - gl))), (8, .long (jv g0)), (6, .long (jv (((S.2.1 (o + 1) (a + w)) * 1000000000) + (S.2.1 (o + 1) ((a + w) - 1))))), (4, .long (jv (S.2.1 (h + 1) (w - 1)))), (0, .ref (G.2.2.1 + o)), (1, .int (iv a)), (2, .ref (G.2.2.1 + h)), (3, .int (iv w))]) hx hb dX0_digitAt_62 hl (by decide) rfl (fun ls hl => ?_)
  have join_147 : ∀ (gg : Int) (H : Heap) (locs : List Loc) (ls : Array Slot), (0 ≤ gg ∧ gg ≤ 999999999) → (Hd (V (S.2.1 (o + 1)) a (w + 1).toNat < (gg + 1) * V (S.2.1 (h + 1)) 0 w.toNat)) → (Hd ((gg - 1) * V (S.2.1 (h + 1)) 0 w.toNat ≤ V (S.2.1 (o + 1)) a (w + 1).toNat)) → sW G 294 S H → sL G locs → lv_has ls 18 [(8, .long (jv gg)), (6, .long (jv (((S.2.1 (o + 1) (a + w)) * 1000000000) + (S.2.1 (o + 1) ((a + w) - 1))))), (4, .long (jv (S.2.1 (h + 1) (w - 1)))), (0, .ref (G.2.2.1 + o)), (1, .int (iv a)), (2, .ref (G.2.2.1 + h)), (3, .int (iv w))] → W p l e (rmk 1 0 0) s m args below meth c H locs 0 0 (MQ below (sQi G 294 (fun r u => cX G u o 0 0 ∧ Fr S u (pB o) ∧ (0 ≤ r ∧ r ≤ 999999999 ∧ u.1 = S.1 ∧ u.2.1 (o + 1) (a + w) = 0 ∧ V (u.2.1 (o + 1)) a w.toNat < V (S.2.1 (h + 1)) 0 w.toNat ∧ (∀ j, j < a ∨ a + w < j → u.2.1 (o + 1) j = S.2.1 (o + 1) j) ∧ Hd (V (S.2.1 (o + 1)) a (w + 1).toNat = r * V (S.2.1 (h + 1)) 0 w.toNat + V (u.2.1 (o + 1)) a w.toNat)))) args s 0 0 (sF G)) (F0 m 147 ls []) := by
    intro gg H locs ls hgg hlo2 hup2 hW hL hl
    refine lv_lconst (v := jv 0) hx hb dX0_digitAt_147 (by decide) ?_
    refine lv_lstore (lv' := [(12, .long (jv 0)), (8, .long (jv gg)), (6, .long (jv (((S.2.1 (o + 1) (a + w)) * 1000000000) + (S.2.1 (o + 1) ((a + w) - 1))))), (4, .long (jv (S.2.1 (h + 1) (w - 1)))), (0, .ref (G.2.2.1 + o)), (1, .int (iv a)), (2, .ref (G.2.2.1 + h)), (3, .int (iv w))]) hx hb dX0_digitAt_148 hl (by decide) rfl (fun ls hl => ?_)
    refine lv_iconst (v := iv 0) hx hb dX0_digitAt_150 (by decide) ?_
    refine lv_istore (lv' := [(14, .int (iv 0)), (12, .long (jv 0)), (8, .long (jv gg)), (6, .long (jv (((S.2.1 (o + 1) (a + w)) * 1000000000) + (S.2.1 (o + 1) ((a + w) - 1))))), (4, .long (jv (S.2.1 (h + 1) (w - 1)))), (0, .ref (G.2.2.1 + o)), (1, .int (iv a)), (2, .ref (G.2.2.1 + h)), (3, .int (iv w))]) hx hb dX0_digitAt_151 hl (by decide) rfl (fun ls hl => ?_)
    have loop_153 : ∀ (fuel : Nat) (S153 : sS) (i : Int) (cy : Int) (H : Heap) (locs : List Loc) (ls : Array Slot), (w - i).toNat < fuel → (cX G S153 o 0 0) → (Fr S S153 (pB o)) → (Fr S S153 (pB o)) → (0 ≤ i ∧ i ≤ w) → (0 ≤ cy ∧ cy ≤ 1000000000) → (S153.1 = S.1) → (∀ j, j < a ∨ a + i ≤ j → S153.2.1 (o + 1) j = S.2.1 (o + 1) j) → (Hd (V (S153.2.1 (o + 1)) a i.toNat - cy * pw i.toNat = V (S.2.1 (o + 1)) a i.toNat - gg * V (S.2.1 (h + 1)) 0 i.toNat)) → sW G 294 S153 H → sL G locs → lv_has ls 18 [(14, .int (iv i)), (12, .long (jv cy)), (8, .long (jv gg)), (6, .long (jv (((S.2.1 (o + 1) (a + w)) * 1000000000) + (S.2.1 (o + 1) ((a + w) - 1))))), (4, .long (jv (S.2.1 (h + 1) (w - 1)))), (0, .ref (G.2.2.1 + o)), (1, .int (iv a)), (2, .ref (G.2.2.1 + h)), (3, .int (iv w))] → W p l e (rmk 1 0 0) s m args below meth c H locs 0 0 (MQ below (sQi G 294 (fun r u => cX G u o 0 0 ∧ Fr S u (pB o) ∧ (0 ≤ r ∧ r ≤ 999999999 ∧ u.1 = S.1 ∧ u.2.1 (o + 1) (a + w) = 0 ∧ V (u.2.1 (o + 1)) a w.toNat < V (S.2.1 (h + 1)) 0 w.toNat ∧ (∀ j, j < a ∨ a + w < j → u.2.1 (o + 1) j = S.2.1 (o + 1) j) ∧ Hd (V (S.2.1 (o + 1)) a (w + 1).toNat = r * V (S.2.1 (h + 1)) 0 w.toNat + V (u.2.1 (o + 1)) a w.toNat)))) args s 0 0 (sF G)) (F0 m 153 ls []) := by
      intro fuel
      induction fuel with
      | zero => intro S153 i cy H locs ls hmeas hI153 hFm153 hL153_ hi hcy hc hun hval hW hL hl; exact absurd hmeas (Nat.not_lt_zero _)
      | succ fuel ih_153 =>
        intro S153 i cy H locs ls hmeas hI153 hFm153 hL153_ hi hcy hc hun hval hW hL hl
        refine lv_iload hx hb dX0_digitAt_153 (lv_at hl 0 rfl) ?_
        refine lv_iload_n hx hb dX0_digitAt_155 rfl (lv_at hl 8 rfl) ?_
        refine r_icmp_ge (tgt := 240) hx hb ⟨(by omega), (by omega)⟩ ⟨(by omega), (by omega)⟩ dX0_digitAt_156 (by decide) (fun c_5 => ?_) (fun c_5 => ?_)
        · have huw := hun (a + w) (by omega)
          have hke := kn_end (U := V (S.2.1 (o + 1)) a (w + 1).toNat) (V := V (S.2.1 (h + 1)) 0 w.toNat) (P := pw w.toNat) (g := gg) (R := V (S153.2.1 (o + 1)) a w.toNat) (top := S.2.1 (o + 1) (a + w) - cy) (pw_pos _) (V_0 (fun i _ _ => (limbR hI153 ho i).1)) (V_lt (fun i _ _ => limbR hI153 ho i)) (Int.le_of_lt hVP) (by have e : i = w := (by omega); have e2 := hval; rw [e] at e2; have e3 := V_stp (f := (S.2.1 (o + 1))) (s := a) (i := w) (by omega); rw [e3]; have e4 : V (S153.2.1 (o + 1)) a w.toNat - cy * pw w.toNat = V (S.2.1 (o + 1)) a w.toNat - gg * V (S.2.1 (h + 1)) 0 w.toNat := e2; rw [Int.sub_mul]; omega) hlo2 hup2
          have hke0 : V (S.2.1 (o + 1)) a (w + 1).toNat - gg * V (S.2.1 (h + 1)) 0 w.toNat = V (S153.2.1 (o + 1)) a w.toNat + (S.2.1 (o + 1) (a + w) - cy) * pw w.toNat := (by have e : i = w := (by omega); have e2 := hval; rw [e] at e2; have e3 := V_stp (f := (S.2.1 (o + 1))) (s := a) (i := w) (by omega); rw [e3]; have e4 : V (S153.2.1 (o + 1)) a w.toNat - cy * pw w.toNat = V (S.2.1 (o + 1)) a w.toNat - gg * V (S.2.1 (h + 1)) 0 w.toNat := e2; rw [Int.sub_mul]; omega)
          refine lv_aload_n hx hb dX0_digitAt_240 rfl (lv_at hl 5 rfl) ?_
          refine g_X0_9 Cx hW (k := o) (big_l ho) ho (v := .ref (G.2.2.1 + (o + 1))) (hI153.rq.1 o ho) dX0_digitAt_241 ?_
          refine lv_iload_n hx hb dX0_digitAt_244 rfl (lv_at hl 6 rfl) ?_
          refine lv_iload_n hx hb dX0_digitAt_245 rfl (lv_at hl 8 rfl) ?_
          refine r_iadd hx hb dX0_digitAt_246 ?_
          refine rIald Cx hW (k := o + 1) (big_l1 ho) (big_row ho).1 (by decide) (by omega) (by omega) dX0_digitAt_247 ?_
          have q_6 := limbR hI153 ho (a + w)
          refine r_i (b := S153.2.1 (o + 1) (a + w)) rfl ?_
          refine r_i2l hx hb ⟨(by omega), (by omega)⟩ dX0_digitAt_248 ?_
          refine lv_lload hx hb dX0_digitAt_249 (lv_at hl 1 rfl) ?_
          refine r_lcmp hx hb ⟨(by omega), (by omega)⟩ ⟨(by omega), (by omega)⟩ dX0_digitAt_251 (fun z_7 az_7 bz_7 cz_7 => ?_)
          refine r_if_ge (tgt := 259) hx hb ⟨(by omega), (by omega)⟩ dX0_digitAt_252 (by decide) (fun c_8 => ?_) (fun c_8 => ?_)
          · refine lv_iconst (v := iv 0) hx hb dX0_digitAt_259 (by decide) ?_
            refine lv_istore (lv' := [(14, .int (iv 0)), (12, .long (jv cy)), (8, .long (jv gg)), (6, .long (jv (((S.2.1 (o + 1) (a + w)) * 1000000000) + (S.2.1 (o + 1) ((a + w) - 1))))), (4, .long (jv (S.2.1 (h + 1) (w - 1)))), (0, .ref (G.2.2.1 + o)), (1, .int (iv a)), (2, .ref (G.2.2.1 + h)), (3, .int (iv w))]) hx hb dX0_digitAt_260 hl (by decide) rfl (fun ls hl => ?_)
            refine lv_aload_n hx hb dX0_digitAt_262 rfl (lv_at hl 5 rfl) ?_
            refine g_X0_9 Cx hW (k := o) (big_l ho) ho (v := .ref (G.2.2.1 + (o + 1))) (hI153.rq.1 o ho) dX0_digitAt_263 ?_
            refine lv_iload_n hx hb dX0_digitAt_266 rfl (lv_at hl 6 rfl) ?_
            refine lv_iload_n hx hb dX0_digitAt_267 rfl (lv_at hl 8 rfl) ?_
            refine r_iadd hx hb dX0_digitAt_268 ?_
            refine lv_iconst (v := iv 0) hx hb dX0_digitAt_269 (by decide) ?_
            refine rIast Cx hW hL (k := o + 1) (big_l1 ho) (big_row ho).1 (by decide) (by omega) (by omega) dX0_digitAt_270 (fun H locs hW hL => ?_)
            have F_9 : Fr S (uA S153 (o + 1) (a + w) 0) (pB o) := hFm153.A pB_1
            have F_10 : Fr S (uA S153 (o + 1) (a + w) 0) (pB o) := hL153_.A pB_1
            have i_11 : cX G (uA S153 (o + 1) (a + w) 0) o 0 0 := hI153.limb (Or.inl (exq_s ho)) ho ⟨(by omega), (by omega)⟩
            refine lv_iload hx hb dX0_digitAt_271 (lv_at hl 0 rfl) ?_
            refine r_if_ne (tgt := 280) hx hb ⟨(by omega), (by omega)⟩ dX0_digitAt_273 (by decide) (fun c => absurd (by omega) c) (fun _ => ?_)
            refine lv_lload hx hb dX0_digitAt_276 (lv_at hl 2 rfl) ?_
            refine r_l2i hx hb dX0_digitAt_278 ?_
            exact sIret Cx hr hlk hW hL ⟨i_11, F_9, ⟨by omega, by omega, hc, uA_on, by rw [V_same (by omega)]; exact (hke.1 (by omega)).2, fun j j0 => by rw [uA_ne (by omega)]; exact hun j (by omega), (by show _ = _; have e := hke0; have z := (hke.1 (by omega)).1; rw [V_same (by omega)]; rw [z, Int.zero_mul] at e; omega)⟩⟩ dX0_digitAt_279
          · refine lv_iconst (v := iv 1) hx hb dX0_digitAt_255 (by decide) ?_
            refine lv_goto (tgt := 260) hx hb dX0_digitAt_256 (by decide) ?_
            refine lv_istore (lv' := [(14, .int (iv 1)), (12, .long (jv cy)), (8, .long (jv gg)), (6, .long (jv (((S.2.1 (o + 1) (a + w)) * 1000000000) + (S.2.1 (o + 1) ((a + w) - 1))))), (4, .long (jv (S.2.1 (h + 1) (w - 1)))), (0, .ref (G.2.2.1 + o)), (1, .int (iv a)), (2, .ref (G.2.2.1 + h)), (3, .int (iv w))]) hx hb dX0_digitAt_260 hl (by decide) rfl (fun ls hl => ?_)
            refine lv_aload_n hx hb dX0_digitAt_262 rfl (lv_at hl 5 rfl) ?_
            refine g_X0_9 Cx hW (k := o) (big_l ho) ho (v := .ref (G.2.2.1 + (o + 1))) (hI153.rq.1 o ho) dX0_digitAt_263 ?_
            refine lv_iload_n hx hb dX0_digitAt_266 rfl (lv_at hl 6 rfl) ?_
            refine lv_iload_n hx hb dX0_digitAt_267 rfl (lv_at hl 8 rfl) ?_
            refine r_iadd hx hb dX0_digitAt_268 ?_
            refine lv_iconst (v := iv 0) hx hb dX0_digitAt_269 (by decide) ?_
            refine rIast Cx hW hL (k := o + 1) (big_l1 ho) (big_row ho).1 (by decide) (by omega) (by omega) dX0_digitAt_270 (fun H locs hW hL => ?_)
            have F_12 : Fr S (uA S153 (o + 1) (a + w) 0) (pB o) := hFm153.A pB_1
            have F_13 : Fr S (uA S153 (o + 1) (a + w) 0) (pB o) := hL153_.A pB_1
            have i_14 : cX G (uA S153 (o + 1) (a + w) 0) o 0 0 := hI153.limb (Or.inl (exq_s ho)) ho ⟨(by omega), (by omega)⟩
            refine lv_iload hx hb dX0_digitAt_271 (lv_at hl 0 rfl) ?_
            refine r_if_ne (tgt := 280) hx hb ⟨(by omega), (by omega)⟩ dX0_digitAt_273 (by decide) (fun _ => ?_) (fun c => absurd c (by omega))
            have hg1 : 1 ≤ gg := by rcases Int.lt_or_le gg 1 with q | q; exfalso; have e0 : gg = 0 := (by omega); have e1 := (hke.2 (by omega)).2.2.2; rw [e0, Int.zero_mul] at e1; omega; exact q
            refine lv_iconst (v := iv 0) hx hb dX0_digitAt_280 (by decide) ?_
            refine lv_istore (lv' := [(15, .int (iv 0)), (14, .int (iv 1)), (12, .long (jv cy)), (8, .long (jv gg)), (6, .long (jv (((S.2.1 (o + 1) (a + w)) * 1000000000) + (S.2.1 (o + 1) ((a + w) - 1))))), (4, .long (jv (S.2.1 (h + 1) (w - 1)))), (0, .ref (G.2.2.1 + o)), (1, .int (iv a)), (2, .ref (G.2.2.1 + h)), (3, .int (iv w))]) hx hb dX0_digitAt_281 hl (by decide) rfl (fun ls hl => ?_)
            refine lv_iconst (v := iv 0) hx hb dX0_digitAt_283 (by decide) ?_
            refine lv_istore (lv' := [(16, .int (iv 0)), (15, .int (iv 0)), (14, .int (iv 1)), (12, .long (jv cy)), (8, .long (jv gg)), (6, .long (jv (((S.2.1 (o + 1) (a + w)) * 1000000000) + (S.2.1 (o + 1) ((a + w) - 1))))), (4, .long (jv (S.2.1 (h + 1) (w - 1)))), (0, .ref (G.2.2.1 + o)), (1, .int (iv a)), (2, .ref (G.2.2.1 + h)), (3, .int (iv w))]) hx hb dX0_digitAt_284 hl (by decide) rfl (fun ls hl => ?_)
            have loop_286 : ∀ (fuel : Nat) (S286 : sS) (i : Int) (bk : Int) (H : Heap) (locs : List Loc) (ls : Array Slot), (w - i).toNat < fuel → (cX G S286 o 0 0) → (Fr S S286 (pB o)) → (Fr S S286 (pB o)) → (Fr ((uA S153 (o + 1) (a + w) 0)) S286 (pB o)) → (0 ≤ i ∧ i ≤ w) → (0 ≤ bk ∧ bk ≤ 1) → (S286.1 = S.1) → (∀ j, j < a ∨ a + i ≤ j → S286.2.1 (o + 1) j = (uA S153 (o + 1) (a + w) 0).2.1 (o + 1) j) → (Hd (V (S286.2.1 (o + 1)) a i.toNat + bk * pw i.toNat = V ((uA S153 (o + 1) (a + w) 0).2.1 (o + 1)) a i.toNat + V (S.2.1 (h + 1)) 0 i.toNat)) → sW G 294 S286 H → sL G locs → lv_has ls 18 [(16, .int (iv i)), (15, .int (iv bk)), (14, .int (iv 1)), (12, .long (jv cy)), (8, .long (jv gg)), (6, .long (jv (((S.2.1 (o + 1) (a + w)) * 1000000000) + (S.2.1 (o + 1) ((a + w) - 1))))), (4, .long (jv (S.2.1 (h + 1) (w - 1)))), (0, .ref (G.2.2.1 + o)), (1, .int (iv a)), (2, .ref (G.2.2.1 + h)), (3, .int (iv w))] → W p l e (rmk 1 0 0) s m args below meth c H locs 0 0 (MQ below (sQi G 294 (fun r u => cX G u o 0 0 ∧ Fr S u (pB o) ∧ (0 ≤ r ∧ r ≤ 999999999 ∧ u.1 = S.1 ∧ u.2.1 (o + 1) (a + w) = 0 ∧ V (u.2.1 (o + 1)) a w.toNat < V (S.2.1 (h + 1)) 0 w.toNat ∧ (∀ j, j < a ∨ a + w < j → u.2.1 (o + 1) j = S.2.1 (o + 1) j) ∧ Hd (V (S.2.1 (o + 1)) a (w + 1).toNat = r * V (S.2.1 (h + 1)) 0 w.toNat + V (u.2.1 (o + 1)) a w.toNat)))) args s 0 0 (sF G)) (F0 m 286 ls []) := by
              intro fuel
              induction fuel with
              | zero => intro S286 i bk H locs ls hmeas hI286 hFm286 hFL153286 hL286_ hi3 hbk hc3 hun3 hval3 hW hL hl; exact absurd hmeas (Nat.not_lt_zero _)
              | succ fuel ih_286 =>
                intro S286 i bk H locs ls hmeas hI286 hFm286 hFL153286 hL286_ hi3 hbk hc3 hun3 hval3 hW hL hl
                refine lv_iload hx hb dX0_digitAt_286 (lv_at hl 0 rfl) ?_
                refine lv_iload_n hx hb dX0_digitAt_288 rfl (lv_at hl 10 rfl) ?_
                refine r_icmp_ge (tgt := 351) hx hb ⟨(by omega), (by omega)⟩ ⟨(by omega), (by omega)⟩ dX0_digitAt_289 (by decide) (fun c_15 => ?_) (fun c_15 => ?_)
                · refine lv_lload hx hb dX0_digitAt_351 (lv_at hl 4 rfl) ?_
                  refine r_l2i hx hb dX0_digitAt_353 ?_
                  refine lv_iconst (v := iv 1) hx hb dX0_digitAt_354 (by decide) ?_
                  refine r_isub hx hb dX0_digitAt_355 ?_
                  exact sIret Cx hr hlk hW hL ⟨hI286, hFm286, ⟨by omega, by omega, hc3, by rw [hun3 _ (by omega), uA_on], by have e0 : i = w := (by omega); have e1 := hval3; rw [e0, V_same (by omega)] at e1; have e2 := hke.2 (by omega); have e3 : V (S286.2.1 (o + 1)) a w.toNat < pw w.toNat := V_lt (fun i _ _ => limbR hI286 ho i); have e4 : V (S286.2.1 (o + 1)) a w.toNat + bk * pw w.toNat = V (S153.2.1 (o + 1)) a w.toNat + V (S.2.1 (h + 1)) 0 w.toNat := e1; have e5 : bk = 0 ∨ bk = 1 := (by omega); rcases e5 with e5 | e5; rw [e5] at e4; omega; rw [e5] at e4; omega, fun j j0 => by rw [hun3 j (by omega), uA_ne (by omega)]; exact hun j (by omega), (by show _ = _; have e0 : i = w := (by omega); have e1 := hval3; rw [e0, V_same (by omega)] at e1; have e2 := hke.2 (by omega); have e3 : V (S286.2.1 (o + 1)) a w.toNat < pw w.toNat := V_lt (fun i _ _ => limbR hI286 ho i); have e4 : V (S286.2.1 (o + 1)) a w.toNat + bk * pw w.toNat = V (S153.2.1 (o + 1)) a w.toNat + V (S.2.1 (h + 1)) 0 w.toNat := e1; have e5 : bk = 0 ∨ bk = 1 := (by omega); have e6 := hke0; rw [e2.1] at e6; rw [Int.sub_mul, Int.one_mul]; rcases e5 with e5 | e5; (exfalso; rw [e5] at e4; omega); (rw [e5, Int.one_mul] at e4; omega))⟩⟩ dX0_digitAt_356
                · refine lv_aload_n hx hb dX0_digitAt_292 rfl (lv_at hl 7 rfl) ?_
                  refine g_X0_9 Cx hW (k := o) (big_l ho) ho (v := .ref (G.2.2.1 + (o + 1))) (hI286.rq.1 o ho) dX0_digitAt_293 ?_
                  refine lv_iload_n hx hb dX0_digitAt_296 rfl (lv_at hl 8 rfl) ?_
                  refine lv_iload hx hb dX0_digitAt_297 (lv_at hl 0 rfl) ?_
                  refine r_iadd hx hb dX0_digitAt_299 ?_
                  refine rIald Cx hW (k := o + 1) (big_l1 ho) (big_row ho).1 (by decide) (by omega) (by omega) dX0_digitAt_300 ?_
                  have q_16 := limbR hI286 ho (a + i)
                  refine r_i (b := S286.2.1 (o + 1) (a + i)) rfl ?_
                  refine lv_aload_n hx hb dX0_digitAt_301 rfl (lv_at hl 9 rfl) ?_
                  refine g_X0_9 Cx hW (k := h) (big_l hh) hh (v := .ref (G.2.2.1 + (h + 1))) (hI286.rq.1 h hh) dX0_digitAt_302 ?_
                  refine lv_iload hx hb dX0_digitAt_305 (lv_at hl 0 rfl) ?_
                  refine rIald Cx hW (k := h + 1) (big_l1 hh) (big_row hh).1 (by decide) (by omega) (by omega) dX0_digitAt_307 ?_
                  have q_17 := limbR hI hh i
                  refine r_i (b := S.2.1 (h + 1) i) (((hL286_ (h + 1) (pB_no (tau_ne (big_row hh).1 ho (fun h => by cases h)) (ne1S noh))).2.1 i).trans ((uA_ne (fun h => absurd h.1 (ne1S noh))).trans ((hL153_ (h + 1) (pB_no (tau_ne (big_row hh).1 ho (fun h => by cases h)) (ne1S noh))).2.1 i))) ?_
                  refine r_iadd hx hb dX0_digitAt_308 ?_
                  refine lv_iload hx hb dX0_digitAt_309 (lv_at hl 1 rfl) ?_
                  refine r_iadd hx hb dX0_digitAt_311 ?_
                  refine lv_istore (lv' := [(17, .int (iv (((S286.2.1 (o + 1) (a + i)) + (S.2.1 (h + 1) i)) + bk))), (16, .int (iv i)), (15, .int (iv bk)), (14, .int (iv 1)), (12, .long (jv cy)), (8, .long (jv gg)), (6, .long (jv (((S.2.1 (o + 1) (a + w)) * 1000000000) + (S.2.1 (o + 1) ((a + w) - 1))))), (4, .long (jv (S.2.1 (h + 1) (w - 1)))), (0, .ref (G.2.2.1 + o)), (1, .int (iv a)), (2, .ref (G.2.2.1 + h)), (3, .int (iv w))]) hx hb dX0_digitAt_312 hl (by decide) rfl (fun ls hl => ?_)
                  refine lv_iload hx hb dX0_digitAt_314 (lv_at hl 0 rfl) ?_
                  refine lv_ldc hx hb hown (hts _ w_1293) dX0_digitAt_316 ?_
                  refine r_icmp_lt (tgt := 325) hx hb ⟨(by omega), (by omega)⟩ ⟨(by omega), (by omega)⟩ dX0_digitAt_318 (by decide) (fun c_18 => ?_) (fun c_18 => ?_)
                  · refine lv_iconst (v := iv 0) hx hb dX0_digitAt_325 (by decide) ?_
                    refine lv_istore (lv' := [(15, .int (iv 0)), (17, .int (iv (((S286.2.1 (o + 1) (a + i)) + (S.2.1 (h + 1) i)) + bk))), (16, .int (iv i)), (14, .int (iv 1)), (12, .long (jv cy)), (8, .long (jv gg)), (6, .long (jv (((S.2.1 (o + 1) (a + w)) * 1000000000) + (S.2.1 (o + 1) ((a + w) - 1))))), (4, .long (jv (S.2.1 (h + 1) (w - 1)))), (0, .ref (G.2.2.1 + o)), (1, .int (iv a)), (2, .ref (G.2.2.1 + h)), (3, .int (iv w))]) hx hb dX0_digitAt_326 hl (by decide) rfl (fun ls hl => ?_)
                    refine lv_aload_n hx hb dX0_digitAt_328 rfl (lv_at hl 8 rfl) ?_
                    refine g_X0_9 Cx hW (k := o) (big_l ho) ho (v := .ref (G.2.2.1 + (o + 1))) (hI286.rq.1 o ho) dX0_digitAt_329 ?_
                    refine lv_iload_n hx hb dX0_digitAt_332 rfl (lv_at hl 9 rfl) ?_
                    refine lv_iload hx hb dX0_digitAt_333 (lv_at hl 2 rfl) ?_
                    refine r_iadd hx hb dX0_digitAt_335 ?_
                    refine lv_iload hx hb dX0_digitAt_336 (lv_at hl 1 rfl) ?_
                    refine lv_iload hx hb dX0_digitAt_338 (lv_at hl 0 rfl) ?_
                    refine lv_ldc hx hb hown (hts _ w_1293) dX0_digitAt_340 ?_
                    refine r_imul hx hb dX0_digitAt_342 ?_
                    refine r_i (b := 0) (by omega) ?_
                    refine r_isub hx hb dX0_digitAt_343 ?_
                    refine rIast Cx hW hL (k := o + 1) (big_l1 ho) (big_row ho).1 (by decide) (by omega) (by omega) dX0_digitAt_344 (fun H locs hW hL => ?_)
                    have F_19 : Fr S (uA S286 (o + 1) (a + i) ((((S286.2.1 (o + 1) (a + i)) + (S.2.1 (h + 1) i)) + bk) - 0)) (pB o) := hFm286.A pB_1
                    have F_20 : Fr S (uA S286 (o + 1) (a + i) ((((S286.2.1 (o + 1) (a + i)) + (S.2.1 (h + 1) i)) + bk) - 0)) (pB o) := hFL153286.A pB_1
                    have F_21 : Fr ((uA S153 (o + 1) (a + w) 0)) (uA S286 (o + 1) (a + i) ((((S286.2.1 (o + 1) (a + i)) + (S.2.1 (h + 1) i)) + bk) - 0)) (pB o) := hL286_.A pB_1
                    have i_22 : cX G (uA S286 (o + 1) (a + i) ((((S286.2.1 (o + 1) (a + i)) + (S.2.1 (h + 1) i)) + bk) - 0)) o 0 0 := hI286.limb (Or.inl (exq_s ho)) ho ⟨(by omega), (by omega)⟩
                    refine lv_iinc (v := iv (i + 1)) (lv' := [(16, .int (iv (i + 1))), (15, .int (iv 0)), (17, .int (iv (((S286.2.1 (o + 1) (a + i)) + (S.2.1 (h + 1) i)) + bk))), (14, .int (iv 1)), (12, .long (jv cy)), (8, .long (jv gg)), (6, .long (jv (((S.2.1 (o + 1) (a + w)) * 1000000000) + (S.2.1 (o + 1) ((a + w) - 1))))), (4, .long (jv (S.2.1 (h + 1) (w - 1)))), (0, .ref (G.2.2.1 + o)), (1, .int (iv a)), (2, .ref (G.2.2.1 + h)), (3, .int (iv w))]) hx hb dX0_digitAt_345 hl (k := 2) rfl ((Int32.ofInt_add _ _).symm) (by decide) rfl (fun ls hl => ?_)
                    refine lv_goto (tgt := 286) hx hb dX0_digitAt_348 (by decide) ?_
                    exact ih_286 (uA S286 (o + 1) (a + i) ((((S286.2.1 (o + 1) (a + i)) + (S.2.1 (h + 1) i)) + bk) - 0)) (i + 1) 0 _ _ _ (by omega) i_22 F_19 F_20 F_21 (by omega) (by omega) hc3 (fun j j0 => by rw [uA_ne (by omega)]; exact hun3 j (by omega)) (show _ = _ by rw [V_upd (by omega) (by omega), V_stp (by omega), V_stp (by omega), pw_stp (by omega), show (0 : Int) + i = i by omega]; exact madd hval3 (by rw [← hun3 (a + i) (by omega)]; omega)) hW hL (lv_sub hl [0, 1, 3, 4, 5, 6, 7, 8, 9, 10, 11] rfl)
                  · refine lv_iconst (v := iv 1) hx hb dX0_digitAt_321 (by decide) ?_
                    refine lv_goto (tgt := 326) hx hb dX0_digitAt_322 (by decide) ?_
                    refine lv_istore (lv' := [(15, .int (iv 1)), (17, .int (iv (((S286.2.1 (o + 1) (a + i)) + (S.2.1 (h + 1) i)) + bk))), (16, .int (iv i)), (14, .int (iv 1)), (12, .long (jv cy)), (8, .long (jv gg)), (6, .long (jv (((S.2.1 (o + 1) (a + w)) * 1000000000) + (S.2.1 (o + 1) ((a + w) - 1))))), (4, .long (jv (S.2.1 (h + 1) (w - 1)))), (0, .ref (G.2.2.1 + o)), (1, .int (iv a)), (2, .ref (G.2.2.1 + h)), (3, .int (iv w))]) hx hb dX0_digitAt_326 hl (by decide) rfl (fun ls hl => ?_)
                    refine lv_aload_n hx hb dX0_digitAt_328 rfl (lv_at hl 8 rfl) ?_
                    refine g_X0_9 Cx hW (k := o) (big_l ho) ho (v := .ref (G.2.2.1 + (o + 1))) (hI286.rq.1 o ho) dX0_digitAt_329 ?_
                    refine lv_iload_n hx hb dX0_digitAt_332 rfl (lv_at hl 9 rfl) ?_
                    refine lv_iload hx hb dX0_digitAt_333 (lv_at hl 2 rfl) ?_
                    refine r_iadd hx hb dX0_digitAt_335 ?_
                    refine lv_iload hx hb dX0_digitAt_336 (lv_at hl 1 rfl) ?_
                    refine lv_iload hx hb dX0_digitAt_338 (lv_at hl 0 rfl) ?_
                    refine lv_ldc hx hb hown (hts _ w_1293) dX0_digitAt_340 ?_
                    refine r_imul hx hb dX0_digitAt_342 ?_
                    refine r_i (b := 1000000000) (by omega) ?_
                    refine r_isub hx hb dX0_digitAt_343 ?_
                    refine rIast Cx hW hL (k := o + 1) (big_l1 ho) (big_row ho).1 (by decide) (by omega) (by omega) dX0_digitAt_344 (fun H locs hW hL => ?_)
                    have F_23 : Fr S (uA S286 (o + 1) (a + i) ((((S286.2.1 (o + 1) (a + i)) + (S.2.1 (h + 1) i)) + bk) - 1000000000)) (pB o) := hFm286.A pB_1
                    have F_24 : Fr S (uA S286 (o + 1) (a + i) ((((S286.2.1 (o + 1) (a + i)) + (S.2.1 (h + 1) i)) + bk) - 1000000000)) (pB o) := hFL153286.A pB_1
                    have F_25 : Fr ((uA S153 (o + 1) (a + w) 0)) (uA S286 (o + 1) (a + i) ((((S286.2.1 (o + 1) (a + i)) + (S.2.1 (h + 1) i)) + bk) - 1000000000)) (pB o) := hL286_.A pB_1
                    have i_26 : cX G (uA S286 (o + 1) (a + i) ((((S286.2.1 (o + 1) (a + i)) + (S.2.1 (h + 1) i)) + bk) - 1000000000)) o 0 0 := hI286.limb (Or.inl (exq_s ho)) ho ⟨(by omega), (by omega)⟩
                    refine lv_iinc (v := iv (i + 1)) (lv' := [(16, .int (iv (i + 1))), (15, .int (iv 1)), (17, .int (iv (((S286.2.1 (o + 1) (a + i)) + (S.2.1 (h + 1) i)) + bk))), (14, .int (iv 1)), (12, .long (jv cy)), (8, .long (jv gg)), (6, .long (jv (((S.2.1 (o + 1) (a + w)) * 1000000000) + (S.2.1 (o + 1) ((a + w) - 1))))), (4, .long (jv (S.2.1 (h + 1) (w - 1)))), (0, .ref (G.2.2.1 + o)), (1, .int (iv a)), (2, .ref (G.2.2.1 + h)), (3, .int (iv w))]) hx hb dX0_digitAt_345 hl (k := 2) rfl ((Int32.ofInt_add _ _).symm) (by decide) rfl (fun ls hl => ?_)
                    refine lv_goto (tgt := 286) hx hb dX0_digitAt_348 (by decide) ?_
                    exact ih_286 (uA S286 (o + 1) (a + i) ((((S286.2.1 (o + 1) (a + i)) + (S.2.1 (h + 1) i)) + bk) - 1000000000)) (i + 1) 1 _ _ _ (by omega) i_26 F_23 F_24 F_25 (by omega) (by omega) hc3 (fun j j0 => by rw [uA_ne (by omega)]; exact hun3 j (by omega)) (show _ = _ by rw [V_upd (by omega) (by omega), V_stp (by omega), V_stp (by omega), pw_stp (by omega), show (0 : Int) + i = i by omega]; exact madd hval3 (by rw [← hun3 (a + i) (by omega)]; omega)) hW hL (lv_sub hl [0, 1, 3, 4, 5, 6, 7, 8, 9, 10, 11] rfl)
            exact loop_286 (_ + 1) (uA S153 (o + 1) (a + w) 0) 0 0 _ _ _ (Nat.lt_succ_self _) i_14 F_12 F_13 Fr.rf (by omega) (by omega) hc (fun j _ => rfl) (show (0 : Int) + 0 * 1 = 0 + 0 by decide) hW hL (lv_sub hl [0, 1, 2, 3, 4, 5, 6, 7, 8, 9, 10] rfl)
        · refine lv_lload hx hb dX0_digitAt_159 (lv_at hl 2 rfl) ?_
          refine lv_aload_n hx hb dX0_digitAt_161 rfl (lv_at hl 7 rfl) ?_
          refine g_X0_9 Cx hW (k := h) (big_l hh) hh (v := .ref (G.2.2.1 + (h + 1))) (hI153.rq.1 h hh) dX0_digitAt_162 ?_
          refine lv_iload hx hb dX0_digitAt_165 (lv_at hl 0 rfl) ?_
          refine rIald Cx hW (k := h + 1) (big_l1 hh) (big_row hh).1 (by decide) (by omega) (by omega) dX0_digitAt_167 ?_
          have q_27 := limbR hI hh i
          refine r_i (b := S.2.1 (h + 1) i) ((hL153_ (h + 1) (pB_no (tau_ne (big_row hh).1 ho (fun h => by cases h)) (ne1S noh))).2.1 i) ?_
          refine r_i2l hx hb ⟨(by omega), (by omega)⟩ dX0_digitAt_168 ?_
          refine r_lmul hx hb dX0_digitAt_169 ?_
          obtain ⟨gw, egw⟩ : ∃ z : Int, z = gg * (S.2.1 (h + 1) i) := ⟨_, rfl⟩
          refine r_j (b := gw) egw.symm ?_
          have hgw : 0 ≤ gw ∧ gw ≤ 999999999 * 999999999 := by rw [egw]; exact mul_r (by omega) (by omega) (by omega) (by omega)
          refine lv_lload hx hb dX0_digitAt_170 (lv_at hl 1 rfl) ?_
          refine r_ladd hx hb dX0_digitAt_172 ?_
          refine lv_lstore (lv' := [(15, .long (jv (gw + cy))), (14, .int (iv i)), (12, .long (jv cy)), (8, .long (jv gg)), (6, .long (jv (((S.2.1 (o + 1) (a + w)) * 1000000000) + (S.2.1 (o + 1) ((a + w) - 1))))), (4, .long (jv (S.2.1 (h + 1) (w - 1)))), (0, .ref (G.2.2.1 + o)), (1, .int (iv a)), (2, .ref (G.2.2.1 + h)), (3, .int (iv w))]) hx hb dX0_digitAt_173 hl (by decide) rfl (fun ls hl => ?_)
          refine lv_lload hx hb dX0_digitAt_175 (lv_at hl 0 rfl) ?_
          refine lv_ldc2 hx hb hown (hts _ w_1163) dX0_digitAt_177 ?_
          refine r_ldiv hx hb ⟨(by omega), (by omega)⟩ ⟨(by omega), (by omega)⟩ (by omega) dX0_digitAt_180 ?_
          obtain ⟨cz, ecz⟩ : ∃ z : Int, z = (gw + cy).tdiv 1000000000 := ⟨_, rfl⟩
          have hcz := tdivL (a := gw + cy) (b := 1000000000) (by omega)
          rw [← ecz] at hcz
          refine r_j (b := cz) ecz.symm ?_
          clear ecz
          refine lv_lstore (lv' := [(12, .long (jv cz)), (15, .long (jv (gw + cy))), (14, .int (iv i)), (8, .long (jv gg)), (6, .long (jv (((S.2.1 (o + 1) (a + w)) * 1000000000) + (S.2.1 (o + 1) ((a + w) - 1))))), (4, .long (jv (S.2.1 (h + 1) (w - 1)))), (0, .ref (G.2.2.1 + o)), (1, .int (iv a)), (2, .ref (G.2.2.1 + h)), (3, .int (iv w))]) hx hb dX0_digitAt_181 hl (by decide) rfl (fun ls hl => ?_)
          refine lv_aload_n hx hb dX0_digitAt_183 rfl (lv_at hl 6 rfl) ?_
          refine g_X0_9 Cx hW (k := o) (big_l ho) ho (v := .ref (G.2.2.1 + (o + 1))) (hI153.rq.1 o ho) dX0_digitAt_184 ?_
          refine lv_iload_n hx hb dX0_digitAt_187 rfl (lv_at hl 7 rfl) ?_
          refine lv_iload hx hb dX0_digitAt_188 (lv_at hl 2 rfl) ?_
          refine r_iadd hx hb dX0_digitAt_190 ?_
          refine rIald Cx hW (k := o + 1) (big_l1 ho) (big_row ho).1 (by decide) (by omega) (by omega) dX0_digitAt_191 ?_
          have q_28 := limbR hI153 ho (a + i)
          refine r_i (b := S153.2.1 (o + 1) (a + i)) rfl ?_
          refine lv_lload hx hb dX0_digitAt_192 (lv_at hl 1 rfl) ?_
          refine lv_lload hx hb dX0_digitAt_194 (lv_at hl 0 rfl) ?_
          refine lv_ldc2 hx hb hown (hts _ w_1163) dX0_digitAt_196 ?_
          refine r_lmul hx hb dX0_digitAt_199 ?_
          refine r_lsub hx hb dX0_digitAt_200 ?_
          refine r_l2i hx hb dX0_digitAt_201 ?_
          refine r_isub hx hb dX0_digitAt_202 ?_
          refine lv_istore (lv' := [(17, .int (iv ((S153.2.1 (o + 1) (a + i)) - ((gw + cy) - (cz * 1000000000))))), (12, .long (jv cz)), (15, .long (jv (gw + cy))), (14, .int (iv i)), (8, .long (jv gg)), (6, .long (jv (((S.2.1 (o + 1) (a + w)) * 1000000000) + (S.2.1 (o + 1) ((a + w) - 1))))), (4, .long (jv (S.2.1 (h + 1) (w - 1)))), (0, .ref (G.2.2.1 + o)), (1, .int (iv a)), (2, .ref (G.2.2.1 + h)), (3, .int (iv w))]) hx hb dX0_digitAt_203 hl (by decide) rfl (fun ls hl => ?_)
          refine lv_iload hx hb dX0_digitAt_205 (lv_at hl 0 rfl) ?_
          refine r_if_ge (tgt := 223) hx hb ⟨(by omega), (by omega)⟩ dX0_digitAt_207 (by decide) (fun c_29 => ?_) (fun c_29 => ?_)
          · refine lv_aload_n hx hb dX0_digitAt_223 rfl (lv_at hl 7 rfl) ?_
            refine g_X0_9 Cx hW (k := o) (big_l ho) ho (v := .ref (G.2.2.1 + (o + 1))) (hI153.rq.1 o ho) dX0_digitAt_224 ?_
            refine lv_iload_n hx hb dX0_digitAt_227 rfl (lv_at hl 8 rfl) ?_
            refine lv_iload hx hb dX0_digitAt_228 (lv_at hl 3 rfl) ?_
            refine r_iadd hx hb dX0_digitAt_230 ?_
            refine lv_iload hx hb dX0_digitAt_231 (lv_at hl 0 rfl) ?_
            refine rIast Cx hW hL (k := o + 1) (big_l1 ho) (big_row ho).1 (by decide) (by omega) (by omega) dX0_digitAt_233 (fun H locs hW hL => ?_)
            have F_30 : Fr S (uA S153 (o + 1) (a + i) ((S153.2.1 (o + 1) (a + i)) - ((gw + cy) - (cz * 1000000000)))) (pB o) := hFm153.A pB_1
            have F_31 : Fr S (uA S153 (o + 1) (a + i) ((S153.2.1 (o + 1) (a + i)) - ((gw + cy) - (cz * 1000000000)))) (pB o) := hL153_.A pB_1
            have i_32 : cX G (uA S153 (o + 1) (a + i) ((S153.2.1 (o + 1) (a + i)) - ((gw + cy) - (cz * 1000000000)))) o 0 0 := hI153.limb (Or.inl (exq_s ho)) ho ⟨(by omega), (by omega)⟩
            refine lv_iinc (v := iv (i + 1)) (lv' := [(14, .int (iv (i + 1))), (17, .int (iv ((S153.2.1 (o + 1) (a + i)) - ((gw + cy) - (cz * 1000000000))))), (12, .long (jv cz)), (15, .long (jv (gw + cy))), (8, .long (jv gg)), (6, .long (jv (((S.2.1 (o + 1) (a + w)) * 1000000000) + (S.2.1 (o + 1) ((a + w) - 1))))), (4, .long (jv (S.2.1 (h + 1) (w - 1)))), (0, .ref (G.2.2.1 + o)), (1, .int (iv a)), (2, .ref (G.2.2.1 + h)), (3, .int (iv w))]) hx hb dX0_digitAt_234 hl (k := 3) rfl ((Int32.ofInt_add _ _).symm) (by decide) rfl (fun ls hl => ?_)
            refine lv_goto (tgt := 153) hx hb dX0_digitAt_237 (by decide) ?_
            exact ih_153 (uA S153 (o + 1) (a + i) ((S153.2.1 (o + 1) (a + i)) - ((gw + cy) - (cz * 1000000000)))) (i + 1) cz _ _ _ (by omega) i_32 F_30 F_31 (by omega) (by omega) hc (fun j j0 => by rw [uA_ne (by omega)]; exact hun j (by omega)) (show _ = _ by rw [V_upd (by omega) (by omega), V_stp (by omega), V_stp (by omega), pw_stp (by omega), show (0 : Int) + i = i by omega]; exact msub hval (by rw [← hun (a + i) (by omega), ← egw]; omega)) hW hL (lv_sub hl [0, 2, 4, 5, 6, 7, 8, 9, 10] rfl)
          · refine lv_iload hx hb dX0_digitAt_210 (lv_at hl 0 rfl) ?_
            refine lv_ldc hx hb hown (hts _ w_1293) dX0_digitAt_212 ?_
            refine r_iadd hx hb dX0_digitAt_214 ?_
            refine lv_istore (lv' := [(17, .int (iv (((S153.2.1 (o + 1) (a + i)) - ((gw + cy) - (cz * 1000000000))) + 1000000000))), (12, .long (jv cz)), (15, .long (jv (gw + cy))), (14, .int (iv i)), (8, .long (jv gg)), (6, .long (jv (((S.2.1 (o + 1) (a + w)) * 1000000000) + (S.2.1 (o + 1) ((a + w) - 1))))), (4, .long (jv (S.2.1 (h + 1) (w - 1)))), (0, .ref (G.2.2.1 + o)), (1, .int (iv a)), (2, .ref (G.2.2.1 + h)), (3, .int (iv w))]) hx hb dX0_digitAt_215 hl (by decide) rfl (fun ls hl => ?_)
            refine lv_lload hx hb dX0_digitAt_217 (lv_at hl 1 rfl) ?_
            refine lv_lconst (v := jv 1) hx hb dX0_digitAt_219 (by decide) ?_
            refine r_ladd hx hb dX0_digitAt_220 ?_
            refine lv_lstore (lv' := [(12, .long (jv (cz + 1))), (17, .int (iv (((S153.2.1 (o + 1) (a + i)) - ((gw + cy) - (cz * 1000000000))) + 1000000000))), (15, .long (jv (gw + cy))), (14, .int (iv i)), (8, .long (jv gg)), (6, .long (jv (((S.2.1 (o + 1) (a + w)) * 1000000000) + (S.2.1 (o + 1) ((a + w) - 1))))), (4, .long (jv (S.2.1 (h + 1) (w - 1)))), (0, .ref (G.2.2.1 + o)), (1, .int (iv a)), (2, .ref (G.2.2.1 + h)), (3, .int (iv w))]) hx hb dX0_digitAt_221 hl (by decide) rfl (fun ls hl => ?_)
            refine lv_aload_n hx hb dX0_digitAt_223 rfl (lv_at hl 7 rfl) ?_
            refine g_X0_9 Cx hW (k := o) (big_l ho) ho (v := .ref (G.2.2.1 + (o + 1))) (hI153.rq.1 o ho) dX0_digitAt_224 ?_
            refine lv_iload_n hx hb dX0_digitAt_227 rfl (lv_at hl 8 rfl) ?_
            refine lv_iload hx hb dX0_digitAt_228 (lv_at hl 3 rfl) ?_
            refine r_iadd hx hb dX0_digitAt_230 ?_
            refine lv_iload hx hb dX0_digitAt_231 (lv_at hl 1 rfl) ?_
            refine rIast Cx hW hL (k := o + 1) (big_l1 ho) (big_row ho).1 (by decide) (by omega) (by omega) dX0_digitAt_233 (fun H locs hW hL => ?_)
            have F_33 : Fr S (uA S153 (o + 1) (a + i) (((S153.2.1 (o + 1) (a + i)) - ((gw + cy) - (cz * 1000000000))) + 1000000000)) (pB o) := hFm153.A pB_1
            have F_34 : Fr S (uA S153 (o + 1) (a + i) (((S153.2.1 (o + 1) (a + i)) - ((gw + cy) - (cz * 1000000000))) + 1000000000)) (pB o) := hL153_.A pB_1
            have i_35 : cX G (uA S153 (o + 1) (a + i) (((S153.2.1 (o + 1) (a + i)) - ((gw + cy) - (cz * 1000000000))) + 1000000000)) o 0 0 := hI153.limb (Or.inl (exq_s ho)) ho ⟨(by omega), (by omega)⟩
            refine lv_iinc (v := iv (i + 1)) (lv' := [(14, .int (iv (i + 1))), (12, .long (jv (cz + 1))), (17, .int (iv (((S153.2.1 (o + 1) (a + i)) - ((gw + cy) - (cz * 1000000000))) + 1000000000))), (15, .long (jv (gw + cy))), (8, .long (jv gg)), (6, .long (jv (((S.2.1 (o + 1) (a + w)) * 1000000000) + (S.2.1 (o + 1) ((a + w) - 1))))), (4, .long (jv (S.2.1 (h + 1) (w - 1)))), (0, .ref (G.2.2.1 + o)), (1, .int (iv a)), (2, .ref (G.2.2.1 + h)), (3, .int (iv w))]) hx hb dX0_digitAt_234 hl (k := 3) rfl ((Int32.ofInt_add _ _).symm) (by decide) rfl (fun ls hl => ?_)
            refine lv_goto (tgt := 153) hx hb dX0_digitAt_237 (by decide) ?_
            exact ih_153 (uA S153 (o + 1) (a + i) (((S153.2.1 (o + 1) (a + i)) - ((gw + cy) - (cz * 1000000000))) + 1000000000)) (i + 1) (cz + 1) _ _ _ (by omega) i_35 F_33 F_34 (by omega) (by omega) hc (fun j j0 => by rw [uA_ne (by omega)]; exact hun j (by omega)) (show _ = _ by rw [V_upd (by omega) (by omega), V_stp (by omega), V_stp (by omega), pw_stp (by omega), show (0 : Int) + i = i by omega]; exact msub hval (by rw [← hun (a + i) (by omega), ← egw]; omega)) hW hL (lv_sub hl [0, 1, 4, 5, 6, 7, 8, 9, 10] rfl)
    exact loop_153 (_ + 1) S 0 0 _ _ _ (Nat.lt_succ_self _) hI (Fr.rf : Fr S S (pB o)) Fr.rf (by omega) (by omega) rfl (fun j _ => rfl) (show (0 : Int) - 0 * 1 = 0 - gg * 0 by omega) hW hL (lv_sub hl [0, 1, 2, 3, 4, 5, 6, 7, 8] rfl)
  refine lv_iconst (v := iv 0) hx hb dX0_digitAt_64 (by decide) ?_
  refine lv_istore (lv' := [(12, .int (iv 0)), (10, .long (jv ((((S.2.1 (o + 1) (a + w)) * 1000000000) + (S.2.1 (o + 1) ((a + w) - 1))) - gl))), (8, .long (jv g0)), (6, .long (jv (((S.2.1 (o + 1) (a + w)) * 1000000000) + (S.2.1 (o + 1) ((a + w) - 1))))), (4, .long (jv (S.2.1 (h + 1) (w - 1)))), (0, .ref (G.2.2.1 + o)), (1, .int (iv a)), (2, .ref (G.2.2.1 + h)), (3, .int (iv w))]) hx hb dX0_digitAt_65 hl (by decide) rfl (fun ls hl => ?_)
  have loop_67 : ∀ (fuel : Nat) (i : Int) (rs : Int) (gs : Int) (H : Heap) (locs : List Loc) (ls : Array Slot), (3 - i).toNat < fuel → (0 ≤ i ∧ i ≤ 3 ∧ gs = g0 - i ∧ 0 ≤ gs) → (Hd (rs = (S.2.1 (o + 1) (a + w) * 1000000000 + S.2.1 (o + 1) (a + w - 1)) - gs * S.2.1 (h + 1) (w - 1))) → (0 ≤ rs ∧ rs ≤ 2000000000) → (1000000000 ≤ gs → rs < 1000000000) → (Hd (V (S.2.1 (o + 1)) a (w + 1).toNat < (gs + 1) * V (S.2.1 (h + 1)) 0 w.toNat)) → sW G 294 S H → sL G locs → lv_has ls 18 [(12, .int (iv i)), (10, .long (jv rs)), (8, .long (jv gs)), (6, .long (jv (((S.2.1 (o + 1) (a + w)) * 1000000000) + (S.2.1 (o + 1) ((a + w) - 1))))), (4, .long (jv (S.2.1 (h + 1) (w - 1)))), (0, .ref (G.2.2.1 + o)), (1, .int (iv a)), (2, .ref (G.2.2.1 + h)), (3, .int (iv w))] → W p l e (rmk 1 0 0) s m args below meth c H locs 0 0 (MQ below (sQi G 294 (fun r u => cX G u o 0 0 ∧ Fr S u (pB o) ∧ (0 ≤ r ∧ r ≤ 999999999 ∧ u.1 = S.1 ∧ u.2.1 (o + 1) (a + w) = 0 ∧ V (u.2.1 (o + 1)) a w.toNat < V (S.2.1 (h + 1)) 0 w.toNat ∧ (∀ j, j < a ∨ a + w < j → u.2.1 (o + 1) j = S.2.1 (o + 1) j) ∧ Hd (V (S.2.1 (o + 1)) a (w + 1).toNat = r * V (S.2.1 (h + 1)) 0 w.toNat + V (u.2.1 (o + 1)) a w.toNat)))) args s 0 0 (sF G)) (F0 m 67 ls []) := by
    intro fuel
    induction fuel with
    | zero => intro i rs gs H locs ls hmeas hi hrs hrb hgB hlo hW hL hl; exact absurd hmeas (Nat.not_lt_zero _)
    | succ fuel ih_67 =>
      intro i rs gs H locs ls hmeas hi hrs hrb hgB hlo hW hL hl
      have hA : 1000000000 ≤ gs → V (S.2.1 (o + 1)) a (w + 1).toNat < gs * V (S.2.1 (h + 1)) 0 w.toNat := fun q => kn_A hU hV0 q
      have hB : rs * 1000000000 + S.2.1 (o + 1) (a + w - 2) < gs * S.2.1 (h + 1) (w - 2) → V (S.2.1 (o + 1)) a (w + 1).toNat < gs * V (S.2.1 (h + 1)) 0 w.toNat := fun q => kn_lo1 (U := V (S.2.1 (o + 1)) a (w + 1).toNat) (V := V (S.2.1 (h + 1)) 0 w.toNat) (U3 := (S.2.1 (o + 1) (a + w) * 1000000000 + S.2.1 (o + 1) (a + w - 1)) * 1000000000 + S.2.1 (o + 1) (a + w - 2)) (V2 := S.2.1 (h + 1) (w - 1) * 1000000000 + S.2.1 (h + 1) (w - 2)) hP eU hul eV hvl0 (by omega) (by have e := hrs; have e2 : gs * (S.2.1 (h + 1) (w - 1) * 1000000000 + S.2.1 (h + 1) (w - 2)) = gs * S.2.1 (h + 1) (w - 1) * 1000000000 + gs * S.2.1 (h + 1) (w - 2) := (by grind); rw [e2]; rw [e] at q; omega)
      have hA : Hd _ := hA
      have hB : Hd _ := hB
      refine lv_iload hx hb dX0_digitAt_67 (lv_at hl 0 rfl) ?_
      refine lv_iconst (v := iv 3) hx hb dX0_digitAt_69 (by decide) ?_
      refine r_icmp_ge (tgt := 147) hx hb ⟨(by omega), (by omega)⟩ ⟨(by omega), (by omega)⟩ dX0_digitAt_70 (by decide) (fun c_36 => ?_) (fun c_36 => ?_)
      · exact join_147 gs _ _ _ (by omega) hlo (show _ ≤ _ by first | exact (by have e := hrs; rcases Int.lt_or_le gs 1 with q | q; exact Int.le_trans (Int.mul_nonpos_of_nonpos_of_nonneg (by omega) hV0) hU0; exact kn_up (U := V (S.2.1 (o + 1)) a (w + 1).toNat) (V := V (S.2.1 (h + 1)) 0 w.toNat) (U3 := (S.2.1 (o + 1) (a + w) * 1000000000 + S.2.1 (o + 1) (a + w - 1)) * 1000000000 + S.2.1 (o + 1) (a + w - 2)) (V2 := S.2.1 (h + 1) (w - 1) * 1000000000 + S.2.1 (h + 1) (w - 2)) hP eU hul0 eV hvl hvl0 q (by have e2 : gs * (S.2.1 (h + 1) (w - 1) * 1000000000 + S.2.1 (h + 1) (w - 2)) = gs * S.2.1 (h + 1) (w - 1) * 1000000000 + gs * S.2.1 (h + 1) (w - 2) := (by grind); have e3 : rs = (S.2.1 (o + 1) (a + w) * 1000000000 + S.2.1 (o + 1) (a + w - 1)) - gs * S.2.1 (h + 1) (w - 1) := e; have e4 : gs * S.2.1 (h + 1) (w - 2) ≤ rs * 1000000000 + S.2.1 (o + 1) (a + w - 2) := (by first | (rw [← egv]; omega) | (have := mul_r (a := gs) (b := S.2.1 (h + 1) (w - 2)) (A := 999999999) (B := 999999999) (by omega) (by omega) (by omega) (by omega); omega)); rw [e2]; omega) (by omega)) | exact (by have e0 : gs = g0 - 3 := (by omega); have e1 := kn_up3 (U := V (S.2.1 (o + 1)) a (w + 1).toNat) (V := V (S.2.1 (h + 1)) 0 w.toNat) (P := pw (w - 1).toNat) (g := g0) hP1 eU1 hul10 eV1 hvl1 hvl10 (by omega) hg0.2.1 (by omega) hV0; rw [e0, show g0 - 3 - 1 = g0 - 4 by omega]; exact e1)) hW hL (lv_sub hl [2, 3, 4, 5, 6, 7, 8] rfl)
      · refine lv_lload hx hb dX0_digitAt_73 (lv_at hl 1 rfl) ?_
        refine lv_ldc2 hx hb hown (hts _ w_1163) dX0_digitAt_75 ?_
        refine r_lcmp hx hb ⟨(by omega), (by omega)⟩ ⟨(by omega), (by omega)⟩ dX0_digitAt_78 (fun z_37 az_37 bz_37 cz_37 => ?_)
        refine r_if_ge (tgt := 147) hx hb ⟨(by omega), (by omega)⟩ dX0_digitAt_79 (by decide) (fun c_38 => ?_) (fun c_38 => ?_)
        · exact join_147 gs _ _ _ (by omega) hlo (show _ ≤ _ by first | exact (by have e := hrs; rcases Int.lt_or_le gs 1 with q | q; exact Int.le_trans (Int.mul_nonpos_of_nonpos_of_nonneg (by omega) hV0) hU0; exact kn_up (U := V (S.2.1 (o + 1)) a (w + 1).toNat) (V := V (S.2.1 (h + 1)) 0 w.toNat) (U3 := (S.2.1 (o + 1) (a + w) * 1000000000 + S.2.1 (o + 1) (a + w - 1)) * 1000000000 + S.2.1 (o + 1) (a + w - 2)) (V2 := S.2.1 (h + 1) (w - 1) * 1000000000 + S.2.1 (h + 1) (w - 2)) hP eU hul0 eV hvl hvl0 q (by have e2 : gs * (S.2.1 (h + 1) (w - 1) * 1000000000 + S.2.1 (h + 1) (w - 2)) = gs * S.2.1 (h + 1) (w - 1) * 1000000000 + gs * S.2.1 (h + 1) (w - 2) := (by grind); have e3 : rs = (S.2.1 (o + 1) (a + w) * 1000000000 + S.2.1 (o + 1) (a + w - 1)) - gs * S.2.1 (h + 1) (w - 1) := e; have e4 : gs * S.2.1 (h + 1) (w - 2) ≤ rs * 1000000000 + S.2.1 (o + 1) (a + w - 2) := (by first | (rw [← egv]; omega) | (have := mul_r (a := gs) (b := S.2.1 (h + 1) (w - 2)) (A := 999999999) (B := 999999999) (by omega) (by omega) (by omega) (by omega); omega)); rw [e2]; omega) (by omega)) | exact (by have e0 : gs = g0 - 3 := (by omega); have e1 := kn_up3 (U := V (S.2.1 (o + 1)) a (w + 1).toNat) (V := V (S.2.1 (h + 1)) 0 w.toNat) (P := pw (w - 1).toNat) (g := g0) hP1 eU1 hul10 eV1 hvl1 hvl10 (by omega) hg0.2.1 (by omega) hV0; rw [e0, show g0 - 3 - 1 = g0 - 4 by omega]; exact e1)) hW hL (lv_sub hl [2, 3, 4, 5, 6, 7, 8] rfl)
        · refine lv_lload hx hb dX0_digitAt_82 (lv_at hl 2 rfl) ?_
          refine lv_ldc2 hx hb hown (hts _ w_1163) dX0_digitAt_84 ?_
          refine r_lcmp hx hb ⟨(by omega), (by omega)⟩ ⟨(by omega), (by omega)⟩ dX0_digitAt_87 (fun z_39 az_39 bz_39 cz_39 => ?_)
          refine r_if_ge (tgt := 128) hx hb ⟨(by omega), (by omega)⟩ dX0_digitAt_88 (by decide) (fun c_40 => ?_) (fun c_40 => ?_)
          · refine lv_lload hx hb dX0_digitAt_128 (lv_at hl 2 rfl) ?_
            refine lv_lconst (v := jv 1) hx hb dX0_digitAt_130 (by decide) ?_
            refine r_lsub hx hb dX0_digitAt_131 ?_
            refine lv_lstore (lv' := [(8, .long (jv (gs - 1))), (12, .int (iv i)), (10, .long (jv rs)), (6, .long (jv (((S.2.1 (o + 1) (a + w)) * 1000000000) + (S.2.1 (o + 1) ((a + w) - 1))))), (4, .long (jv (S.2.1 (h + 1) (w - 1)))), (0, .ref (G.2.2.1 + o)), (1, .int (iv a)), (2, .ref (G.2.2.1 + h)), (3, .int (iv w))]) hx hb dX0_digitAt_132 hl (by decide) rfl (fun ls hl => ?_)
            refine lv_lload hx hb dX0_digitAt_134 (lv_at hl 2 rfl) ?_
            refine lv_lload hx hb dX0_digitAt_136 (lv_at hl 4 rfl) ?_
            refine r_ladd hx hb dX0_digitAt_138 ?_
            refine lv_lstore (lv' := [(10, .long (jv (rs + (S.2.1 (h + 1) (w - 1))))), (8, .long (jv (gs - 1))), (12, .int (iv i)), (6, .long (jv (((S.2.1 (o + 1) (a + w)) * 1000000000) + (S.2.1 (o + 1) ((a + w) - 1))))), (4, .long (jv (S.2.1 (h + 1) (w - 1)))), (0, .ref (G.2.2.1 + o)), (1, .int (iv a)), (2, .ref (G.2.2.1 + h)), (3, .int (iv w))]) hx hb dX0_digitAt_139 hl (by decide) rfl (fun ls hl => ?_)
            refine lv_iinc (v := iv (i + 1)) (lv' := [(12, .int (iv (i + 1))), (10, .long (jv (rs + (S.2.1 (h + 1) (w - 1))))), (8, .long (jv (gs - 1))), (6, .long (jv (((S.2.1 (o + 1) (a + w)) * 1000000000) + (S.2.1 (o + 1) ((a + w) - 1))))), (4, .long (jv (S.2.1 (h + 1) (w - 1)))), (0, .ref (G.2.2.1 + o)), (1, .int (iv a)), (2, .ref (G.2.2.1 + h)), (3, .int (iv w))]) hx hb dX0_digitAt_141 hl (k := 2) rfl ((Int32.ofInt_add _ _).symm) (by decide) rfl (fun ls hl => ?_)
            refine lv_goto (tgt := 67) hx hb dX0_digitAt_144 (by decide) ?_
            exact ih_67 (i + 1) (rs + (S.2.1 (h + 1) (w - 1))) (gs - 1) _ _ _ (by omega) (by omega) (show _ = _ by have e := hrs; rw [e]; grind) (by omega) (fun q => by have e : gs = 1000000001 := (by omega); have e2 := hrs; rw [e] at e2; have e3 : rs = _ := e2; omega) (show _ < _ by rw [show gs - 1 + 1 = gs by omega]; first | exact hA (by omega) | exact hB (by rw [← egv]; omega)) hW hL (lv_sub hl [0, 1, 2, 3, 4, 5, 6, 7, 8] rfl)
          · refine lv_lload hx hb dX0_digitAt_91 (lv_at hl 2 rfl) ?_
            refine lv_aload_n hx hb dX0_digitAt_93 rfl (lv_at hl 7 rfl) ?_
            refine g_X0_9 Cx hW (k := h) (big_l hh) hh (v := .ref (G.2.2.1 + (h + 1))) (hI.rq.1 h hh) dX0_digitAt_94 ?_
            refine lv_iload_n hx hb dX0_digitAt_97 rfl (lv_at hl 8 rfl) ?_
            refine lv_iconst (v := iv 2) hx hb dX0_digitAt_98 (by decide) ?_
            refine r_isub hx hb dX0_digitAt_99 ?_
            refine rIald Cx hW (k := h + 1) (big_l1 hh) (big_row hh).1 (by decide) (by omega) (by omega) dX0_digitAt_100 ?_
            have q_41 := limbR hI hh (w - 2)
            refine r_i (b := S.2.1 (h + 1) (w - 2)) rfl ?_
            refine r_i2l hx hb ⟨(by omega), (by omega)⟩ dX0_digitAt_101 ?_
            refine r_lmul hx hb dX0_digitAt_102 ?_
            obtain ⟨gv, egv⟩ : ∃ z : Int, z = gs * (S.2.1 (h + 1) (w - 2)) := ⟨_, rfl⟩
            refine r_j (b := gv) egv.symm ?_
            have hgv0 : gs = 0 → gv = 0 := fun q => by rw [egv, q, Int.zero_mul]
            have hgv : 0 ≤ gv ∧ gv ≤ 1000000001 * 999999999 := by rw [egv]; exact mul_r (by omega) (by omega) (by omega) (by omega)
            refine lv_lload hx hb dX0_digitAt_103 (lv_at hl 1 rfl) ?_
            refine lv_ldc2 hx hb hown (hts _ w_1163) dX0_digitAt_105 ?_
            refine r_lmul hx hb dX0_digitAt_108 ?_
            refine lv_aload_n hx hb dX0_digitAt_109 rfl (lv_at hl 5 rfl) ?_
            refine g_X0_9 Cx hW (k := o) (big_l ho) ho (v := .ref (G.2.2.1 + (o + 1))) (hI.rq.1 o ho) dX0_digitAt_110 ?_
            refine lv_iload_n hx hb dX0_digitAt_113 rfl (lv_at hl 6 rfl) ?_
            refine lv_iload_n hx hb dX0_digitAt_114 rfl (lv_at hl 8 rfl) ?_
            refine r_iadd hx hb dX0_digitAt_115 ?_
            refine lv_iconst (v := iv 2) hx hb dX0_digitAt_116 (by decide) ?_
            refine r_isub hx hb dX0_digitAt_117 ?_
            refine rIald Cx hW (k := o + 1) (big_l1 ho) (big_row ho).1 (by decide) (by omega) (by omega) dX0_digitAt_118 ?_
            have q_42 := limbR hI ho ((a + w) - 2)
            refine r_i (b := S.2.1 (o + 1) ((a + w) - 2)) rfl ?_
            refine r_i2l hx hb ⟨(by omega), (by omega)⟩ dX0_digitAt_119 ?_
            refine r_ladd hx hb dX0_digitAt_120 ?_
            refine r_lcmp hx hb ⟨(by omega), (by omega)⟩ ⟨(by omega), (by omega)⟩ dX0_digitAt_121 (fun z_43 az_43 bz_43 cz_43 => ?_)
            refine r_if_gt (tgt := 128) hx hb ⟨(by omega), (by omega)⟩ dX0_digitAt_122 (by decide) (fun c_44 => ?_) (fun c_44 => ?_)
            · refine lv_lload hx hb dX0_digitAt_128 (lv_at hl 2 rfl) ?_
              refine lv_lconst (v := jv 1) hx hb dX0_digitAt_130 (by decide) ?_
              refine r_lsub hx hb dX0_digitAt_131 ?_
              refine lv_lstore (lv' := [(8, .long (jv (gs - 1))), (12, .int (iv i)), (10, .long (jv rs)), (6, .long (jv (((S.2.1 (o + 1) (a + w)) * 1000000000) + (S.2.1 (o + 1) ((a + w) - 1))))), (4, .long (jv (S.2.1 (h + 1) (w - 1)))), (0, .ref (G.2.2.1 + o)), (1, .int (iv a)), (2, .ref (G.2.2.1 + h)), (3, .int (iv w))]) hx hb dX0_digitAt_132 hl (by decide) rfl (fun ls hl => ?_)
              refine lv_lload hx hb dX0_digitAt_134 (lv_at hl 2 rfl) ?_
              refine lv_lload hx hb dX0_digitAt_136 (lv_at hl 4 rfl) ?_
              refine r_ladd hx hb dX0_digitAt_138 ?_
              refine lv_lstore (lv' := [(10, .long (jv (rs + (S.2.1 (h + 1) (w - 1))))), (8, .long (jv (gs - 1))), (12, .int (iv i)), (6, .long (jv (((S.2.1 (o + 1) (a + w)) * 1000000000) + (S.2.1 (o + 1) ((a + w) - 1))))), (4, .long (jv (S.2.1 (h + 1) (w - 1)))), (0, .ref (G.2.2.1 + o)), (1, .int (iv a)), (2, .ref (G.2.2.1 + h)), (3, .int (iv w))]) hx hb dX0_digitAt_139 hl (by decide) rfl (fun ls hl => ?_)
              refine lv_iinc (v := iv (i + 1)) (lv' := [(12, .int (iv (i + 1))), (10, .long (jv (rs + (S.2.1 (h + 1) (w - 1))))), (8, .long (jv (gs - 1))), (6, .long (jv (((S.2.1 (o + 1) (a + w)) * 1000000000) + (S.2.1 (o + 1) ((a + w) - 1))))), (4, .long (jv (S.2.1 (h + 1) (w - 1)))), (0, .ref (G.2.2.1 + o)), (1, .int (iv a)), (2, .ref (G.2.2.1 + h)), (3, .int (iv w))]) hx hb dX0_digitAt_141 hl (k := 2) rfl ((Int32.ofInt_add _ _).symm) (by decide) rfl (fun ls hl => ?_)
              refine lv_goto (tgt := 67) hx hb dX0_digitAt_144 (by decide) ?_
              exact ih_67 (i + 1) (rs + (S.2.1 (h + 1) (w - 1))) (gs - 1) _ _ _ (by omega) (by omega) (show _ = _ by have e := hrs; rw [e]; grind) (by omega) (fun q => by have e : gs = 1000000001 := (by omega); have e2 := hrs; rw [e] at e2; have e3 : rs = _ := e2; omega) (show _ < _ by rw [show gs - 1 + 1 = gs by omega]; first | exact hA (by omega) | exact hB (by rw [← egv]; omega)) hW hL (lv_sub hl [0, 1, 2, 3, 4, 5, 6, 7, 8] rfl)
            · refine lv_goto (tgt := 147) hx hb dX0_digitAt_125 (by decide) ?_
              exact join_147 gs _ _ _ (by omega) hlo (show _ ≤ _ by first | exact (by have e := hrs; rcases Int.lt_or_le gs 1 with q | q; exact Int.le_trans (Int.mul_nonpos_of_nonpos_of_nonneg (by omega) hV0) hU0; exact kn_up (U := V (S.2.1 (o + 1)) a (w + 1).toNat) (V := V (S.2.1 (h + 1)) 0 w.toNat) (U3 := (S.2.1 (o + 1) (a + w) * 1000000000 + S.2.1 (o + 1) (a + w - 1)) * 1000000000 + S.2.1 (o + 1) (a + w - 2)) (V2 := S.2.1 (h + 1) (w - 1) * 1000000000 + S.2.1 (h + 1) (w - 2)) hP eU hul0 eV hvl hvl0 q (by have e2 : gs * (S.2.1 (h + 1) (w - 1) * 1000000000 + S.2.1 (h + 1) (w - 2)) = gs * S.2.1 (h + 1) (w - 1) * 1000000000 + gs * S.2.1 (h + 1) (w - 2) := (by grind); have e3 : rs = (S.2.1 (o + 1) (a + w) * 1000000000 + S.2.1 (o + 1) (a + w - 1)) - gs * S.2.1 (h + 1) (w - 1) := e; have e4 : gs * S.2.1 (h + 1) (w - 2) ≤ rs * 1000000000 + S.2.1 (o + 1) (a + w - 2) := (by first | (rw [← egv]; omega) | (have := mul_r (a := gs) (b := S.2.1 (h + 1) (w - 2)) (A := 999999999) (B := 999999999) (by omega) (by omega) (by omega) (by omega); omega)); rw [e2]; omega) (by omega)) | exact (by have e0 : gs = g0 - 3 := (by omega); have e1 := kn_up3 (U := V (S.2.1 (o + 1)) a (w + 1).toNat) (V := V (S.2.1 (h + 1)) 0 w.toNat) (P := pw (w - 1).toNat) (g := g0) hP1 eU1 hul10 eV1 hvl1 hvl10 (by omega) hg0.2.1 (by omega) hV0; rw [e0, show g0 - 3 - 1 = g0 - 4 by omega]; exact e1)) hW hL (lv_sub hl [2, 3, 4, 5, 6, 7, 8] rfl)
  exact loop_67 (_ + 1) 0 ((((S.2.1 (o + 1) (a + w)) * 1000000000) + (S.2.1 (o + 1) ((a + w) - 1))) - gl) g0 _ _ _ (Nat.lt_succ_self _) (by omega) (show _ = _ by rw [← egl]) (by omega) (by omega) (kn_lo0 (U := V (S.2.1 (o + 1)) a (w + 1).toNat) (V := V (S.2.1 (h + 1)) 0 w.toNat) (P := pw (w - 1).toNat) hP1 eU1 hul1 eV1 hvl10 (by omega) (by have := hg0.2.2; grind)) hW hL (lv_sub hl [0, 1, 2, 3, 4, 5, 6, 7, 8] rfl)
