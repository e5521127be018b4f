def WTv (S : sS) (w : Int) (wr wk wv : Int → Int) : Prop := S.1 188 14 = w ∧ ∀ i, 0 ≤ i → i < w → S.2.1 225 i = wr i ∧ S.2.1 226 i = wk i ∧ nv (S.2.1 227) (i * 8) = wv i
theorem WTv.of {S u : sS} {w : Int} {wr wk wv : Int → Int} (h : WTv S w wr wk wv) (e : u.1 188 14 = S.1 188 14) (a : u.2.1 225 = S.2.1 225) (b : u.2.1 226 = S.2.1 226) (c : u.2.1 227 = S.2.1 227) : WTv u w wr wk wv := by
  unfold WTv; rw [e, a, b, c]; exact h
theorem nv227 {G : sG} {S u : sS} {x : Nat} {b a p : Int} (hI : cX G S x 0 b) (hp : p % 8 = 0 ∧ 0 ≤ p ∧ p + 7 < 328) (hf : ∀ y, y < a ∨ a + 8 ≤ y → u.2.1 227 y = S.2.1 227 y) (ha : p + 8 ≤ a ∨ a + 8 ≤ p) : nv (u.2.1 227) p = nv (S.2.1 227) p :=
  nv_8 (slot7 hI (.inr (.inr (.inr rfl))) hp.1 hp.2.1 (show _ < (328 : Int) from hp.2.2)) (fun y y0 y1 => hf y (by omega))
theorem WTv.less {S u : sS} {w v : Int} {wr wk wv : Int → Int} (h : WTv S w wr wk wv) (hv : v ≤ w) (e : u.1 188 14 = v) (a : u.2.1 225 = S.2.1 225) (b : u.2.1 226 = S.2.1 226) (c : u.2.1 227 = S.2.1 227) : WTv u v wr wk wv := by
  unfold WTv; rw [e, a, b, c]; exact ⟨rfl, fun i i0 i1 => h.2 i i0 (by omega)⟩
def okx (n : Int) (wh : Int → Int) (x : Int) : Prop := 1 ≤ x ∧ x ≤ n ∧ wh x = 1
set_option maxRecDepth 100000 in
set_option maxHeartbeats 4000000 in
theorem b_X1_branch (l : Launch) (G : sG) (S : sS) {T : Int} {kp vp : Int → Int} {o : Nat} {n mm mx : Int} {A : Int → Int → Int} {wh : Int → Int} {cc : Int} {RR : Int → Int → Int} {w : Int} {wr wk wv : Int → Int} (hI : cX G S 0 0 0) (hCR : CQ G T kp vp S) (hat : S.1 189 3 ≤ 999900000) (hm : mdl o) (hmr : S.2.2.2 188 15 = .ref (G.2.2.1 + o)) (hMD : Hd (MDv S o n mm mx A wh)) (hR : Hd (RWv S n cc RR)) (hWT : Hd (WTv S w wr wk wv)) (hc4 : 0 ≤ cc ∧ cc ≤ 40 ∧ 0 ≤ w ∧ w ≤ cc) (hk2 : (kp (S.1 189 3) = 2 ∧ kp (S.1 189 3 + 1) = 2) ∧ S.1 189 3 + 1 < T) : Met l yX1_branch (.code yX1_branch cX1_branch 2 (some .int) :: tb) (rmk 5 0 0) (sPc G 294 S [.ref (G.2.2.1 + 188)]) (sQi G 294 (fun r u => cX G u 0 0 0 ∧ Fr S u pBr ∧ (CQ G T kp vp u ∧ 0 ≤ r ∧ r ≤ 6 ∧ u.2.2.2 188 15 = S.2.2.2 188 15 ∧ u.1 188 16 = S.1 188 16 ∧ Hd (¬ okx n wh (vp (S.1 189 3)) → r = 4) ∧ Hd (okx n wh (vp (S.1 189 3)) → (40 ≤ cc → r = 6) ∧ (cc < 40 → r = 0 ∧ u.1 189 3 = S.1 189 3 + 2 ∧ RWv u n (cc + 1) (upR RR (cc + 1) (limr (vp (S.1 189 3)) (vp (S.1 189 3 + 1)) 0)) ∧ WTv u (w + 1) (upf wr w cc) (upf wk w (vp (S.1 189 3))) (upf wv w (vp (S.1 189 3 + 1)))))))) 0 0 (sF G) := by
  refine sEnter (by decide) (Nat.le_of_ble_eq_true rfl) ?_
  intro p e s m args below meth c Cx hr hlk hnm hW ls hl
  have Cx : sC G p m c cX1_branch 2 s args RX1 := Cx
  obtain ⟨hx, hb, hml, hown, hts⟩ := id Cx.1
  have hL : sL G [] := sL_nil
  have hl : lv_has ls 2 [(0, .ref (G.2.2.1 + 188))] := hl
  have hW0 := hW
  have hMn := hMD.1; have hMm := hMD.2.1; have hMx := hMD.2.2.1; have hn12 : 0 ≤ S.1 o 2 ∧ S.1 o 2 ≤ 12 := hI.fi o 2 3 (mdl_k hm) hm.1; have hm16 : 0 ≤ S.1 o 3 ∧ S.1 o 3 ≤ 16 := hI.fi o 3 3 (mdl_k hm) hm.1
  have hat0 : 0 ≤ S.1 189 3 ∧ S.1 189 3 ≤ 1000000000 := hI.fi 189 3 4 (by decide) rfl
  have hwt1 := hWT.1; have hRc := hR.2.1; have hRn := hR.1
  refine lv_aload_n hx hb dX1_branch_0 rfl (lv_at hl 0 rfl) ?_
  refine g_X1_12 Cx hW (k := 188) (by decide) rfl (v := .ref (G.2.2.1 + 189)) (rf_188_0 hI) dX1_branch_1 ?_
  have q_1 : 0 ≤ S.1 189 3 ∧ S.1 189 3 ≤ 1000000000 := hI.fi 189 3 4 (by decide) rfl
  refine sBi (sV (As := []) (rest := []) (k := 189) Cx (b_X4_takeCount l G S (T := T) (kp := kp) (vp := vp) hI hCR (by omega) ⟨by omega, hk2.1.1⟩) (c_X1_203 Cx rfl rfl (rmk_ok (by omega) (by decide))) hW (by decide) rfl rfl rfl hl.1 rfl (Nat.le_of_ble_eq_true rfl) dX1_branch_4 ⟨Nat.le_of_ble_eq_true rfl, Nat.le_of_ble_eq_true rfl⟩) hL (fun r_4 u_2 H locs k_3 hW hL => ?_)
  obtain ⟨iu_2, fu_2, xu_2⟩ := k_3
  have F_5 := (Fr.rf : Fr S S pBr).trans (fu_2.to (p1_sub rfl))
  have hrow := (show _ ∧ _ from xu_2.2.2.2.2)
  have cr_6 : CQ G T kp vp u_2 := xu_2.1
  refine lv_istore_n (lv' := [(1, .int (iv r_4)), (0, .ref (G.2.2.1 + 188))]) hx hb dX1_branch_7 rfl hl (by decide) rfl (fun ls hl => ?_)
  refine lv_aload_n hx hb dX1_branch_8 rfl (lv_at hl 1 rfl) ?_
  refine g_X1_12 Cx hW (k := 188) (by decide) rfl (v := .ref (G.2.2.1 + 189)) (rf_188_0 iu_2) dX1_branch_9 ?_
  refine lv_aload_n hx hb dX1_branch_12 rfl (lv_at hl 1 rfl) ?_
  refine g_X1_48 Cx hW (k := 188) (by decide) rfl (v := .ref (G.2.2.1 + 219)) (rf_188_8 iu_2) dX1_branch_13 ?_
  have q_7 : 0 ≤ u_2.1 189 3 ∧ u_2.1 189 3 ≤ 1000000000 := iu_2.fi 189 3 4 (by decide) rfl
  refine sBv (sV (As := [.ref (G.2.2.1 + 219)]) (rest := []) (k := 189) Cx (b_X4_takeNumber_219 l G u_2 (T := T) (kp := kp) (vp := vp) iu_2 cr_6 (by omega) ⟨by omega, by rw [show u_2.1 189 3 = S.1 189 3 + 1 by omega]; exact hk2.1.2⟩) (c_X1_126 Cx rfl rfl (rmk_ok (by omega) (by decide))) hW (by decide) rfl rfl rfl hl.1 rfl (Nat.le_of_ble_eq_true rfl) dX1_branch_16 ⟨Nat.le_of_ble_eq_true rfl, Nat.le_of_ble_eq_true rfl⟩) hL (fun u_8 H locs k_9 hW hL => ?_)
  obtain ⟨iu_8, fu_8, xu_8⟩ := k_9
  have F_10 := F_5.trans (fu_8.to (pRg_sub rfl rfl rfl))
  have bv_11 : bv u_8 219 = vp (S.1 189 3 + 1) := (show bv u_8 219 = vp _ from xu_8.2.2.2.2.1).trans (congrArg vp (by omega))
  have cr_12 : CQ G T kp vp u_8 := xu_8.1
  refine lv_aload_n hx hb dX1_branch_19 rfl (lv_at hl 1 rfl) ?_
  refine g_X1_69 Cx hW (k := 188) (by decide) rfl (v := .ref (G.2.2.1 + o)) ((((fu_8 188 rfl).2.2.2 15).trans ((fu_2 188 rfl).2.2.2 15)).trans hmr) dX1_branch_20 ?_
  refine lv_iload_n hx hb dX1_branch_23 rfl (lv_at hl 0 rfl) ?_
  have q_13 : 0 ≤ S.1 o 2 ∧ S.1 o 2 ≤ 12 := hI.fi o 2 3 (mdl_k hm) hm.1
  have lk_14 : u_8.1 o 2 = S.1 o 2 := ((fu_8 o (mo_pRg_219 hm).1).1 2).trans ((fu_2 o (p1_no (tau_ne hm.1 (rfl : tau 189 = .inl 4) (fun h => by cases h)))).1 2)
  refine sBi (sV (As := [.int (iv r_4)]) (rest := []) (k := o) Cx (b_X3_isWhole l G u_8 (o := o) (j := r_4) iu_8 hm (by omega)) (c_X1_184 Cx rfl rfl (rmk_ok (by omega) (by decide))) hW (mdl_l hm) hm.1 rfl rfl hl.1 rfl (Nat.le_of_ble_eq_true rfl) dX1_branch_24 ⟨Nat.le_of_ble_eq_true rfl, Nat.le_of_ble_eq_true rfl⟩) hL (fun r_17 u_15 H locs k_16 hW hL => ?_)
  obtain ⟨eu_15, xu_15⟩ := k_16
  rw [eu_15] at hW
  have hwh : r_17 = 1 ↔ okx n wh (vp (S.1 189 3)) := by have y := (show _ ↔ _ from xu_15.2.2.2); have M := (MDv.of hMD (show u_8.1 o 2 = S.1 o 2 from ((fu_8 o (mo_pRg_219 hm).1).1 2).trans ((fu_2 o (p1_no (tau_ne hm.1 (rfl : tau 189 = .inl 4) (fun h => by cases h)))).1 2)) (show u_8.1 o 3 = S.1 o 3 from ((fu_8 o (mo_pRg_219 hm).1).1 3).trans ((fu_2 o (p1_no (tau_ne hm.1 (rfl : tau 189 = .inl 4) (fun h => by cases h)))).1 3)) (show u_8.1 o 4 = S.1 o 4 from ((fu_8 o (mo_pRg_219 hm).1).1 4).trans ((fu_2 o (p1_no (tau_ne hm.1 (rfl : tau 189 = .inl 4) (fun h => by cases h)))).1 4)) (show u_8.2.1 (o + 1) = S.2.1 (o + 1) from funext fun x => ((fu_8 (o + 1) (mo_pRg_219 hm).2.1).2.1 x).trans ((fu_2 (o + 1) (p1_no (tau_ne hm.2.1 (rfl : tau 189 = .inl 4) (fun h => by cases h)))).2.1 x)) (show u_8.2.1 (o + 2) = S.2.1 (o + 2) from funext fun x => ((fu_8 (o + 2) (mo_pRg_219 hm).2.2).2.1 x).trans ((fu_2 (o + 2) (p1_no (tau_ne hm.2.2.1 (rfl : tau 189 = .inl 4) (fun h => by cases h)))).2.1 x))); unfold okx; constructor; (intro q; have e := y.mp q; have e1 : r_4 = vp (S.1 189 3) := (by omega); rw [e1] at e; exact ⟨e.1, by have := M.1; omega, (M.2.2.2.2 _ e.1 (by have := M.1; omega)).symm.trans e.2.2⟩); (intro q; have e1 : r_4 = vp (S.1 189 3) := (by omega); exact y.mpr (by rw [e1]; exact ⟨q.1, by have := M.1; omega, (M.2.2.2.2 _ q.1 q.2.1).trans q.2.2⟩))
  have hwh : Hd _ := hwh
  refine r_if_ne (tgt := 32) hx hb ⟨(by omega), (by omega)⟩ dX1_branch_27 (by decide) (fun c_18 => ?_) (fun c_18 => ?_)
  · refine lv_aload_n hx hb dX1_branch_32 rfl (lv_at hl 1 rfl) ?_
    refine g_X1_21 Cx hW (k := 188) (by decide) rfl (v := .ref (G.2.2.1 + 193)) (rf_188_1 iu_8) dX1_branch_33 ?_
    have q_19 : 0 ≤ S.1 193 9 ∧ S.1 193 9 ≤ 40 := hI.fi 193 9 6 (by decide) rfl
    have lk_20 : u_8.1 193 9 = S.1 193 9 := ((fu_8 193 rfl).1 9).trans ((fu_2 193 rfl).1 9)
    refine sBi (sV (As := []) (rest := []) (k := 193) Cx (s_X6_isFull_193 l G u_8  iu_8) (c_X1_206 Cx rfl rfl (rmk_ok (by omega) (by decide))) hW (by decide) rfl rfl rfl hl.1 rfl (Nat.le_of_ble_eq_true rfl) dX1_branch_36 ⟨Nat.le_of_ble_eq_true rfl, Nat.le_of_ble_eq_true rfl⟩) hL (fun r_23 u_21 H locs k_22 hW hL => ?_)
    obtain ⟨eu_21, xu_21⟩ := k_22
    rw [eu_21] at hW
    refine r_if_ne (tgt := 51) hx hb ⟨(by omega), (by omega)⟩ dX1_branch_39 (by decide) (fun c_24 => ?_) (fun c_24 => ?_)
    · refine lv_bipush (v := iv 6) hx hb dX1_branch_51 (by decide) ?_
      have q_25 : (-2147483648) ≤ S.1 188 16 ∧ S.1 188 16 ≤ 2147483647 := hI.fi 188 16 1 (by decide) rfl
      have lk_26 : u_8.1 188 16 = S.1 188 16 := ((fu_8 188 rfl).1 16).trans ((fu_2 188 rfl).1 16)
      have q_27 : 0 ≤ u_8.1 189 3 ∧ u_8.1 189 3 ≤ 1000000000 := iu_8.fi 189 3 4 (by decide) rfl
      exact sIret Cx hr hlk hW hL ⟨iu_8, F_10, ⟨cr_12, (by omega), (by omega), (show u_8.2.2.2 188 15 = S.2.2.2 188 15 from ((fu_8 188 rfl).2.2.2 15).trans ((fu_2 188 rfl).2.2.2 15)), (show u_8.1 188 16 = S.1 188 16 from ((fu_8 188 rfl).1 16).trans ((fu_2 188 rfl).1 16)), (fun q => absurd (hwh.mp (by omega)) q), (fun q => ⟨fun _ => rfl, fun z => by exfalso; omega⟩)⟩⟩ dX1_branch_53
    · refine lv_aload_n hx hb dX1_branch_42 rfl (lv_at hl 1 rfl) ?_
      have q_28 : 0 ≤ S.1 188 14 ∧ S.1 188 14 ≤ 40 := hI.fi 188 14 1 (by decide) rfl
      refine g_X1_103 Cx hW (k := 188) (by decide) rfl (v := S.1 188 14) (((fu_8 188 rfl).1 14).trans ((fu_2 188 rfl).1 14)) dX1_branch_43 ?_
      refine lv_bipush (v := iv 40) hx hb dX1_branch_46 (by decide) ?_
      refine r_icmp_lt (tgt := 54) hx hb ⟨(by omega), (by omega)⟩ ⟨(by omega), (by omega)⟩ dX1_branch_48 (by decide) (fun c_29 => ?_) (fun c_29 => ?_)
      · refine lv_aload_n hx hb dX1_branch_54 rfl (lv_at hl 1 rfl) ?_
        refine g_X1_57 Cx hW (k := 188) (by decide) rfl (v := .ref (G.2.2.1 + 225)) (rf_188_11 iu_8) dX1_branch_55 ?_
        refine lv_aload_n hx hb dX1_branch_58 rfl (lv_at hl 1 rfl) ?_
        refine g_X1_103 Cx hW (k := 188) (by decide) rfl (v := S.1 188 14) (((fu_8 188 rfl).1 14).trans ((fu_2 188 rfl).1 14)) dX1_branch_59 ?_
        refine lv_aload_n hx hb dX1_branch_62 rfl (lv_at hl 1 rfl) ?_
        refine g_X1_21 Cx hW (k := 188) (by decide) rfl (v := .ref (G.2.2.1 + 193)) (rf_188_1 iu_8) dX1_branch_63 ?_
        refine sBi (sV (As := []) (rest := [.int (iv (S.1 188 14)), .ref (G.2.2.1 + 225)]) (k := 193) Cx (s_X6_count_193 l G u_8  iu_8) (c_X1_209 Cx rfl rfl (rmk_ok (by omega) (by decide))) hW (by decide) rfl rfl rfl hl.1 rfl (Nat.le_of_ble_eq_true rfl) dX1_branch_66 ⟨Nat.le_of_ble_eq_true rfl, Nat.le_of_ble_eq_true rfl⟩) hL (fun r_32 u_30 H locs k_31 hW hL => ?_)
        obtain ⟨eu_30, xu_30⟩ := k_31
        rw [eu_30] at hW
        refine rIast Cx hW hL (k := 225) (by decide) rfl (by decide) (by omega) (by omega) dX1_branch_69 (fun H locs hW hL => ?_)
        have F_33 : Fr S (uA u_8 225 (S.1 188 14) r_32) pBr := F_10.A rfl
        have i_34 : cX G (uA u_8 225 (S.1 188 14) r_32) 0 0 0 := iu_8.A (by decide) (by decide) (by decide) (show 0 ≤ r_32 ∧ r_32 ≤ 40 from ⟨by omega, by omega⟩)
        have cr_35 : CQ G T kp vp (uA u_8 225 (S.1 188 14) r_32) := cr_12.A (by decide) (by decide)
        refine lv_aload_n hx hb dX1_branch_70 rfl (lv_at hl 1 rfl) ?_
        refine g_X1_60 Cx hW (k := 188) (by decide) rfl (v := .ref (G.2.2.1 + 226)) (rf_188_12 i_34) dX1_branch_71 ?_
        refine lv_aload_n hx hb dX1_branch_74 rfl (lv_at hl 1 rfl) ?_
        refine g_X1_103 Cx hW (k := 188) (by decide) rfl (v := S.1 188 14) ((uA_f).trans (((fu_8 188 rfl).1 14).trans ((fu_2 188 rfl).1 14))) dX1_branch_75 ?_
        refine lv_iload_n hx hb dX1_branch_78 rfl (lv_at hl 0 rfl) ?_
        refine rIast Cx hW hL (k := 226) (by decide) rfl (by decide) (by omega) (by omega) dX1_branch_79 (fun H locs hW hL => ?_)
        have F_36 : Fr S (uA (uA u_8 225 (S.1 188 14) r_32) 226 (S.1 188 14) r_4) pBr := F_33.A rfl
        have i_37 : cX G (uA (uA u_8 225 (S.1 188 14) r_32) 226 (S.1 188 14) r_4) 0 0 0 := i_34.A (by decide) (by decide) (by decide) (show (-2147483648) ≤ r_4 ∧ r_4 ≤ 2147483647 from ⟨by omega, by omega⟩)
        have cr_38 : CQ G T kp vp (uA (uA u_8 225 (S.1 188 14) r_32) 226 (S.1 188 14) r_4) := cr_35.A (by decide) (by decide)
        refine lv_aload_n hx hb dX1_branch_80 rfl (lv_at hl 1 rfl) ?_
        refine g_X1_48 Cx hW (k := 188) (by decide) rfl (v := .ref (G.2.2.1 + 219)) (rf_188_8 i_37) dX1_branch_81 ?_
        refine lv_aload_n hx hb dX1_branch_84 rfl (lv_at hl 1 rfl) ?_
        refine g_X1_63 Cx hW (k := 188) (by decide) rfl (v := .ref (G.2.2.1 + 227)) (rf_188_13 i_37) dX1_branch_85 ?_
        refine lv_aload_n hx hb dX1_branch_88 rfl (lv_at hl 1 rfl) ?_
        refine g_X1_103 Cx hW (k := 188) (by decide) rfl (v := S.1 188 14) ((uA_f).trans ((uA_f).trans (((fu_8 188 rfl).1 14).trans ((fu_2 188 rfl).1 14)))) dX1_branch_89 ?_
        refine lv_bipush (v := iv 8) hx hb dX1_branch_92 (by decide) ?_
        refine r_imul hx hb dX1_branch_94 ?_
        have q_39 : 0 ≤ u_8.1 219 1 ∧ u_8.1 219 1 ≤ 32 := iu_8.fi 219 1 0 (by decide) rfl
        have lk_40 : (uA (uA u_8 225 (S.1 188 14) r_32) 226 (S.1 188 14) r_4).1 219 1 = u_8.1 219 1 := (uA_f).trans (uA_f)
        have q_41 : (-1) ≤ u_8.1 219 2 ∧ u_8.1 219 2 ≤ 1 := iu_8.fi 219 2 0 (by decide) rfl
        have lk_42 : (uA (uA u_8 225 (S.1 188 14) r_32) 226 (S.1 188 14) r_4).1 219 2 = u_8.1 219 2 := (uA_f).trans (uA_f)
        refine sBv (sV (As := [.ref (G.2.2.1 + 227), .int (iv ((S.1 188 14) * 8))]) (rest := []) (k := 219) Cx (b_X0_save l G (uA (uA u_8 225 (S.1 188 14) r_32) 226 (S.1 188 14) r_4) (o := 219) (k := 227) (a := (S.1 188 14) * 8) (N := 328) i_37 rfl ⟨by decide, rfl, by decide, rfl, rfl, rfl⟩ (by omega) (show _ ≤ (7 : Int) ∧ (_ → _ ≤ (999999 : Int)) from ⟨(by omega), fun q => by have e : (uA (uA u_8 225 (S.1 188 14) r_32) 226 (S.1 188 14) r_4).2.1 220 6 = u_8.2.1 220 6 := (uA_ne (fun h => absurd h.1 (by decide))).trans (uA_ne (fun h => absurd h.1 (by decide))); rw [e]; exact xu_8.2.2.2.1 (by omega)⟩) (fun q _ => by rcases q with q | q <;> exact absurd q (by decide))) (c_X1_149 Cx rfl rfl (rmk_ok (by omega) (by decide))) hW (by decide) rfl rfl rfl hl.1 rfl (Nat.le_of_ble_eq_true rfl) dX1_branch_95 ⟨Nat.le_of_ble_eq_true rfl, Nat.le_of_ble_eq_true rfl⟩) hL (fun u_43 H locs k_44 hW hL => ?_)
        obtain ⟨iu_43, fu_43, xu_43⟩ := k_44
        have F_45 := F_36.trans (fu_43.to (p1_sub rfl))
        have cr_46 : CQ G T kp vp u_43 := cr_38.fr fu_43 rfl rfl rfl rfl
        refine lv_aload_n hx hb dX1_branch_98 rfl (lv_at hl 1 rfl) ?_
        refine lv_dup hx hb dX1_branch_99 rfl ?_
        refine g_X1_103 Cx hW (k := 188) (by decide) rfl (v := S.1 188 14) (((fu_43 188 rfl).1 14).trans ((uA_f).trans ((uA_f).trans (((fu_8 188 rfl).1 14).trans ((fu_2 188 rfl).1 14))))) dX1_branch_100 ?_
        refine lv_iconst (v := iv 1) hx hb dX1_branch_103 (by decide) ?_
        refine r_iadd hx hb dX1_branch_104 ?_
        refine p_X1_103 Cx hW hL (k := 188) (by decide) rfl dX1_branch_105 (fun H locs hW hL => ?_)
        have F_47 : Fr S (uF u_43 188 14 ((S.1 188 14) + 1)) pBr := F_45.F rfl
        have i_48 : cX G (uF u_43 188 14 ((S.1 188 14) + 1)) 0 0 0 := iu_43.F rfl rfl (show 0 ≤ (S.1 188 14) + 1 ∧ (S.1 188 14) + 1 ≤ 40 from ⟨by omega, by omega⟩)
        have cr_49 : CQ G T kp vp (uF u_43 188 14 ((S.1 188 14) + 1)) := cr_46.F (by decide)
        refine lv_aload_n hx hb dX1_branch_108 rfl (lv_at hl 1 rfl) ?_
        refine g_X1_21 Cx hW (k := 188) (by decide) rfl (v := .ref (G.2.2.1 + 193)) (rf_188_1 i_48) dX1_branch_109 ?_
        refine lv_iload_n hx hb dX1_branch_112 rfl (lv_at hl 0 rfl) ?_
        refine lv_aload_n hx hb dX1_branch_113 rfl (lv_at hl 1 rfl) ?_
        refine g_X1_48 Cx hW (k := 188) (by decide) rfl (v := .ref (G.2.2.1 + 219)) (rf_188_8 i_48) dX1_branch_114 ?_
        refine lv_iconst (v := iv 0) hx hb dX1_branch_117 (by decide) ?_
        have lk_50 : (uF u_43 188 14 ((S.1 188 14) + 1)).1 219 1 = u_8.1 219 1 := (uF_ne (fun h => absurd h.2 (by decide))).trans (((fu_43 219 rfl).1 1).trans ((uA_f).trans (uA_f)))
        refine sBv (sV (As := [.int (iv r_4), .ref (G.2.2.1 + 219), .int (iv 0)]) (rest := []) (k := 193) Cx (b_X6_addLimit_193 l G (uF u_43 188 14 ((S.1 188 14) + 1)) (z := r_4) (ab := 0) (n := n) (cc := cc) (RR := RR) i_48 (by omega) (by omega) (by omega) (fun q => by have e : (uF u_43 188 14 ((S.1 188 14) + 1)).2.1 220 6 = u_8.2.1 220 6 := (uF_a).trans (((fu_43 220 rfl).2.1 6).trans ((uA_ne (fun h => absurd h.1 (by decide))).trans (uA_ne (fun h => absurd h.1 (by decide))))); rw [e]; exact xu_8.2.2.2.1 (by omega)) (RWv.of hR (show (uF u_43 188 14 ((S.1 188 14) + 1)).1 193 8 = S.1 193 8 from (uF_ne (fun h => absurd h.2 (by decide))).trans (((fu_43 193 rfl).1 8).trans ((uA_f).trans ((uA_f).trans (((fu_8 193 rfl).1 8).trans ((fu_2 193 rfl).1 8)))))) (show (uF u_43 188 14 ((S.1 188 14) + 1)).1 193 9 = S.1 193 9 from (uF_ne (fun h => absurd h.2 (by decide))).trans (((fu_43 193 rfl).1 9).trans ((uA_f).trans ((uA_f).trans (((fu_8 193 rfl).1 9).trans ((fu_2 193 rfl).1 9)))))) (show (uF u_43 188 14 ((S.1 188 14) + 1)).2.1 194 = S.2.1 194 from funext fun x => (uF_a).trans (((fu_43 194 rfl).2.1 x).trans ((uA_ne (fun h => absurd h.1 (by decide))).trans ((uA_ne (fun h => absurd h.1 (by decide))).trans (((fu_8 194 rfl).2.1 x).trans ((fu_2 194 rfl).2.1 x))))))) (show Hd (bs (uF u_43 188 14 ((S.1 188 14) + 1)) 219) from (bs_F (fun h => absurd h (by decide)) (bs_fr fu_43 rfl xu_8.2.2.2.2.2)))) (c_X1_212 Cx rfl rfl (rmk_ok (by omega) (by decide))) hW (by decide) rfl rfl rfl hl.1 rfl (Nat.le_of_ble_eq_true rfl) dX1_branch_118 ⟨Nat.le_of_ble_eq_true rfl, Nat.le_of_ble_eq_true rfl⟩) hL (fun u_51 H locs k_52 hW hL => ?_)
        obtain ⟨iu_51, fu_51, xu_51⟩ := k_52
        have F_53 := F_47.trans (fu_51.to pRw_Br)
        have cr_54 : CQ G T kp vp u_51 := cr_49.fr fu_51 rfl rfl rfl rfl
        refine lv_iconst (v := iv 0) hx hb dX1_branch_121 (by decide) ?_
        have q_55 : (-2147483648) ≤ S.1 188 16 ∧ S.1 188 16 ≤ 2147483647 := hI.fi 188 16 1 (by decide) rfl
        have lk_56 : u_51.1 188 16 = S.1 188 16 := ((fu_51 188 rfl).1 16).trans ((uF_ne (fun h => absurd h.2 (by decide))).trans (((fu_43 188 rfl).1 16).trans ((uA_f).trans ((uA_f).trans (((fu_8 188 rfl).1 16).trans ((fu_2 188 rfl).1 16))))))
        have q_57 : 0 ≤ u_8.1 189 3 ∧ u_8.1 189 3 ≤ 1000000000 := iu_8.fi 189 3 4 (by decide) rfl
        have lk_58 : u_51.1 189 3 = u_8.1 189 3 := ((fu_51 189 rfl).1 3).trans ((uF_ne (fun h => absurd h.2 (by decide))).trans (((fu_43 189 rfl).1 3).trans ((uA_f).trans (uA_f))))
        have lk_59 : u_51.1 188 14 = (S.1 188 14) + 1 := ((fu_51 188 rfl).1 14).trans (uF_on)
        exact sIret Cx hr hlk hW hL ⟨iu_51, F_53, ⟨cr_54, (by omega), (by omega), (show u_51.2.2.2 188 15 = S.2.2.2 188 15 from ((fu_51 188 rfl).2.2.2 15).trans ((uF_r).trans (((fu_43 188 rfl).2.2.2 15).trans ((uA_r).trans ((uA_r).trans (((fu_8 188 rfl).2.2.2 15).trans ((fu_2 188 rfl).2.2.2 15))))))), (show u_51.1 188 16 = S.1 188 16 from ((fu_51 188 rfl).1 16).trans ((uF_ne (fun h => absurd h.2 (by decide))).trans (((fu_43 188 rfl).1 16).trans ((uA_f).trans ((uA_f).trans (((fu_8 188 rfl).1 16).trans ((fu_2 188 rfl).1 16))))))), (fun q => absurd (hwh.mp (by omega)) q), (fun q => ⟨fun z => by exfalso; omega, fun _ => ⟨rfl, by omega, (by have h := (show _ → _ → _ → _ from xu_51) (by omega) (by omega) (by have := (hwh.mp (by omega)).2.1; omega); rw [(show bv (uF u_43 188 14 ((S.1 188 14) + 1)) 219 = vp (S.1 189 3 + 1) from (bv_F (fun h => absurd h (by decide))).trans ((bv_fr fu_43 rfl rfl).trans ((bv_A (by decide)).trans ((bv_A (by decide)).trans (bv_11))))), show r_4 = vp (S.1 189 3) by omega] at h; exact h), ⟨by omega, fun i a b => by rw [(show u_51.2.1 225 = (uA u_8 225 (S.1 188 14) r_32).2.1 225 from funext fun x => ((fu_51 225 rfl).2.1 x).trans ((uF_a).trans (((fu_43 225 rfl).2.1 x).trans (uA_ne (fun h => absurd h.1 (by decide)))))), (show u_51.2.1 226 = (uA (uA u_8 225 (S.1 188 14) r_32) 226 (S.1 188 14) r_4).2.1 226 from funext fun x => ((fu_51 226 rfl).2.1 x).trans ((uF_a).trans ((fu_43 226 rfl).2.1 x))), (show u_51.2.1 227 = u_43.2.1 227 from funext fun x => ((fu_51 227 rfl).2.1 x).trans (uF_a))]; unfold upf; by_cases q : i = w; (rw [if_pos q, if_pos q, if_pos q]; refine ⟨?_, ?_, ?_⟩; (rw [show i = S.1 188 14 by omega, uA_on]; omega); (rw [show i = S.1 188 14 by omega, uA_on]; omega); (rw [show i * 8 = (S.1 188 14) * 8 by omega]; exact (show _ = _ from xu_43.1 (show Hd (bs (uA (uA u_8 225 (S.1 188 14) r_32) 226 (S.1 188 14) r_4) 219) from xu_8.2.2.2.2.2)).trans (show bv (uA (uA u_8 225 (S.1 188 14) r_32) 226 (S.1 188 14) r_4) 219 = vp (S.1 189 3 + 1) from (bv_A (by decide)).trans ((bv_A (by decide)).trans (bv_11))))); (rw [if_neg q, if_neg q, if_neg q]; have h := hWT.2 i a (by omega); refine ⟨?_, ?_, ?_⟩; (rw [uA_ne (by omega), (show u_8.2.1 225 = S.2.1 225 from funext fun x => ((fu_8 225 rfl).2.1 x).trans ((fu_2 225 rfl).2.1 x))]; exact h.1); (rw [uA_ne (by omega), (show (uA u_8 225 (S.1 188 14) r_32).2.1 226 = S.2.1 226 from funext fun x => (uA_ne (fun h => absurd h.1 (by decide))).trans (((fu_8 226 rfl).2.1 x).trans ((fu_2 226 rfl).2.1 x)))]; exact h.2.1); (rw [nv227 i_37 (by omega) xu_43.2 (by omega), (show (uA (uA u_8 225 (S.1 188 14) r_32) 226 (S.1 188 14) r_4).2.1 227 = S.2.1 227 from funext fun x => (uA_ne (fun h => absurd h.1 (by decide))).trans ((uA_ne (fun h => absurd h.1 (by decide))).trans (((fu_8 227 rfl).2.1 x).trans ((fu_2 227 rfl).2.1 x))))]; exact h.2.2))⟩⟩⟩)⟩⟩ dX1_branch_122
      · refine lv_bipush (v := iv 6) hx hb dX1_branch_51 (by decide) ?_
        have q_60 : (-2147483648) ≤ S.1 188 16 ∧ S.1 188 16 ≤ 2147483647 := hI.fi 188 16 1 (by decide) rfl
        have lk_61 : u_8.1 188 16 = S.1 188 16 := ((fu_8 188 rfl).1 16).trans ((fu_2 188 rfl).1 16)
        have q_62 : 0 ≤ u_8.1 189 3 ∧ u_8.1 189 3 ≤ 1000000000 := iu_8.fi 189 3 4 (by decide) rfl
        exact sIret Cx hr hlk hW hL ⟨iu_8, F_10, ⟨cr_12, (by omega), (by omega), (show u_8.2.2.2 188 15 = S.2.2.2 188 15 from ((fu_8 188 rfl).2.2.2 15).trans ((fu_2 188 rfl).2.2.2 15)), (show u_8.1 188 16 = S.1 188 16 from ((fu_8 188 rfl).1 16).trans ((fu_2 188 rfl).1 16)), (fun q => absurd (hwh.mp (by omega)) q), (fun q => ⟨fun _ => rfl, fun z => by exfalso; omega⟩)⟩⟩ dX1_branch_53
  · refine lv_iconst (v := iv 4) hx hb dX1_branch_30 (by decide) ?_
    have q_63 : (-2147483648) ≤ S.1 188 16 ∧ S.1 188 16 ≤ 2147483647 := hI.fi 188 16 1 (by decide) rfl
    have lk_64 : u_8.1 188 16 = S.1 188 16 := ((fu_8 188 rfl).1 16).trans ((fu_2 188 rfl).1 16)
    have q_65 : 0 ≤ u_8.1 189 3 ∧ u_8.1 189 3 ≤ 1000000000 := iu_8.fi 189 3 4 (by decide) rfl
    exact sIret Cx hr hlk hW hL ⟨iu_8, F_10, ⟨cr_12, (by omega), (by omega), (show u_8.2.2.2 188 15 = S.2.2.2 188 15 from ((fu_8 188 rfl).2.2.2 15).trans ((fu_2 188 rfl).2.2.2 15)), (show u_8.1 188 16 = S.1 188 16 from ((fu_8 188 rfl).1 16).trans ((fu_2 188 rfl).1 16)), (fun _ => rfl), (fun q => absurd (hwh.mpr q) (by omega))⟩⟩ dX1_branch_31

set_option maxRecDepth 100000 in
set_option maxHeartbeats 4000000 in
theorem b_X1_beginSecondTree (l : Launch) (G : sG) (S : sS) {T : Int} {kp vp : Int → Int} {o : Nat} {n mm mx : Int} {A : Int → Int → Int} {wh : Int → Int} {cc : Int} {RR : Int → Int → Int} {w : Int} {wr wk wv : Int → Int} (hI : cX G S 0 0 0) (hCR : CQ G T kp vp S) (hm : mdl o) (hmr : S.2.2.2 188 15 = .ref (G.2.2.1 + o)) (hMD : Hd (MDv S o n mm mx A wh)) (hR : Hd (RWv S n cc RR)) (hWT : Hd (WTv S w wr wk wv)) (hc4 : 0 ≤ cc ∧ cc ≤ 40 ∧ 1 ≤ w ∧ w ≤ 40) (hwr : 0 ≤ wr (w - 1) ∧ wr (w - 1) < cc ∧ 1 ≤ wk (w - 1) ∧ wk (w - 1) ≤ n) : Met l yX1_beginSecondTree (.code yX1_beginSecondTree cX1_beginSecondTree 1 none :: tb) (rmk 5 0 0) (sPc G 294 S [.ref (G.2.2.1 + 188)]) (sQv G 294 (fun u => cX G u 0 0 0 ∧ Fr S u pBr ∧ (CQ G T kp vp u ∧ u.1 189 3 = S.1 189 3 ∧ u.2.2.2 188 15 = S.2.2.2 188 15 ∧ u.1 188 16 = S.1 188 16 ∧ Hd (RWv u n (wr (w - 1) + 1) (upR RR (wr (w - 1) + 1) (limr (wk (w - 1)) (wv (w - 1)) 1))) ∧ Hd (WTv u (w - 1) wr wk wv)))) 0 0 (sF G) := by
  refine sEnter (by decide) (Nat.le_of_ble_eq_true rfl) ?_
  intro p e s m args below meth c Cx hr hlk hnm hW ls hl
  have Cx : sC G p m c cX1_beginSecondTree 1 s args RX1 := Cx
  obtain ⟨hx, hb, hml, hown, hts⟩ := id Cx.1
  have hL : sL G [] := sL_nil
  have hl : lv_has ls 1 [(0, .ref (G.2.2.1 + 188))] := hl
  have hW0 := hW
  have hMn := hMD.1; have hMm := hMD.2.1; have hMx := hMD.2.2.1; have hn12 : 0 ≤ S.1 o 2 ∧ S.1 o 2 ≤ 12 := hI.fi o 2 3 (mdl_k hm) hm.1; have hm16 : 0 ≤ S.1 o 3 ∧ S.1 o 3 ≤ 16 := hI.fi o 3 3 (mdl_k hm) hm.1
  have hwt1 := hWT.1; have hRc := hR.2.1; have hRn := hR.1
  refine lv_aload_n hx hb dX1_beginSecondTree_0 rfl (lv_at hl 0 rfl) ?_
  refine lv_dup hx hb dX1_beginSecondTree_1 rfl ?_
  have q_1 : 0 ≤ S.1 188 14 ∧ S.1 188 14 ≤ 40 := hI.fi 188 14 1 (by decide) rfl
  refine g_X1_103 Cx hW (k := 188) (by decide) rfl (v := S.1 188 14) rfl dX1_beginSecondTree_2 ?_
  refine lv_iconst (v := iv 1) hx hb dX1_beginSecondTree_5 (by decide) ?_
  refine r_isub hx hb dX1_beginSecondTree_6 ?_
  refine p_X1_103 Cx hW hL (k := 188) (by decide) rfl dX1_beginSecondTree_7 (fun H locs hW hL => ?_)
  have F_2 : Fr S (uF S 188 14 ((S.1 188 14) - 1)) pBr := (Fr.rf : Fr S S pBr).F rfl
  have i_3 : cX G (uF S 188 14 ((S.1 188 14) - 1)) 0 0 0 := hI.F rfl rfl (show 0 ≤ (S.1 188 14) - 1 ∧ (S.1 188 14) - 1 ≤ 40 from ⟨by omega, by omega⟩)
  have cr_4 : CQ G T kp vp (uF S 188 14 ((S.1 188 14) - 1)) := hCR.F (by decide)
  refine lv_aload_n hx hb dX1_beginSecondTree_10 rfl (lv_at hl 0 rfl) ?_
  refine g_X1_21 Cx hW (k := 188) (by decide) rfl (v := .ref (G.2.2.1 + 193)) (rf_188_1 i_3) dX1_beginSecondTree_11 ?_
  refine lv_aload_n hx hb dX1_beginSecondTree_14 rfl (lv_at hl 0 rfl) ?_
  refine g_X1_57 Cx hW (k := 188) (by decide) rfl (v := .ref (G.2.2.1 + 225)) (rf_188_11 i_3) dX1_beginSecondTree_15 ?_
  refine lv_aload_n hx hb dX1_beginSecondTree_18 rfl (lv_at hl 0 rfl) ?_
  refine g_X1_103 Cx hW (k := 188) (by decide) rfl (v := (S.1 188 14) - 1) uF_on dX1_beginSecondTree_19 ?_
  refine rIald Cx hW (k := 225) (by decide) rfl (by decide) (by omega) (by omega) dX1_beginSecondTree_22 ?_
  have q_5 : 0 ≤ S.2.1 225 ((S.1 188 14) - 1) ∧ S.2.1 225 ((S.1 188 14) - 1) ≤ 40 := hI.ai 225 ((S.1 188 14) - 1) (by decide)
  refine r_i (b := S.2.1 225 ((S.1 188 14) - 1)) uF_a ?_
  have hwl := hWT.2 (w - 1) (by omega) (by omega)
  have hwl1 : S.2.1 225 (S.1 188 14 - 1) = wr (w - 1) := by rw [hwt1]; exact hwl.1
  have hwl2 : S.2.1 226 (S.1 188 14 - 1) = wk (w - 1) := by rw [hwt1]; exact hwl.2.1
  refine sBv (sV (As := [.int (iv (S.2.1 225 ((S.1 188 14) - 1)))]) (rest := []) (k := 193) Cx (b_X6_keep_193 l G (uF S 188 14 ((S.1 188 14) - 1)) (k := S.2.1 225 ((S.1 188 14) - 1)) (n := n) (cc := cc) (RR := RR) i_3 (by omega) (RWv.of hR (show (uF S 188 14 ((S.1 188 14) - 1)).1 193 8 = S.1 193 8 from uF_ne (fun h => absurd h.2 (by decide))) (show (uF S 188 14 ((S.1 188 14) - 1)).1 193 9 = S.1 193 9 from uF_ne (fun h => absurd h.2 (by decide))) (show (uF S 188 14 ((S.1 188 14) - 1)).2.1 194 = S.2.1 194 from funext fun x => uF_a))) (c_X1_216 Cx rfl rfl (rmk_ok (by omega) (by decide))) hW (by decide) rfl rfl rfl hl.1 rfl (Nat.le_of_ble_eq_true rfl) dX1_beginSecondTree_23 ⟨Nat.le_of_ble_eq_true rfl, Nat.le_of_ble_eq_true rfl⟩) hL (fun u_6 H locs k_7 hW hL => ?_)
  obtain ⟨iu_6, fu_6, xu_6⟩ := k_7
  have F_8 := F_2.trans (fu_6.to (p1_sub rfl))
  have hrwk : RWv u_6 n (wr (w - 1)) RR := by have h := (show _ → _ → _ from xu_6) (by omega) (by omega); rw [hwl1] at h; exact h
  have cr_9 : CQ G T kp vp u_6 := cr_4.fr fu_6 rfl rfl rfl rfl
  refine lv_aload_n hx hb dX1_beginSecondTree_26 rfl (lv_at hl 0 rfl) ?_
  refine g_X1_48 Cx hW (k := 188) (by decide) rfl (v := .ref (G.2.2.1 + 219)) (rf_188_8 iu_6) dX1_beginSecondTree_27 ?_
  refine lv_aload_n hx hb dX1_beginSecondTree_30 rfl (lv_at hl 0 rfl) ?_
  refine g_X1_63 Cx hW (k := 188) (by decide) rfl (v := .ref (G.2.2.1 + 227)) (rf_188_13 iu_6) dX1_beginSecondTree_31 ?_
  refine lv_aload_n hx hb dX1_beginSecondTree_34 rfl (lv_at hl 0 rfl) ?_
  refine g_X1_103 Cx hW (k := 188) (by decide) rfl (v := (S.1 188 14) - 1) (((fu_6 188 rfl).1 14).trans (uF_on)) dX1_beginSecondTree_35 ?_
  refine lv_bipush (v := iv 8) hx hb dX1_beginSecondTree_38 (by decide) ?_
  refine r_imul hx hb dX1_beginSecondTree_40 ?_
  refine sBv (sV (As := [.ref (G.2.2.1 + 227), .int (iv (((S.1 188 14) - 1) * 8))]) (rest := []) (k := 219) Cx (b_X0_load l G u_6 (o := 219) (k := 227) (a := ((S.1 188 14) - 1) * 8) (N := 328) iu_6 rfl ⟨by decide, rfl, by decide, rfl, rfl, rfl⟩ (by omega)) (c_X1_157 Cx rfl rfl (rmk_ok (by omega) (by decide))) hW (by decide) rfl rfl rfl hl.1 rfl (Nat.le_of_ble_eq_true rfl) dX1_beginSecondTree_41 ⟨Nat.le_of_ble_eq_true rfl, Nat.le_of_ble_eq_true rfl⟩) hL (fun u_10 H locs k_11 hW hL => ?_)
  obtain ⟨iu_10, fu_10, xu_10⟩ := k_11
  have F_12 := F_8.trans (fu_10.to (pB_sub rfl rfl))
  have yu_10 : u_10.1 219 1 ≤ 7 := xu_10.1
  have bv_13 : bv u_10 219 = nv (u_6.2.1 227) (((S.1 188 14) - 1) * 8) := xu_10.2.2.2.2.2.2.2.1
  have bv_14 : bv u_10 219 = wv (w - 1) := ((show bv u_10 219 = nv (u_6.2.1 227) (((S.1 188 14) - 1) * 8) from bv_13)).trans (by rw [show ((S.1 188 14) - 1) * 8 = (w - 1) * 8 by omega, (show u_6.2.1 227 = S.2.1 227 from funext fun x => ((fu_6 227 rfl).2.1 x).trans (uF_a))]; exact hwl.2.2)
  have cr_15 : CQ G T kp vp u_10 := cr_9.fr fu_10 rfl rfl rfl rfl
  refine lv_aload_n hx hb dX1_beginSecondTree_44 rfl (lv_at hl 0 rfl) ?_
  refine g_X1_21 Cx hW (k := 188) (by decide) rfl (v := .ref (G.2.2.1 + 193)) (rf_188_1 iu_10) dX1_beginSecondTree_45 ?_
  refine lv_aload_n hx hb dX1_beginSecondTree_48 rfl (lv_at hl 0 rfl) ?_
  refine g_X1_60 Cx hW (k := 188) (by decide) rfl (v := .ref (G.2.2.1 + 226)) (rf_188_12 iu_10) dX1_beginSecondTree_49 ?_
  refine lv_aload_n hx hb dX1_beginSecondTree_52 rfl (lv_at hl 0 rfl) ?_
  refine g_X1_103 Cx hW (k := 188) (by decide) rfl (v := (S.1 188 14) - 1) (((fu_10 188 rfl).1 14).trans (((fu_6 188 rfl).1 14).trans (uF_on))) dX1_beginSecondTree_53 ?_
  refine rIald Cx hW (k := 226) (by decide) rfl (by decide) (by omega) (by omega) dX1_beginSecondTree_56 ?_
  have q_16 : (-2147483648) ≤ S.2.1 226 ((S.1 188 14) - 1) ∧ S.2.1 226 ((S.1 188 14) - 1) ≤ 2147483647 := hI.ai 226 ((S.1 188 14) - 1) (by decide)
  refine r_i (b := S.2.1 226 ((S.1 188 14) - 1)) (((fu_10 226 rfl).2.1 ((S.1 188 14) - 1)).trans (((fu_6 226 rfl).2.1 ((S.1 188 14) - 1)).trans (uF_a))) ?_
  refine lv_aload_n hx hb dX1_beginSecondTree_57 rfl (lv_at hl 0 rfl) ?_
  refine g_X1_48 Cx hW (k := 188) (by decide) rfl (v := .ref (G.2.2.1 + 219)) (rf_188_8 iu_10) dX1_beginSecondTree_58 ?_
  refine lv_iconst (v := iv 1) hx hb dX1_beginSecondTree_61 (by decide) ?_
  have q_17 : 0 ≤ u_10.1 219 1 ∧ u_10.1 219 1 ≤ 32 := iu_10.fi 219 1 0 (by decide) rfl
  refine sBv (sV (As := [.int (iv (S.2.1 226 ((S.1 188 14) - 1))), .ref (G.2.2.1 + 219), .int (iv 1)]) (rest := []) (k := 193) Cx (b_X6_addLimit_193 l G u_10 (z := S.2.1 226 ((S.1 188 14) - 1)) (ab := 1) (n := n) (cc := wr (w - 1)) (RR := RR) iu_10 (by omega) (by omega) (by omega) (fun q => by have e := xu_10.2.1 (by omega); exact e) (RWv.of hrwk (show u_10.1 193 8 = u_6.1 193 8 from (fu_10 193 rfl).1 8) (show u_10.1 193 9 = u_6.1 193 9 from (fu_10 193 rfl).1 9) (show u_10.2.1 194 = u_6.2.1 194 from funext fun x => (fu_10 194 rfl).2.1 x)) (show Hd (bs u_10 219) from xu_10.2.2.2.2.2.2.2.2)) (c_X1_212 Cx rfl rfl (rmk_ok (by omega) (by decide))) hW (by decide) rfl rfl rfl hl.1 rfl (Nat.le_of_ble_eq_true rfl) dX1_beginSecondTree_62 ⟨Nat.le_of_ble_eq_true rfl, Nat.le_of_ble_eq_true rfl⟩) hL (fun u_18 H locs k_19 hW hL => ?_)
  obtain ⟨iu_18, fu_18, xu_18⟩ := k_19
  have F_20 := F_12.trans (fu_18.to pRw_Br)
  have cr_21 : CQ G T kp vp u_18 := cr_15.fr fu_18 rfl rfl rfl rfl
  have q_22 : 0 ≤ S.1 189 3 ∧ S.1 189 3 ≤ 1000000000 := hI.fi 189 3 4 (by decide) rfl
  have lk_23 : u_18.1 189 3 = S.1 189 3 := ((fu_18 189 rfl).1 3).trans (((fu_10 189 rfl).1 3).trans (((fu_6 189 rfl).1 3).trans (uF_ne (fun h => absurd h.2 (by decide)))))
  have q_24 : (-2147483648) ≤ S.1 188 16 ∧ S.1 188 16 ≤ 2147483647 := hI.fi 188 16 1 (by decide) rfl
  have lk_25 : u_18.1 188 16 = S.1 188 16 := ((fu_18 188 rfl).1 16).trans (((fu_10 188 rfl).1 16).trans (((fu_6 188 rfl).1 16).trans (uF_ne (fun h => absurd h.2 (by decide)))))
  have lk_26 : u_18.1 188 14 = (S.1 188 14) - 1 := ((fu_18 188 rfl).1 14).trans (((fu_10 188 rfl).1 14).trans (((fu_6 188 rfl).1 14).trans (uF_on)))
  exact sVret Cx hr hlk hW hL ⟨iu_18, F_20, ⟨cr_21, (by omega), (show u_18.2.2.2 188 15 = S.2.2.2 188 15 from ((fu_18 188 rfl).2.2.2 15).trans (((fu_10 188 rfl).2.2.2 15).trans (((fu_6 188 rfl).2.2.2 15).trans (uF_r)))), (show u_18.1 188 16 = S.1 188 16 from ((fu_18 188 rfl).1 16).trans (((fu_10 188 rfl).1 16).trans (((fu_6 188 rfl).1 16).trans (uF_ne (fun h => absurd h.2 (by decide)))))), (by have h := (show _ → _ → _ → _ from xu_18) (by omega) (by omega) (by omega); rw [(show bv u_10 219 = wv (w - 1) from bv_14), show S.2.1 226 ((S.1 188 14) - 1) = wk (w - 1) by omega] at h; exact h), hWT.less (by omega) (by omega) (show u_18.2.1 225 = S.2.1 225 from funext fun x => ((fu_18 225 rfl).2.1 x).trans (((fu_10 225 rfl).2.1 x).trans (((fu_6 225 rfl).2.1 x).trans (uF_a)))) (show u_18.2.1 226 = S.2.1 226 from funext fun x => ((fu_18 226 rfl).2.1 x).trans (((fu_10 226 rfl).2.1 x).trans (((fu_6 226 rfl).2.1 x).trans (uF_a)))) (show u_18.2.1 227 = S.2.1 227 from funext fun x => ((fu_18 227 rfl).2.1 x).trans (((fu_10 227 rfl).2.1 x).trans (((fu_6 227 rfl).2.1 x).trans (uF_a))))⟩⟩ dX1_beginSecondTree_65
