/-! The reference's proofs by their bytes -/
theorem absI_nu {f : Int → Int} {p L : Int} (h : NO f p L) : nu f p = absI (nv f p) := by
  have a := nv_abs h
  have b := h.nu0
  unfold absI
  split
  · have := a.2 (by omega); omega
  · exact (a.1 (by omega)).symm
theorem dv_q {a b q r : Int} (e : a = b * q + r) (h0 : 0 ≤ r) (h1 : r < b) : q = a / b ∧ r = a % b := ediv_u (by rw [Int.mul_comm] at e; exact e) h0 h1
theorem neg_dv {a g : Int} (h : g ∣ a) : -(a / g) = -a / g := (Int.neg_ediv_of_dvd h).symm
theorem LSr.cat {S u : sS} {f arr : Nat} {L T : List Int} (h : LSr S f arr L) (h1 : u.1 231 f = S.1 231 f + (T.length : Int)) (h2 : ∀ k : Nat, k < L.length → u.2.1 arr (k : Int) = S.2.1 arr (k : Int)) (h3 : ∀ k : Nat, k < T.length → u.2.1 arr (S.1 231 f + (k : Int)) = T.getD k 0) : LSr u f arr (L ++ T) := by
  have e := h.1
  refine ⟨by rw [List.length_append]; omega, fun k hk => ?_⟩
  rw [List.length_append] at hk
  by_cases z : k < L.length
  · rw [h2 k z, h.2 k z, List.getD_eq_getElem?_getD, List.getD_eq_getElem?_getD, List.getElem?_append_left z]
  · have a := h3 (k - L.length) (by omega)
    rw [show S.1 231 f + ((k - L.length : Nat) : Int) = (k : Int) by omega] at a
    rw [a, List.getD_eq_getElem?_getD, List.getD_eq_getElem?_getD, List.getElem?_append_right (by omega)]
theorem LSr.cg {S u : sS} {f arr : Nat} {L : List Int} (h : LSr S f arr L) (e : u.1 231 f = S.1 231 f) (h2 : ∀ q : Nat, q < L.length → u.2.1 arr (q : Int) = S.2.1 arr (q : Int)) : LSr u f arr L := ⟨e.trans h.1, fun k hk => (h2 k hk).trans (h.2 k hk)⟩
/-- what the rows tell of a variable, up to a row -/
noncomputable def rpV (f : Int → Int) (d : dT) (v : Int) (k : Nat) : Int := cif (pick (fun i => d.2.2.1 i = v) (fun _ _ => False) k ≠ 0) (f (pick (fun i => d.2.2.1 i = v) (fun _ _ => False) k)) 0
theorem rpV_0 {f : Int → Int} {d : dT} {v : Int} : rpV f d v ((1 : Int) - 1).toNat = 0 := cif_f (fun q => q rfl)
theorem rpV_n {f : Int → Int} {d : dT} {v i : Int} (hi : 1 ≤ i) (h : d.2.2.1 i ≠ v) : rpV f d v (i + 1 - 1).toNat = rpV f d v (i - 1).toNat := by
  have e : pick (fun i => d.2.2.1 i = v) (fun _ _ => False) i.toNat = pick (fun i => d.2.2.1 i = v) (fun _ _ => False) (i - 1).toNat := by
    rw [pick_st hi]; exact cif_f (fun q => h q.1)
  unfold rpV
  rw [show i + 1 - 1 = i by omega, e]
theorem rpV_y {f : Int → Int} {d : dT} {v i n hw : Int} (hx : dIx n hw d) (hi : 1 ≤ i ∧ i ≤ d.2.2.2.2.1) (h : d.2.2.1 i = v) : rpV f d v (i + 1 - 1).toNat = f i := by
  have z : pick (fun i => d.2.2.1 i = v) (fun _ _ => False) (i - 1).toNat = 0 := pick_no (fun j j0 j1 q => by have := hx.2.2.1 j i j0 (by omega) hi.1 hi.2 (q.trans h.symm); omega)
  have e : pick (fun i => d.2.2.1 i = v) (fun _ _ => False) i.toNat = i := by
    rw [pick_st hi.1]; exact cif_t ⟨h, .inl z⟩
  unfold rpV
  rw [show i + 1 - 1 = i by omega, e]
  exact cif_t (show i ≠ 0 by omega)
theorem rpV_e {f : Int → Int} {d : dT} {v : Int} : rpV f d v d.2.2.2.2.1.toNat = cif (rOf d v ≠ 0) (f (rOf d v)) 0 := rfl
theorem ray_o {d : dT} {v s n hw : Int} (hx : dIx n hw d) (hs : 1 ≤ s ∧ s ≤ d.2.2.2.2.2) (hm : 0 ≤ d.2.2.2.2.1) (h : d.2.2.2.1 s = v) : rayV d s v = d.1 := by
  unfold rayV
  have z : ¬ rOf d v ≠ 0 := fun q => by
    have r := rOf_i q hm
    exact hx.2.2.2.2 (rOf d v) s r.1.1 r.1.2 hs.1 hs.2 (r.2.trans h.symm)
  rw [cif_f z, cif_t h]
theorem ray_n {d : dT} {v s : Int} (h : d.2.2.2.1 s ≠ v) : rayV d s v = rpV (fun i => -(d.2.1 i s)) d v d.2.2.2.2.1.toNat := by
  rw [rpV_e]
  unfold rayV
  by_cases q : rOf d v ≠ 0
  · rw [cif_t q, cif_t q]
  · rw [cif_f q, cif_f q, cif_f h]
theorem wF_nn : wIf ≠ [] := by decide
/-- what the reference's finish says -/
noncomputable def hdF (hb n mx bv bd : Int) (pt : Int → Int) : List Int := if hb = 1 then hdO n mx bv bd pt else tkn [] wIf
def FNr (u : sS) (s0 : Int) (P : List Int) : Prop := (30000 < P.length → u.1 231 61 = 6) ∧ (¬ 30000 < P.length → u.1 231 61 = s0 ∧ LSr u 86 276 P)
set_option maxRecDepth 100000 in
set_option maxHeartbeats 4000000 in
theorem r_X12_common (l : Launch) (G : sG) (S : sS) {ka kb Nka Nkb : Nat} {po qo La Lb Lx : Int} (hI : dX G S) (hika : ia ka Nka) (hikb : ia kb Nkb) (nka241 : Hd (ka ≠ 241)) (nkb241 : Hd (kb ≠ 241)) (nkb242 : Hd (kb ≠ 242)) (hR : (0 ≤ po ∧ po + La < Nka) ∧ (0 ≤ qo ∧ qo + Lb < Nkb) ∧ La ≤ Lx ∧ Lb ≤ Lx ∧ 2 ≤ Lx ∧ Lx ≤ 62) (hA : NO (S.2.1 ka) po La) (hB : NO (S.2.1 kb) qo Lb) (hps : Hd (0 < nv (S.2.1 ka) po ∨ 0 < nv (S.2.1 kb) qo)) : Met l yX12_common (.code yX12_common cX12_common 5 none :: tb) (rmk 6 0 0) (sPc G 294 S [.ref (G.2.2.1 + 231), .ref (G.2.2.1 + ka), .int (iv po), .ref (G.2.2.1 + kb), .int (iv qo)]) (sQv G 294 (fun u => dX G u ∧ Fr S u (pl [233, 234, 235, 239, 240, 241, 242]) ∧ FF S u (fl []) ∧ (NO (u.2.1 241) 0 Lx ∧ 0 < nv (u.2.1 241) 0 ∧ Hd (nv (u.2.1 241) 0 = gc (absI (nv (S.2.1 ka) po)) (absI (nv (S.2.1 kb) qo)))))) 0 0 (sF G) := by
  refine sEnter (by decide) (Nat.le_of_ble_eq_true rfl) ?_
  intro p e s m args below meth c Cx hr hlk hnm hW ls hl
  have Cx : sC G p m c cX12_common 5 s args RX12 := Cx
  obtain ⟨hx, hb, hml, hown, hts⟩ := id Cx.1
  have hL : sL G [] := sL_nil
  have hl : lv_has ls 5 [(0, .ref (G.2.2.1 + 231)), (1, .ref (G.2.2.1 + ka)), (2, .int (iv po)), (3, .ref (G.2.2.1 + kb)), (4, .int (iv qo))] := hl
  have hW0 := hW
  have hN := hika.2.2.2.1
  have hA1 := hA.b
  have hA0 := hA.1
  have hAn := al_0 (S.2.1 ka) po
  have hNb := hikb.2.2.2.1
  have hB1 := hB.b
  have hB0 := hB.1
  refine lv_aload_n hx hb dX12_common_0 rfl (lv_at hl 1 rfl) ?_
  refine lv_iload_n hx hb dX12_common_1 rfl (lv_at hl 2 rfl) ?_
  refine lv_aload_n hx hb dX12_common_2 rfl (lv_at hl 0 rfl) ?_
  refine g_X12_38 Cx hW (k := 231) (by decide) rfl (v := .ref (G.2.2.1 + 241)) (rd_11 hI) dX12_common_3 ?_
  refine lv_iconst (v := iv 0) hx hb dX12_common_6 (by decide) ?_
  refine sBv (sSt (As := [.ref (G.2.2.1 + ka), .int (iv po), .ref (G.2.2.1 + 241), .int (iv 0)]) (rest := []) Cx (s_X12_copy l G S (ka := ka) (po := po) (kb := 241) (qo := 0) (Nka := Nka) (Nkb := 68) (La := La) hI hika ⟨rfl, by decide, by decide, by decide, rfl⟩ (neS nka241) (by omega) hA) (c_X12_233 Cx rfl rfl (rmk_ok (by omega) (by decide))) hW rfl hl.1 rfl (Nat.le_of_ble_eq_true rfl) dX12_common_7 ⟨Nat.le_of_ble_eq_true rfl, Nat.le_of_ble_eq_true rfl⟩) hL (fun u_1 H locs k_2 hW hL => ?_)
  obtain ⟨iu_1, fu_1, xu_1⟩ := k_2
  have F_3 := (Fr.rf : Fr S S (pl [233, 234, 235, 239, 240, 241, 242])).trans (fu_1.to (p1_sub rfl))
  have g_4 : FF S u_1 (fl []) := FF.fr FF.rf fu_1 rfl
  refine lv_aload_n hx hb dX12_common_10 rfl (lv_at hl 3 rfl) ?_
  refine lv_iload hx hb dX12_common_11 (lv_at hl 4 rfl) ?_
  refine lv_aload_n hx hb dX12_common_13 rfl (lv_at hl 0 rfl) ?_
  refine g_X12_41 Cx hW (k := 231) (by decide) rfl (v := .ref (G.2.2.1 + 242)) (rd_12 iu_1) dX12_common_14 ?_
  refine lv_iconst (v := iv 0) hx hb dX12_common_17 (by decide) ?_
  refine sBv (sSt (As := [.ref (G.2.2.1 + kb), .int (iv qo), .ref (G.2.2.1 + 242), .int (iv 0)]) (rest := []) Cx (s_X12_copy l G u_1 (ka := kb) (po := qo) (kb := 242) (qo := 0) (Nka := Nkb) (Nkb := 68) (La := Lb) iu_1 hikb ⟨rfl, by decide, by decide, by decide, rfl⟩ (neS nkb242) (by omega) (by rw [show u_1.2.1 kb = S.2.1 kb from (funext fun j => (fu_1 kb (p1_no (neD nkb241))).2.1 j : u_1.2.1 kb = S.2.1 kb)]; exact hB)) (c_X12_233 Cx rfl rfl (rmk_ok (by omega) (by decide))) hW rfl hl.1 rfl (Nat.le_of_ble_eq_true rfl) dX12_common_18 ⟨Nat.le_of_ble_eq_true rfl, Nat.le_of_ble_eq_true rfl⟩) hL (fun u_5 H locs k_6 hW hL => ?_)
  obtain ⟨iu_5, fu_5, xu_5⟩ := k_6
  have F_7 := F_3.trans (fu_5.to (p1_sub rfl))
  have g_8 : FF S u_5 (fl []) := FF.fr g_4 fu_5 rfl
  have bcf := (xu_1.1.1).b
  have bca := (xu_5.1.1).b
  refine lv_aload_n hx hb dX12_common_21 rfl (lv_at hl 0 rfl) ?_
  refine g_X12_38 Cx hW (k := 231) (by decide) rfl (v := .ref (G.2.2.1 + 241)) (rd_11 iu_5) dX12_common_22 ?_
  refine lv_iconst (v := iv 0) hx hb dX12_common_25 (by decide) ?_
  refine lv_aload_n hx hb dX12_common_26 rfl (lv_at hl 0 rfl) ?_
  refine g_X12_38 Cx hW (k := 231) (by decide) rfl (v := .ref (G.2.2.1 + 241)) (rd_11 iu_5) dX12_common_27 ?_
  refine lv_iconst (v := iv 0) hx hb dX12_common_30 (by decide) ?_
  refine rIald Cx hW (k := 241) (by decide) rfl (by decide) (by omega) (by omega) dX12_common_31 ?_
  have q_9 : (-2147483648) ≤ u_1.2.1 241 0 ∧ u_1.2.1 241 0 ≤ 2147483647 := iu_1.ai 241 0
  refine r_i (b := u_1.2.1 241 0) ((fu_5 241 rfl).2.1 0) ?_
  refine r_abs hx hb (hml.trans hl.1.symm) hown (hts _ w_2487) (hts _ w_1156) (hts _ w_206) (hts _ w_1157) (rmk_f (by omega)) (rmk_l (by omega) (Nat.le_of_ble_eq_true rfl)) (Nat.le_of_ble_eq_true rfl) (Nat.le_of_ble_eq_true rfl) ⟨(by omega), (by omega)⟩ dX12_common_32 (fun z_10 hz_10 => ?_)
  refine rIast Cx hW hL (k := 241) (by decide) rfl (by decide) (by omega) (by omega) dX12_common_35 (fun H locs hW hL => ?_)
  have F_11 : Fr S (uA u_5 241 0 z_10) (pl [233, 234, 235, 239, 240, 241, 242]) := F_7.A rfl
  have i_12 : dX G (uA u_5 241 0 z_10) := iu_5.A (k := 241) (show (-2147483648) ≤ z_10 ∧ z_10 ≤ 2147483647 from ⟨by omega, by omega⟩)
  have acf := NO.abs (S := u_5) (a := 241) (p := 0) (L := La) (z := z_10) (by rw [show u_5.2.1 241 = u_1.2.1 241 from funext fun j => (fu_5 241 rfl).2.1 j]; exact xu_1.1.1) (by have e0 : u_5.2.1 241 0 = u_1.2.1 241 0 := (fu_5 241 rfl).2.1 0; omega)
  refine lv_aload_n hx hb dX12_common_36 rfl (lv_at hl 0 rfl) ?_
  refine g_X12_41 Cx hW (k := 231) (by decide) rfl (v := .ref (G.2.2.1 + 242)) (rd_12 i_12) dX12_common_37 ?_
  refine lv_iconst (v := iv 0) hx hb dX12_common_40 (by decide) ?_
  refine lv_aload_n hx hb dX12_common_41 rfl (lv_at hl 0 rfl) ?_
  refine g_X12_41 Cx hW (k := 231) (by decide) rfl (v := .ref (G.2.2.1 + 242)) (rd_12 i_12) dX12_common_42 ?_
  refine lv_iconst (v := iv 0) hx hb dX12_common_45 (by decide) ?_
  refine rIald Cx hW (k := 242) (by decide) rfl (by decide) (by omega) (by omega) dX12_common_46 ?_
  have q_13 : (-2147483648) ≤ u_5.2.1 242 0 ∧ u_5.2.1 242 0 ≤ 2147483647 := iu_5.ai 242 0
  refine r_i (b := u_5.2.1 242 0) (uA_ne (fun h => absurd h.1 (by decide))) ?_
  refine r_abs hx hb (hml.trans hl.1.symm) hown (hts _ w_2487) (hts _ w_1156) (hts _ w_206) (hts _ w_1157) (rmk_f (by omega)) (rmk_l (by omega) (Nat.le_of_ble_eq_true rfl)) (Nat.le_of_ble_eq_true rfl) (Nat.le_of_ble_eq_true rfl) ⟨(by omega), (by omega)⟩ dX12_common_47 (fun z_14 hz_14 => ?_)
  refine rIast Cx hW hL (k := 242) (by decide) rfl (by decide) (by omega) (by omega) dX12_common_50 (fun H locs hW hL => ?_)
  have F_15 : Fr S (uA (uA u_5 241 0 z_10) 242 0 z_14) (pl [233, 234, 235, 239, 240, 241, 242]) := F_11.A rfl
  have i_16 : dX G (uA (uA u_5 241 0 z_10) 242 0 z_14) := i_12.A (k := 242) (show (-2147483648) ≤ z_14 ∧ z_14 ≤ 2147483647 from ⟨by omega, by omega⟩)
  have aca := NO.abs (S := (uA u_5 241 0 z_10)) (a := 242) (p := 0) (L := Lb) (z := z_14) (by rw [show (uA u_5 241 0 z_10).2.1 242 = u_5.2.1 242 from funext fun j => uA_ne (fun h => absurd h.1 (by decide))]; exact xu_5.1.1) (by have e0 : (uA u_5 241 0 z_10).2.1 242 0 = u_5.2.1 242 0 := uA_ne (fun h => absurd h.1 (by decide)); omega)
  have loop_51 : ∀ (fuel : Nat) (S51 : sS)  (H : Heap) (locs : List Loc) (ls : Array Slot), (nv (S51.2.1 242) 0).toNat < fuel → (dX G S51) → (Fr S S51 (pl [233, 234, 235, 239, 240, 241, 242])) → (Fr ((uA (uA u_5 241 0 z_10) 242 0 z_14)) S51 (pl [233, 234, 235, 239, 240, 241, 242])) → (FF S S51 (fl [])) → (FF ((uA (uA u_5 241 0 z_10) 242 0 z_14)) S51 (fl [])) → (NO (S51.2.1 241) 0 Lx) → (NO (S51.2.1 242) 0 Lx) → (0 ≤ nv (S51.2.1 241) 0 ∧ 0 ≤ nv (S51.2.1 242) 0) → (Hd (0 < nv (S51.2.1 241) 0 ∨ 0 < nv (S51.2.1 242) 0)) → (Hd (gc (nv (S51.2.1 241) 0) (nv (S51.2.1 242) 0) = gc (absI (nv (S.2.1 ka) po)) (absI (nv (S.2.1 kb) qo)))) → sW G 294 S51 H → sL G locs → lv_has ls 5 [(0, .ref (G.2.2.1 + 231)), (1, .ref (G.2.2.1 + ka)), (2, .int (iv po)), (3, .ref (G.2.2.1 + kb)), (4, .int (iv qo))] → W p l e (rmk 6 0 0) s m args below meth c H locs 0 0 (MQ below (sQv G 294 (fun u => dX G u ∧ Fr S u (pl [233, 234, 235, 239, 240, 241, 242]) ∧ FF S u (fl []) ∧ (NO (u.2.1 241) 0 Lx ∧ 0 < nv (u.2.1 241) 0 ∧ Hd (nv (u.2.1 241) 0 = gc (absI (nv (S.2.1 ka) po)) (absI (nv (S.2.1 kb) qo)))))) args s 0 0 (sF G)) (F0 m 51 ls []) := by
    intro fuel
    induction fuel with
    | zero => intro S51  H locs ls hmeas hI51 hFm51 hL51_ hGm51 gL51_ hN1 hN2 hge hor hgc hW hL hl; exact absurd hmeas (Nat.not_lt_zero _)
    | succ fuel ih_51 =>
      intro S51  H locs ls hmeas hI51 hFm51 hL51_ hGm51 gL51_ hN1 hN2 hge hor hgc hW hL hl
      refine lv_aload_n hx hb dX12_common_51 rfl (lv_at hl 0 rfl) ?_
      refine g_X12_41 Cx hW (k := 231) (by decide) rfl (v := .ref (G.2.2.1 + 242)) (rd_12 hI51) dX12_common_52 ?_
      refine lv_iconst (v := iv 0) hx hb dX12_common_55 (by decide) ?_
      refine rIald Cx hW (k := 242) (by decide) rfl (by decide) (by omega) (by omega) dX12_common_56 ?_
      have q_17 : (-2147483648) ≤ S51.2.1 242 0 ∧ S51.2.1 242 0 ≤ 2147483647 := hI51.ai 242 0
      refine r_i (b := S51.2.1 242 0) rfl ?_
      refine r_if_eq (tgt := 113) hx hb ⟨(by omega), (by omega)⟩ dX12_common_57 (by decide) (fun c_18 => ?_) (fun c_18 => ?_)
      · exact sVret Cx hr hlk hW hL ⟨hI51, hFm51, hGm51, ⟨hN1, (by have e := hN2.sgn; unfold Hd at hor; omega), (by have e := hN2.sgn; have z : nv (S51.2.1 242) 0 = 0 := e.2.2.mpr (by omega); have gg : gc _ _ = _ := hgc; rw [z, gc_0 hge.1] at gg; exact gg)⟩⟩ dX12_common_113
      · have hs2 := hN2.sgn
        have hs1 := hN1.sgn
        refine lv_aload_n hx hb dX12_common_60 rfl (lv_at hl 0 rfl) ?_
        refine lv_aload_n hx hb dX12_common_61 rfl (lv_at hl 0 rfl) ?_
        refine g_X12_38 Cx hW (k := 231) (by decide) rfl (v := .ref (G.2.2.1 + 241)) (rd_11 hI51) dX12_common_62 ?_
        refine lv_iconst (v := iv 0) hx hb dX12_common_65 (by decide) ?_
        refine lv_aload_n hx hb dX12_common_66 rfl (lv_at hl 0 rfl) ?_
        refine g_X12_41 Cx hW (k := 231) (by decide) rfl (v := .ref (G.2.2.1 + 242)) (rd_12 hI51) dX12_common_67 ?_
        refine lv_iconst (v := iv 0) hx hb dX12_common_70 (by decide) ?_
        refine lv_aload_n hx hb dX12_common_71 rfl (lv_at hl 0 rfl) ?_
        refine g_X12_32 Cx hW (k := 231) (by decide) rfl (v := .ref (G.2.2.1 + 239)) (rd_9 hI51) dX12_common_72 ?_
        refine lv_iconst (v := iv 0) hx hb dX12_common_75 (by decide) ?_
        refine lv_aload_n hx hb dX12_common_76 rfl (lv_at hl 0 rfl) ?_
        refine g_X12_35 Cx hW (k := 231) (by decide) rfl (v := .ref (G.2.2.1 + 240)) (rd_10 hI51) dX12_common_77 ?_
        refine lv_iconst (v := iv 0) hx hb dX12_common_80 (by decide) ?_
        refine sBv (sV (As := [.ref (G.2.2.1 + 241), .int (iv 0), .ref (G.2.2.1 + 242), .int (iv 0), .ref (G.2.2.1 + 239), .int (iv 0), .ref (G.2.2.1 + 240), .int (iv 0)]) (rest := []) (k := 231) Cx (s_X12_divide l G S51 (ka := 241) (po := 0) (kb := 242) (qo := 0) (kc := 239) (ro := 0) (kd := 240) (eo := 0) (Nka := 68) (Nkb := 68) (Nkc := 68) (Nkd := 68) (La := Lx) (Lb := Lx) (Ld := Lx + 1) hI51 ⟨rfl, by decide, by decide, by decide, rfl⟩ ⟨rfl, by decide, by decide, by decide, rfl⟩ ⟨rfl, by decide, by decide, by decide, rfl⟩ ⟨rfl, by decide, by decide, by decide, rfl⟩ (show (239 : Nat) ≠ 241 by decide) (show (240 : Nat) ≠ 241 by decide) (show (239 : Nat) ≠ 242 by decide) (show (240 : Nat) ≠ 242 by decide) (show (239 : Nat) ≠ 240 by decide) (show (241 : Nat) ≠ 233 by decide) (show (242 : Nat) ≠ 233 by decide) (show (242 : Nat) ≠ 234 by decide) (show (242 : Nat) ≠ 235 by decide) (show (239 : Nat) ≠ 233 by decide) (show (239 : Nat) ≠ 234 by decide) (show (239 : Nat) ≠ 235 by decide) (show (240 : Nat) ≠ 233 by decide) (show (240 : Nat) ≠ 234 by decide) (show (240 : Nat) ≠ 235 by decide) (by omega) (by omega) hN1 hN2) (c_X12_266 Cx rfl rfl (rmk_ok (by omega) (by decide))) hW (by decide) rfl rfl rfl hl.1 rfl (Nat.le_of_ble_eq_true rfl) dX12_common_81 ⟨Nat.le_of_ble_eq_true rfl, Nat.le_of_ble_eq_true rfl⟩) hL (fun u_19 H locs k_20 hW hL => ?_)
        obtain ⟨iu_19, fu_19, xu_19⟩ := k_20
        have F_21 := hFm51.trans (fu_19.to (pl_sub (by decide)))
        have F_22 := hL51_.trans (fu_19.to (pl_sub (by decide)))
        have g_23 : FF S u_19 (fl []) := FF.fr hGm51 fu_19 rfl
        have g_24 : FF ((uA (uA u_5 241 0 z_10) 242 0 z_14)) u_19 (fl []) := FF.fr gL51_ fu_19 rfl
        refine lv_aload_n hx hb dX12_common_84 rfl (lv_at hl 0 rfl) ?_
        refine g_X12_41 Cx hW (k := 231) (by decide) rfl (v := .ref (G.2.2.1 + 242)) (rd_12 iu_19) dX12_common_85 ?_
        refine lv_iconst (v := iv 0) hx hb dX12_common_88 (by decide) ?_
        refine lv_aload_n hx hb dX12_common_89 rfl (lv_at hl 0 rfl) ?_
        refine g_X12_38 Cx hW (k := 231) (by decide) rfl (v := .ref (G.2.2.1 + 241)) (rd_11 iu_19) dX12_common_90 ?_
        refine lv_iconst (v := iv 0) hx hb dX12_common_93 (by decide) ?_
        refine sBv (sSt (As := [.ref (G.2.2.1 + 242), .int (iv 0), .ref (G.2.2.1 + 241), .int (iv 0)]) (rest := []) Cx (s_X12_copy l G u_19 (ka := 242) (po := 0) (kb := 241) (qo := 0) (Nka := 68) (Nkb := 68) (La := Lx) iu_19 ⟨rfl, by decide, by decide, by decide, rfl⟩ ⟨rfl, by decide, by decide, by decide, rfl⟩ (show (241 : Nat) ≠ 242 by decide) (by omega) (by rw [show u_19.2.1 242 = S51.2.1 242 from (funext fun j => (fu_19 242 rfl).2.1 j : u_19.2.1 242 = S51.2.1 242)]; exact hN2)) (c_X12_233 Cx rfl rfl (rmk_ok (by omega) (by decide))) hW rfl hl.1 rfl (Nat.le_of_ble_eq_true rfl) dX12_common_94 ⟨Nat.le_of_ble_eq_true rfl, Nat.le_of_ble_eq_true rfl⟩) hL (fun u_25 H locs k_26 hW hL => ?_)
        obtain ⟨iu_25, fu_25, xu_25⟩ := k_26
        have F_27 := F_21.trans (fu_25.to (p1_sub rfl))
        have F_28 := F_22.trans (fu_25.to (p1_sub rfl))
        have g_29 : FF S u_25 (fl []) := FF.fr g_23 fu_25 rfl
        have g_30 : FF ((uA (uA u_5 241 0 z_10) 242 0 z_14)) u_25 (fl []) := FF.fr g_24 fu_25 rfl
        refine lv_aload_n hx hb dX12_common_97 rfl (lv_at hl 0 rfl) ?_
        refine g_X12_35 Cx hW (k := 231) (by decide) rfl (v := .ref (G.2.2.1 + 240)) (rd_10 iu_25) dX12_common_98 ?_
        refine lv_iconst (v := iv 0) hx hb dX12_common_101 (by decide) ?_
        refine lv_aload_n hx hb dX12_common_102 rfl (lv_at hl 0 rfl) ?_
        refine g_X12_41 Cx hW (k := 231) (by decide) rfl (v := .ref (G.2.2.1 + 242)) (rd_12 iu_25) dX12_common_103 ?_
        refine lv_iconst (v := iv 0) hx hb dX12_common_106 (by decide) ?_
        refine sBv (sSt (As := [.ref (G.2.2.1 + 240), .int (iv 0), .ref (G.2.2.1 + 242), .int (iv 0)]) (rest := []) Cx (s_X12_copy l G u_25 (ka := 240) (po := 0) (kb := 242) (qo := 0) (Nka := 68) (Nkb := 68) (La := Lx) iu_25 ⟨rfl, by decide, by decide, by decide, rfl⟩ ⟨rfl, by decide, by decide, by decide, rfl⟩ (show (242 : Nat) ≠ 240 by decide) (by omega) (by rw [show u_25.2.1 240 = u_19.2.1 240 from (funext fun j => (fu_25 240 rfl).2.1 j : u_25.2.1 240 = u_19.2.1 240)]; exact xu_19.2.1.less hN2 xu_19.2.2.1.2.1 xu_19.2.2.1.2.2)) (c_X12_233 Cx rfl rfl (rmk_ok (by omega) (by decide))) hW rfl hl.1 rfl (Nat.le_of_ble_eq_true rfl) dX12_common_107 ⟨Nat.le_of_ble_eq_true rfl, Nat.le_of_ble_eq_true rfl⟩) hL (fun u_31 H locs k_32 hW hL => ?_)
        obtain ⟨iu_31, fu_31, xu_31⟩ := k_32
        have F_33 := F_27.trans (fu_31.to (p1_sub rfl))
        have F_34 := F_28.trans (fu_31.to (p1_sub rfl))
        have g_35 : FF S u_31 (fl []) := FF.fr g_29 fu_31 rfl
        have g_36 : FF ((uA (uA u_5 241 0 z_10) 242 0 z_14)) u_31 (fl []) := FF.fr g_30 fu_31 rfl
        refine lv_goto (tgt := 51) hx hb dX12_common_110 (by decide) ?_
        exact ih_51 u_31  _ _ _ (by have e1 : nv (u_31.2.1 241) 0 = nv (S51.2.1 242) 0 := (by rw [show u_31.2.1 241 = u_25.2.1 241 from (funext fun j => (fu_31 241 rfl).2.1 j : u_31.2.1 241 = u_25.2.1 241), xu_25.1.2.1, show u_19.2.1 242 = S51.2.1 242 from (funext fun j => (fu_19 242 rfl).2.1 j)]); have e2 : nv (u_31.2.1 242) 0 = nv (u_19.2.1 240) 0 := (by rw [xu_31.1.2.1, show u_25.2.1 240 = u_19.2.1 240 from (funext fun j => (fu_25 240 rfl).2.1 j)]); have e3 := xu_19.2.2.1.2; omega) iu_31 F_33 F_34 g_35 g_36 (by rw [show u_31.2.1 241 = u_25.2.1 241 from (funext fun j => (fu_31 241 rfl).2.1 j : u_31.2.1 241 = u_25.2.1 241)]; exact xu_25.1.1) xu_31.1.1 (by have e1 : nv (u_31.2.1 241) 0 = nv (S51.2.1 242) 0 := (by rw [show u_31.2.1 241 = u_25.2.1 241 from (funext fun j => (fu_31 241 rfl).2.1 j : u_31.2.1 241 = u_25.2.1 241), xu_25.1.2.1, show u_19.2.1 242 = S51.2.1 242 from (funext fun j => (fu_19 242 rfl).2.1 j)]); have e2 : nv (u_31.2.1 242) 0 = nv (u_19.2.1 240) 0 := (by rw [xu_31.1.2.1, show u_25.2.1 240 = u_19.2.1 240 from (funext fun j => (fu_25 240 rfl).2.1 j)]); have e3 := xu_19.2.2.1.2; omega) (by unfold Hd; have e1 : nv (u_31.2.1 241) 0 = nv (S51.2.1 242) 0 := (by rw [show u_31.2.1 241 = u_25.2.1 241 from (funext fun j => (fu_31 241 rfl).2.1 j : u_31.2.1 241 = u_25.2.1 241), xu_25.1.2.1, show u_19.2.1 242 = S51.2.1 242 from (funext fun j => (fu_19 242 rfl).2.1 j)]); have e2 : nv (u_31.2.1 242) 0 = nv (u_19.2.1 240) 0 := (by rw [xu_31.1.2.1, show u_25.2.1 240 = u_19.2.1 240 from (funext fun j => (fu_25 240 rfl).2.1 j)]); have e3 := xu_19.2.2.1.2; omega) (show _ = _ by have e1 : nv (u_31.2.1 241) 0 = nv (S51.2.1 242) 0 := (by rw [show u_31.2.1 241 = u_25.2.1 241 from (funext fun j => (fu_31 241 rfl).2.1 j : u_31.2.1 241 = u_25.2.1 241), xu_25.1.2.1, show u_19.2.1 242 = S51.2.1 242 from (funext fun j => (fu_19 242 rfl).2.1 j)]); have e2 : nv (u_31.2.1 242) 0 = nv (u_19.2.1 240) 0 := (by rw [xu_31.1.2.1, show u_25.2.1 240 = u_19.2.1 240 from (funext fun j => (fu_25 240 rfl).2.1 j)]); have e3 := xu_19.2.2.1.2; rw [e1, e2, (dv_q (a := nv (S51.2.1 241) 0) (b := nv (S51.2.1 242) 0) (q := nv (u_19.2.1 239) 0) (r := nv (u_19.2.1 240) 0) xu_19.2.2.1.1 xu_19.2.2.1.2.1 xu_19.2.2.1.2.2).2, ← gc_st hge.1 (show 0 < nv (S51.2.1 242) 0 by omega)]; exact hgc) hW hL (lv_sub hl [0, 1, 2, 3, 4] rfl)
  exact loop_51 (_ + 1) (uA (uA u_5 241 0 z_10) 242 0 z_14)  _ _ _ (Nat.lt_succ_self _) i_16 F_15 Fr.rf g_8 FF.rf (by rw [show (uA (uA u_5 241 0 z_10) 242 0 z_14).2.1 241 = (uA u_5 241 0 z_10).2.1 241 from funext fun j => uA_ne (fun h => absurd h.1 (by decide))]; exact acf.1.mono (by omega)) (by rw [show (uA (uA u_5 241 0 z_10) 242 0 z_14).2.1 242 = (uA (uA u_5 241 0 z_10) 242 0 z_14).2.1 242 from funext fun j => rfl]; exact aca.1.mono (by omega)) (by rw [show (uA (uA u_5 241 0 z_10) 242 0 z_14).2.1 241 = (uA u_5 241 0 z_10).2.1 241 from funext fun j => uA_ne (fun h => absurd h.1 (by decide)), acf.2]; rw [show (uA (uA u_5 241 0 z_10) 242 0 z_14).2.1 242 = (uA (uA u_5 241 0 z_10) 242 0 z_14).2.1 242 from funext fun j => rfl, aca.2]; rw [show u_5.2.1 241 = u_1.2.1 241 from (funext fun j => (fu_5 241 rfl).2.1 j : u_5.2.1 241 = u_1.2.1 241), show (uA u_5 241 0 z_10).2.1 242 = u_5.2.1 242 from (funext fun j => uA_ne (fun h => absurd h.1 (by decide)) : (uA u_5 241 0 z_10).2.1 242 = u_5.2.1 242)]; have n1 := nv_abs xu_1.1.1; have n2 := nv_abs xu_5.1.1; have m1 := xu_1.1.2.1; have m2 := xu_5.1.2.1; have z1 := (xu_1.1.1).nu0; have z2 := (xu_5.1.1).nu0; rw [show u_1.2.1 kb = S.2.1 kb from funext fun j => (fu_1 kb (p1_no (neD nkb241))).2.1 j] at m2; omega) (by unfold Hd; rw [show (uA (uA u_5 241 0 z_10) 242 0 z_14).2.1 241 = (uA u_5 241 0 z_10).2.1 241 from funext fun j => uA_ne (fun h => absurd h.1 (by decide)), acf.2]; rw [show (uA (uA u_5 241 0 z_10) 242 0 z_14).2.1 242 = (uA (uA u_5 241 0 z_10) 242 0 z_14).2.1 242 from funext fun j => rfl, aca.2]; rw [show u_5.2.1 241 = u_1.2.1 241 from (funext fun j => (fu_5 241 rfl).2.1 j : u_5.2.1 241 = u_1.2.1 241), show (uA u_5 241 0 z_10).2.1 242 = u_5.2.1 242 from (funext fun j => uA_ne (fun h => absurd h.1 (by decide)) : (uA u_5 241 0 z_10).2.1 242 = u_5.2.1 242)]; have n1 := nv_abs xu_1.1.1; have n2 := nv_abs xu_5.1.1; have m1 := xu_1.1.2.1; have m2 := xu_5.1.2.1; have z1 := (xu_1.1.1).nu0; have z2 := (xu_5.1.1).nu0; rw [show u_1.2.1 kb = S.2.1 kb from funext fun j => (fu_1 kb (p1_no (neD nkb241))).2.1 j] at m2; unfold Hd at hps; omega) (show _ = _ by rw [show (uA (uA u_5 241 0 z_10) 242 0 z_14).2.1 241 = (uA u_5 241 0 z_10).2.1 241 from funext fun j => uA_ne (fun h => absurd h.1 (by decide)), acf.2]; rw [show (uA (uA u_5 241 0 z_10) 242 0 z_14).2.1 242 = (uA (uA u_5 241 0 z_10) 242 0 z_14).2.1 242 from funext fun j => rfl, aca.2]; rw [show u_5.2.1 241 = u_1.2.1 241 from (funext fun j => (fu_5 241 rfl).2.1 j : u_5.2.1 241 = u_1.2.1 241), show (uA u_5 241 0 z_10).2.1 242 = u_5.2.1 242 from (funext fun j => uA_ne (fun h => absurd h.1 (by decide)) : (uA u_5 241 0 z_10).2.1 242 = u_5.2.1 242)]; have n1 := nv_abs xu_1.1.1; have n2 := nv_abs xu_5.1.1; have m1 := xu_1.1.2.1; have m2 := xu_5.1.2.1; have z1 := (xu_1.1.1).nu0; have z2 := (xu_5.1.1).nu0; rw [show u_1.2.1 kb = S.2.1 kb from funext fun j => (fu_1 kb (p1_no (neD nkb241))).2.1 j] at m2; rw [absI_nu xu_1.1.1, absI_nu xu_5.1.1, m1, m2]) hW hL (lv_sub hl [0, 1, 2, 3, 4] rfl)

set_option maxRecDepth 100000 in
set_option maxHeartbeats 4000000 in
theorem r_X12_sayLetters (l : Launch) (G : sG) (S : sS) {L T : List Int} (hI : dX G S) (hpz : 0 ≤ S.1 231 86 ∧ S.1 231 86 ≤ 35000) (hle : 0 ≤ S.1 231 6 ∧ S.1 231 6 ≤ 576) (hlt : Hd (LSr S 6 236 L)) (hps : Hd (LSr S 86 276 T)) : Met l yX12_sayLetters (.code yX12_sayLetters cX12_sayLetters 2 none :: tb) (rmk 1 0 0) (sPc G 294 S [.ref (G.2.2.1 + 231)]) (sQv G 294 (fun u => dX G u ∧ Fr S u (pl [231, 276]) ∧ FF S u (fl [86]) ∧ (u.1 231 86 = S.1 231 86 + 1 + S.1 231 6 ∧ Hd (LSr u 86 276 (T ++ [32] ++ L))))) 0 0 (sF G) := by
  refine sEnter (by decide) (Nat.le_of_ble_eq_true rfl) ?_
  intro p e s m args below meth c Cx hr hlk hnm hW ls hl
  have Cx : sC G p m c cX12_sayLetters 2 s args RX12 := Cx
  obtain ⟨hx, hb, hml, hown, hts⟩ := id Cx.1
  have hL : sL G [] := sL_nil
  have hl : lv_has ls 2 [(0, .ref (G.2.2.1 + 231))] := hl
  have hW0 := hW
  have hl1 := hlt.1
  refine lv_aload_n hx hb dX12_sayLetters_0 rfl (lv_at hl 0 rfl) ?_
  refine g_X12_148 Cx hW (k := 231) (by decide) rfl (v := .ref (G.2.2.1 + 276)) (rd_85 hI) dX12_sayLetters_1 ?_
  refine lv_aload_n hx hb dX12_sayLetters_4 rfl (lv_at hl 0 rfl) ?_
  have q_1 : (-2147483648) ≤ S.1 231 86 ∧ S.1 231 86 ≤ 2147483647 := hI.fi 86
  refine g_X12_523 Cx hW (k := 231) (by decide) rfl (v := S.1 231 86) rfl dX12_sayLetters_5 ?_
  refine lv_bipush (v := iv 32) hx hb dX12_sayLetters_8 (by decide) ?_
  refine rBast Cx hW hL (k := 276) (by decide) rfl (by decide) (by omega) (by omega) (nar_b (by omega) (by omega)) dX12_sayLetters_10 (fun H locs hW hL => ?_)
  have F_2 : Fr S (uA S 276 (S.1 231 86) 32) (pl [231, 276]) := (Fr.rf : Fr S S (pl [231, 276])).A rfl
  have i_3 : dX G (uA S 276 (S.1 231 86) 32) := hI.A (k := 276) (show (-128) ≤ 32 ∧ 32 ≤ 127 from ⟨by omega, by omega⟩)
  refine lv_aload_n hx hb dX12_sayLetters_11 rfl (lv_at hl 0 rfl) ?_
  refine lv_dup hx hb dX12_sayLetters_12 rfl ?_
  refine g_X12_523 Cx hW (k := 231) (by decide) rfl (v := S.1 231 86) uA_f dX12_sayLetters_13 ?_
  refine lv_iconst (v := iv 1) hx hb dX12_sayLetters_16 (by decide) ?_
  refine r_iadd hx hb dX12_sayLetters_17 ?_
  refine p_X12_523 Cx hW hL (k := 231) (by decide) rfl dX12_sayLetters_18 (fun H locs hW hL => ?_)
  have F_4 : Fr S (uF (uA S 276 (S.1 231 86) 32) 231 86 ((S.1 231 86) + 1)) (pl [231, 276]) := F_2.F rfl
  have g_5 : FF S (uF (uA S 276 (S.1 231 86) 32) 231 86 ((S.1 231 86) + 1)) (fl [86]) := FF.F FF.rf rfl
  have i_6 : dX G (uF (uA S 276 (S.1 231 86) 32) 231 86 ((S.1 231 86) + 1)) := i_3.F (i := 86) (show (-2147483648) ≤ (S.1 231 86) + 1 ∧ (S.1 231 86) + 1 ≤ 2147483647 from ⟨by omega, by omega⟩)
  refine lv_iconst (v := iv 0) hx hb dX12_sayLetters_21 (by decide) ?_
  refine lv_istore_n (lv' := [(1, .int (iv 0)), (0, .ref (G.2.2.1 + 231))]) hx hb dX12_sayLetters_22 rfl hl (by decide) rfl (fun ls hl => ?_)
  have loop_23 : ∀ (fuel : Nat) (S23 : sS) (k : Int) (H : Heap) (locs : List Loc) (ls : Array Slot), (600 - k).toNat < fuel → (dX G S23) → (Fr S S23 (pl [231, 276])) → (Fr ((uF (uA S 276 (S.1 231 86) 32) 231 86 ((S.1 231 86) + 1))) S23 (pl [231, 276])) → (FF S S23 (fl [86])) → (FF ((uF (uA S 276 (S.1 231 86) 32) 231 86 ((S.1 231 86) + 1))) S23 (fl [86])) → (0 ≤ k ∧ k ≤ S.1 231 6) → (S23.1 231 86 = S.1 231 86 + 1 + k) → (Hd (LSr S23 6 236 L)) → (k ≤ (L.length : Int) ∧ S23.1 231 6 = (L.length : Int)) → (Hd (LSr S23 86 276 (T ++ [32] ++ L.take k.toNat))) → sW G 294 S23 H → sL G locs → lv_has ls 2 [(1, .int (iv k)), (0, .ref (G.2.2.1 + 231))] → W p l e (rmk 1 0 0) s m args below meth c H locs 0 0 (MQ below (sQv G 294 (fun u => dX G u ∧ Fr S u (pl [231, 276]) ∧ FF S u (fl [86]) ∧ (u.1 231 86 = S.1 231 86 + 1 + S.1 231 6 ∧ Hd (LSr u 86 276 (T ++ [32] ++ L))))) args s 0 0 (sF G)) (F0 m 23 ls []) := by
    intro fuel
    induction fuel with
    | zero => intro S23 k H locs ls hmeas hI23 hFm23 hL23_ hGm23 gL23_ hk h23 ll23 hkl l23 hW hL hl; exact absurd hmeas (Nat.not_lt_zero _)
    | succ fuel ih_23 =>
      intro S23 k H locs ls hmeas hI23 hFm23 hL23_ hGm23 gL23_ hk h23 ll23 hkl l23 hW hL hl
      refine lv_iload_n hx hb dX12_sayLetters_23 rfl (lv_at hl 0 rfl) ?_
      refine lv_aload_n hx hb dX12_sayLetters_24 rfl (lv_at hl 1 rfl) ?_
      have q_7 : (-2147483648) ≤ S.1 231 6 ∧ S.1 231 6 ≤ 2147483647 := hI.fi 6
      refine g_X12_259 Cx hW (k := 231) (by decide) rfl (v := S.1 231 6) ((gL23_ 6 rfl).trans ((uF_ne (fun h => absurd h.2 (by decide))).trans (uA_f))) dX12_sayLetters_25 ?_
      refine r_icmp_ge (tgt := 62) hx hb ⟨(by omega), (by omega)⟩ ⟨(by omega), (by omega)⟩ dX12_sayLetters_28 (by decide) (fun c_8 => ?_) (fun c_8 => ?_)
      · have q_9 : (-2147483648) ≤ S23.1 231 86 ∧ S23.1 231 86 ≤ 2147483647 := hI23.fi 86
        exact sVret Cx hr hlk hW hL ⟨hI23, hFm23, hGm23, ⟨by omega, LSr.eq l23 (by rw [List.take_of_length_le (by omega)])⟩⟩ dX12_sayLetters_62
      · refine lv_aload_n hx hb dX12_sayLetters_31 rfl (lv_at hl 1 rfl) ?_
        refine g_X12_148 Cx hW (k := 231) (by decide) rfl (v := .ref (G.2.2.1 + 276)) (rd_85 hI23) dX12_sayLetters_32 ?_
        refine lv_aload_n hx hb dX12_sayLetters_35 rfl (lv_at hl 1 rfl) ?_
        have q_10 : (-2147483648) ≤ S23.1 231 86 ∧ S23.1 231 86 ≤ 2147483647 := hI23.fi 86
        refine g_X12_523 Cx hW (k := 231) (by decide) rfl (v := S23.1 231 86) rfl dX12_sayLetters_36 ?_
        refine lv_aload_n hx hb dX12_sayLetters_39 rfl (lv_at hl 1 rfl) ?_
        refine g_X12_23 Cx hW (k := 231) (by decide) rfl (v := .ref (G.2.2.1 + 236)) (rd_5 hI23) dX12_sayLetters_40 ?_
        refine lv_iload_n hx hb dX12_sayLetters_43 rfl (lv_at hl 0 rfl) ?_
        refine rBald Cx hW (k := 236) (by decide) rfl (by decide) (by omega) (by omega) dX12_sayLetters_44 ?_
        have q_11 : (-128) ≤ S.2.1 236 k ∧ S.2.1 236 k ≤ 127 := hI.ai 236 k
        refine r_i (b := S.2.1 236 k) (((hL23_ 236 rfl).2.1 k).trans ((uF_a).trans (uA_ne (fun h => absurd h.1 (by decide))))) ?_
        have hrd : S.2.1 236 k = L.getD k.toNat 0 := by have e := ll23.2 k.toNat (by omega); rw [show ((k.toNat : Nat) : Int) = k by omega] at e; exact (((hL23_ 236 rfl).2.1 k).trans ((uF_a).trans (uA_ne (fun h => absurd h.1 (by decide)))) : S23.2.1 236 k = S.2.1 236 k).symm.trans e
        refine rBast Cx hW hL (k := 276) (by decide) rfl (by decide) (by omega) (by omega) (nar_b (by omega) (by omega)) dX12_sayLetters_45 (fun H locs hW hL => ?_)
        have F_12 : Fr S (uA S23 276 (S23.1 231 86) (S.2.1 236 k)) (pl [231, 276]) := hFm23.A rfl
        have F_13 : Fr ((uF (uA S 276 (S.1 231 86) 32) 231 86 ((S.1 231 86) + 1))) (uA S23 276 (S23.1 231 86) (S.2.1 236 k)) (pl [231, 276]) := hL23_.A rfl
        have i_14 : dX G (uA S23 276 (S23.1 231 86) (S.2.1 236 k)) := hI23.A (k := 276) (show (-128) ≤ S.2.1 236 k ∧ S.2.1 236 k ≤ 127 from ⟨by omega, by omega⟩)
        refine lv_aload_n hx hb dX12_sayLetters_46 rfl (lv_at hl 1 rfl) ?_
        refine lv_dup hx hb dX12_sayLetters_47 rfl ?_
        refine g_X12_523 Cx hW (k := 231) (by decide) rfl (v := S23.1 231 86) uA_f dX12_sayLetters_48 ?_
        refine lv_iconst (v := iv 1) hx hb dX12_sayLetters_51 (by decide) ?_
        refine r_iadd hx hb dX12_sayLetters_52 ?_
        refine p_X12_523 Cx hW hL (k := 231) (by decide) rfl dX12_sayLetters_53 (fun H locs hW hL => ?_)
        have F_15 : Fr S (uF (uA S23 276 (S23.1 231 86) (S.2.1 236 k)) 231 86 ((S23.1 231 86) + 1)) (pl [231, 276]) := F_12.F rfl
        have F_16 : Fr ((uF (uA S 276 (S.1 231 86) 32) 231 86 ((S.1 231 86) + 1))) (uF (uA S23 276 (S23.1 231 86) (S.2.1 236 k)) 231 86 ((S23.1 231 86) + 1)) (pl [231, 276]) := F_13.F rfl
        have g_17 : FF S (uF (uA S23 276 (S23.1 231 86) (S.2.1 236 k)) 231 86 ((S23.1 231 86) + 1)) (fl [86]) := FF.F hGm23 rfl
        have g_18 : FF ((uF (uA S 276 (S.1 231 86) 32) 231 86 ((S.1 231 86) + 1))) (uF (uA S23 276 (S23.1 231 86) (S.2.1 236 k)) 231 86 ((S23.1 231 86) + 1)) (fl [86]) := FF.F gL23_ rfl
        have i_19 : dX G (uF (uA S23 276 (S23.1 231 86) (S.2.1 236 k)) 231 86 ((S23.1 231 86) + 1)) := i_14.F (i := 86) (show (-2147483648) ≤ (S23.1 231 86) + 1 ∧ (S23.1 231 86) + 1 ≤ 2147483647 from ⟨by omega, by omega⟩)
        refine lv_iinc (v := iv (k + 1)) (lv' := [(1, .int (iv (k + 1))), (0, .ref (G.2.2.1 + 231))]) hx hb dX12_sayLetters_56 hl (k := 0) rfl ((Int32.ofInt_add _ _).symm) (by decide) rfl (fun ls hl => ?_)
        refine lv_goto (tgt := 23) hx hb dX12_sayLetters_59 (by decide) ?_
        have lk_20 : (uF (uA S23 276 (S23.1 231 86) (S.2.1 236 k)) 231 86 ((S23.1 231 86) + 1)).1 231 86 = (S23.1 231 86) + 1 := uF_on
        have lk_21 : (uF (uA S23 276 (S23.1 231 86) (S.2.1 236 k)) 231 86 ((S23.1 231 86) + 1)).1 231 6 = S.1 231 6 := (uF_ne (fun h => absurd h.2 (by decide))).trans ((uA_f).trans ((gL23_ 6 rfl).trans ((uF_ne (fun h => absurd h.2 (by decide))).trans (uA_f))))
        exact ih_23 (uF (uA S23 276 (S23.1 231 86) (S.2.1 236 k)) 231 86 ((S23.1 231 86) + 1)) (k + 1) _ _ _ (by omega) i_19 F_15 F_16 g_17 g_18 (by omega) (by omega) (LSr.of ll23 ((uF_ne (fun h => absurd h.2 (by decide))).trans (uA_f)) (funext fun x => (uF_a).trans (uA_ne (fun h => absurd h.1 (by decide))))) (by omega) (LSr.eq (LSr.put (x := L.getD k.toNat 0) l23 uF_on (fun j => by show (uA S23 276 (S23.1 231 86) (S.2.1 236 k)).2.1 276 j = _; rw [uA_get]; by_cases q : j = S23.1 231 86; (focus (rw [if_pos ⟨rfl, by omega⟩, if_pos q]; (try omega))); (rw [if_neg (fun y => q (by have := y.2; omega)), if_neg q]))) (by rw [List.append_assoc, show (k + 1).toNat = k.toNat + 1 by omega, take_s (by omega)])) hW hL (lv_sub hl [0, 1] rfl)
  have lk_22 : (uF (uA S 276 (S.1 231 86) 32) 231 86 ((S.1 231 86) + 1)).1 231 86 = (S.1 231 86) + 1 := uF_on
  have q_23 : (-2147483648) ≤ S.1 231 6 ∧ S.1 231 6 ≤ 2147483647 := hI.fi 6
  have lk_24 : (uF (uA S 276 (S.1 231 86) 32) 231 86 ((S.1 231 86) + 1)).1 231 6 = S.1 231 6 := (uF_ne (fun h => absurd h.2 (by decide))).trans (uA_f)
  exact loop_23 (_ + 1) (uF (uA S 276 (S.1 231 86) 32) 231 86 ((S.1 231 86) + 1)) 0 _ _ _ (Nat.lt_succ_self _) i_6 F_4 Fr.rf g_5 FF.rf (by omega) (by omega) (LSr.of hlt ((uF_ne (fun h => absurd h.2 (by decide))).trans (uA_f)) (funext fun x => (uF_a).trans (uA_ne (fun h => absurd h.1 (by decide))))) (by omega) (LSr.eq (LSr.put (x := 32) hps uF_on (fun j => by show (uA S 276 (S.1 231 86) 32).2.1 276 j = _; rw [uA_get]; by_cases q : j = S.1 231 86; (focus (rw [if_pos ⟨rfl, by omega⟩, if_pos q]; (try omega))); (rw [if_neg (fun y => q (by have := y.2; omega)), if_neg q]))) (by rw [show ((0 : Int)).toNat = 0 from rfl, List.take_zero, List.append_nil])) hW hL (lv_sub hl [0, 1] rfl)

set_option maxRecDepth 100000 in
set_option maxHeartbeats 4000000 in
theorem r_X12_lower (l : Launch) (G : sG) (S : sS) {ka kb Nka Nkb : Nat} {po qo : Int} (hI : dX G S) (hika : ia ka Nka) (hikb : ia kb Nkb) (nka233 : Hd (ka ≠ 233)) (nka234 : Hd (ka ≠ 234)) (nka235 : Hd (ka ≠ 235)) (nka237 : Hd (ka ≠ 237)) (nka238 : Hd (ka ≠ 238)) (nka239 : Hd (ka ≠ 239)) (nka240 : Hd (ka ≠ 240)) (nka241 : Hd (ka ≠ 241)) (nka242 : Hd (ka ≠ 242)) (nka280 : Hd (ka ≠ 280)) (nkb233 : Hd (kb ≠ 233)) (nkb234 : Hd (kb ≠ 234)) (nkb235 : Hd (kb ≠ 235)) (nkb237 : Hd (kb ≠ 237)) (nkb238 : Hd (kb ≠ 238)) (nkb239 : Hd (kb ≠ 239)) (nkb240 : Hd (kb ≠ 240)) (nkb241 : Hd (kb ≠ 241)) (nkb242 : Hd (kb ≠ 242)) (nkb280 : Hd (kb ≠ 280)) (hR : (0 ≤ po ∧ po + 6 < Nka) ∧ 0 ≤ qo ∧ qo + 6 < Nkb) (hA : NO (S.2.1 ka) po 6) (hB : NO (S.2.1 kb) qo 6) (hps : 0 < nv (S.2.1 kb) qo) : Met l yX12_lower (.code yX12_lower cX12_lower 5 none :: tb) (rmk 7 0 0) (sPc G 294 S [.ref (G.2.2.1 + 231), .ref (G.2.2.1 + ka), .int (iv po), .ref (G.2.2.1 + kb), .int (iv qo)]) (sQv G 294 (fun u => dX G u ∧ Fr S u (pl [233, 234, 235, 237, 238, 239, 240, 241, 242, 280]) ∧ FF S u (fl []) ∧ (NO (u.2.1 237) 0 7 ∧ NO (u.2.1 238) 0 7 ∧ Hd (nv (u.2.1 237) 0 = nv (S.2.1 ka) po / gc (absI (nv (S.2.1 kb) qo)) (absI (nv (S.2.1 ka) po)) ∧ nv (u.2.1 238) 0 = nv (S.2.1 kb) qo / gc (absI (nv (S.2.1 kb) qo)) (absI (nv (S.2.1 ka) po)))))) 0 0 (sF G) := by
  refine sEnter (by decide) (Nat.le_of_ble_eq_true rfl) ?_
  intro p e s m args below meth c Cx hr hlk hnm hW ls hl
  have Cx : sC G p m c cX12_lower 5 s args RX12 := Cx
  obtain ⟨hx, hb, hml, hown, hts⟩ := id Cx.1
  have hL : sL G [] := sL_nil
  have hl : lv_has ls 5 [(0, .ref (G.2.2.1 + 231)), (1, .ref (G.2.2.1 + ka)), (2, .int (iv po)), (3, .ref (G.2.2.1 + kb)), (4, .int (iv qo))] := hl
  have hW0 := hW
  refine lv_aload_n hx hb dX12_lower_0 rfl (lv_at hl 0 rfl) ?_
  refine lv_aload_n hx hb dX12_lower_1 rfl (lv_at hl 3 rfl) ?_
  refine lv_iload hx hb dX12_lower_2 (lv_at hl 4 rfl) ?_
  refine lv_aload_n hx hb dX12_lower_4 rfl (lv_at hl 1 rfl) ?_
  refine lv_iload_n hx hb dX12_lower_5 rfl (lv_at hl 2 rfl) ?_
  refine sBv (sV (As := [.ref (G.2.2.1 + kb), .int (iv qo), .ref (G.2.2.1 + ka), .int (iv po)]) (rest := []) (k := 231) Cx (r_X12_common l G S (ka := kb) (po := qo) (kb := ka) (qo := po) (Nka := Nkb) (Nkb := Nka) (La := 6) (Lb := 6) (Lx := 6) hI hikb hika (neD nkb241) (neD nka241) (neD nka242) (by omega) hB hA (.inl hps)) (c_X12_658 Cx rfl rfl (rmk_ok (by omega) (by decide))) hW (by decide) rfl rfl rfl hl.1 rfl (Nat.le_of_ble_eq_true rfl) dX12_lower_6 ⟨Nat.le_of_ble_eq_true rfl, Nat.le_of_ble_eq_true rfl⟩) hL (fun u_1 H locs k_2 hW hL => ?_)
  obtain ⟨iu_1, fu_1, gu_1, xu_1⟩ := k_2
  have F_3 := (Fr.rf : Fr S S (pl [233, 234, 235, 237, 238, 239, 240, 241, 242, 280])).trans (fu_1.to (pl_sub (by decide)))
  have g_4 : FF S u_1 (fl []) := FF.trans FF.rf (FF.to gu_1 (fl_sub (by decide)))
  refine lv_aload_n hx hb dX12_lower_9 rfl (lv_at hl 0 rfl) ?_
  refine g_X12_38 Cx hW (k := 231) (by decide) rfl (v := .ref (G.2.2.1 + 241)) (rd_11 iu_1) dX12_lower_10 ?_
  refine lv_iconst (v := iv 0) hx hb dX12_lower_13 (by decide) ?_
  refine lv_aload_n hx hb dX12_lower_14 rfl (lv_at hl 0 rfl) ?_
  refine g_X12_160 Cx hW (k := 231) (by decide) rfl (v := .ref (G.2.2.1 + 280)) (rd_90 iu_1) dX12_lower_15 ?_
  refine lv_iconst (v := iv 0) hx hb dX12_lower_18 (by decide) ?_
  refine sBv (sSt (As := [.ref (G.2.2.1 + 241), .int (iv 0), .ref (G.2.2.1 + 280), .int (iv 0)]) (rest := []) Cx (s_X12_copy l G u_1 (ka := 241) (po := 0) (kb := 280) (qo := 0) (Nka := 68) (Nkb := 68) (La := 6) iu_1 ⟨rfl, by decide, by decide, by decide, rfl⟩ ⟨rfl, by decide, by decide, by decide, rfl⟩ (show (280 : Nat) ≠ 241 by decide) (by omega) xu_1.1) (c_X12_233 Cx rfl rfl (rmk_ok (by omega) (by decide))) hW rfl hl.1 rfl (Nat.le_of_ble_eq_true rfl) dX12_lower_19 ⟨Nat.le_of_ble_eq_true rfl, Nat.le_of_ble_eq_true rfl⟩) hL (fun u_5 H locs k_6 hW hL => ?_)
  obtain ⟨iu_5, fu_5, xu_5⟩ := k_6
  have F_7 := F_3.trans (fu_5.to (p1_sub rfl))
  have g_8 : FF S u_5 (fl []) := FF.fr g_4 fu_5 rfl
  have hpcp : 0 < u_5.2.1 280 0 := by rw [xu_5.1.2.2]; exact xu_1.1.sgn.2.1.mp xu_1.2.1
  refine lv_aload_n hx hb dX12_lower_22 rfl (lv_at hl 0 rfl) ?_
  refine lv_aload_n hx hb dX12_lower_23 rfl (lv_at hl 3 rfl) ?_
  refine lv_iload hx hb dX12_lower_24 (lv_at hl 4 rfl) ?_
  refine lv_aload_n hx hb dX12_lower_26 rfl (lv_at hl 0 rfl) ?_
  refine g_X12_160 Cx hW (k := 231) (by decide) rfl (v := .ref (G.2.2.1 + 280)) (rd_90 iu_5) dX12_lower_27 ?_
  refine lv_iconst (v := iv 0) hx hb dX12_lower_30 (by decide) ?_
  refine lv_aload_n hx hb dX12_lower_31 rfl (lv_at hl 0 rfl) ?_
  refine g_X12_29 Cx hW (k := 231) (by decide) rfl (v := .ref (G.2.2.1 + 238)) (rd_8 iu_5) dX12_lower_32 ?_
  refine lv_iconst (v := iv 0) hx hb dX12_lower_35 (by decide) ?_
  refine lv_aload_n hx hb dX12_lower_36 rfl (lv_at hl 0 rfl) ?_
  refine g_X12_35 Cx hW (k := 231) (by decide) rfl (v := .ref (G.2.2.1 + 240)) (rd_10 iu_5) dX12_lower_37 ?_
  refine lv_iconst (v := iv 0) hx hb dX12_lower_40 (by decide) ?_
  have hbp41 : 0 < u_5.2.1 280 0 := by rw [show u_5.2.1 280 = u_5.2.1 280 from (funext fun j => rfl)]; exact hpcp
  refine sBv (sV (As := [.ref (G.2.2.1 + kb), .int (iv qo), .ref (G.2.2.1 + 280), .int (iv 0), .ref (G.2.2.1 + 238), .int (iv 0), .ref (G.2.2.1 + 240), .int (iv 0)]) (rest := []) (k := 231) Cx (s_X12_divide l G u_5 (ka := kb) (po := qo) (kb := 280) (qo := 0) (kc := 238) (ro := 0) (kd := 240) (eo := 0) (Nka := Nkb) (Nkb := 68) (Nkc := 68) (Nkd := 68) (La := 6) (Lb := 6) (Ld := 7) iu_5 hikb ⟨rfl, by decide, by decide, by decide, rfl⟩ ⟨rfl, by decide, by decide, by decide, rfl⟩ ⟨rfl, by decide, by decide, by decide, rfl⟩ (neS nkb238) (neS nkb240) (show (238 : Nat) ≠ 280 by decide) (show (240 : Nat) ≠ 280 by decide) (show (238 : Nat) ≠ 240 by decide) (neD nkb233) (show (280 : Nat) ≠ 233 by decide) (show (280 : Nat) ≠ 234 by decide) (show (280 : Nat) ≠ 235 by decide) (show (238 : Nat) ≠ 233 by decide) (show (238 : Nat) ≠ 234 by decide) (show (238 : Nat) ≠ 235 by decide) (show (240 : Nat) ≠ 233 by decide) (show (240 : Nat) ≠ 234 by decide) (show (240 : Nat) ≠ 235 by decide) (by omega) (by omega) (by rw [show u_5.2.1 kb = S.2.1 kb from (funext fun j => ((fu_5 kb (p1_no (neD nkb280))).2.1 j).trans ((fu_1 kb (pl_c (neD nkb233) (pl_c (neD nkb234) (pl_c (neD nkb235) (pl_c (neD nkb239) (pl_c (neD nkb240) (pl_c (neD nkb241) (pl_c (neD nkb242) rfl)))))))).2.1 j))]; exact hB) xu_5.1.1) (c_X12_266 Cx rfl rfl (rmk_ok (by omega) (by decide))) hW (by decide) rfl rfl rfl hl.1 rfl (Nat.le_of_ble_eq_true rfl) dX12_lower_41 ⟨Nat.le_of_ble_eq_true rfl, Nat.le_of_ble_eq_true rfl⟩) hL (fun u_9 H locs k_10 hW hL => ?_)
  obtain ⟨iu_9, fu_9, xu_9⟩ := k_10
  have F_11 := F_7.trans (fu_9.to (pl_sub (by decide)))
  have g_12 : FF S u_9 (fl []) := FF.fr g_8 fu_9 rfl
  refine lv_aload_n hx hb dX12_lower_44 rfl (lv_at hl 0 rfl) ?_
  refine lv_aload_n hx hb dX12_lower_45 rfl (lv_at hl 1 rfl) ?_
  refine lv_iload_n hx hb dX12_lower_46 rfl (lv_at hl 2 rfl) ?_
  refine lv_aload_n hx hb dX12_lower_47 rfl (lv_at hl 0 rfl) ?_
  refine g_X12_160 Cx hW (k := 231) (by decide) rfl (v := .ref (G.2.2.1 + 280)) (rd_90 iu_9) dX12_lower_48 ?_
  refine lv_iconst (v := iv 0) hx hb dX12_lower_51 (by decide) ?_
  refine lv_aload_n hx hb dX12_lower_52 rfl (lv_at hl 0 rfl) ?_
  refine g_X12_26 Cx hW (k := 231) (by decide) rfl (v := .ref (G.2.2.1 + 237)) (rd_7 iu_9) dX12_lower_53 ?_
  refine lv_iconst (v := iv 0) hx hb dX12_lower_56 (by decide) ?_
  refine lv_aload_n hx hb dX12_lower_57 rfl (lv_at hl 0 rfl) ?_
  refine g_X12_35 Cx hW (k := 231) (by decide) rfl (v := .ref (G.2.2.1 + 240)) (rd_10 iu_9) dX12_lower_58 ?_
  refine lv_iconst (v := iv 0) hx hb dX12_lower_61 (by decide) ?_
  have hbp62 : 0 < u_9.2.1 280 0 := by rw [show u_9.2.1 280 = u_5.2.1 280 from (funext fun j => (fu_9 280 rfl).2.1 j)]; exact hpcp
  refine sBv (sV (As := [.ref (G.2.2.1 + ka), .int (iv po), .ref (G.2.2.1 + 280), .int (iv 0), .ref (G.2.2.1 + 237), .int (iv 0), .ref (G.2.2.1 + 240), .int (iv 0)]) (rest := []) (k := 231) Cx (s_X12_divide l G u_9 (ka := ka) (po := po) (kb := 280) (qo := 0) (kc := 237) (ro := 0) (kd := 240) (eo := 0) (Nka := Nka) (Nkb := 68) (Nkc := 68) (Nkd := 68) (La := 6) (Lb := 6) (Ld := 7) iu_9 hika ⟨rfl, by decide, by decide, by decide, rfl⟩ ⟨rfl, by decide, by decide, by decide, rfl⟩ ⟨rfl, by decide, by decide, by decide, rfl⟩ (neS nka237) (neS nka240) (show (237 : Nat) ≠ 280 by decide) (show (240 : Nat) ≠ 280 by decide) (show (237 : Nat) ≠ 240 by decide) (neD nka233) (show (280 : Nat) ≠ 233 by decide) (show (280 : Nat) ≠ 234 by decide) (show (280 : Nat) ≠ 235 by decide) (show (237 : Nat) ≠ 233 by decide) (show (237 : Nat) ≠ 234 by decide) (show (237 : Nat) ≠ 235 by decide) (show (240 : Nat) ≠ 233 by decide) (show (240 : Nat) ≠ 234 by decide) (show (240 : Nat) ≠ 235 by decide) (by omega) (by omega) (by rw [show u_9.2.1 ka = S.2.1 ka from (funext fun j => ((fu_9 ka (pl_c (neD nka233) (pl_c (neD nka234) (pl_c (neD nka235) (pl_c (neD nka238) (pl_c (neD nka240) rfl)))))).2.1 j).trans (((fu_5 ka (p1_no (neD nka280))).2.1 j).trans ((fu_1 ka (pl_c (neD nka233) (pl_c (neD nka234) (pl_c (neD nka235) (pl_c (neD nka239) (pl_c (neD nka240) (pl_c (neD nka241) (pl_c (neD nka242) rfl)))))))).2.1 j)))]; exact hA) (by rw [show u_9.2.1 280 = u_5.2.1 280 from (funext fun j => (fu_9 280 rfl).2.1 j)]; exact xu_5.1.1)) (c_X12_266 Cx rfl rfl (rmk_ok (by omega) (by decide))) hW (by decide) rfl rfl rfl hl.1 rfl (Nat.le_of_ble_eq_true rfl) dX12_lower_62 ⟨Nat.le_of_ble_eq_true rfl, Nat.le_of_ble_eq_true rfl⟩) hL (fun u_13 H locs k_14 hW hL => ?_)
  obtain ⟨iu_13, fu_13, xu_13⟩ := k_14
  have F_15 := F_11.trans (fu_13.to (pl_sub (by decide)))
  have g_16 : FF S u_13 (fl []) := FF.fr g_12 fu_13 rfl
  exact sVret Cx hr hlk hW hL ⟨iu_13, F_15, g_16, ⟨xu_13.1, (by rw [show u_13.2.1 238 = u_9.2.1 238 from (funext fun j => (fu_13 238 rfl).2.1 j)]; exact xu_9.1), ⟨(by have e := xu_13.2.2.1.1; have h1 := xu_13.2.2.1.2.2; rw [show u_9.2.1 ka = S.2.1 ka from (funext fun j => ((fu_9 ka (pl_c (neD nka233) (pl_c (neD nka234) (pl_c (neD nka235) (pl_c (neD nka238) (pl_c (neD nka240) rfl)))))).2.1 j).trans (((fu_5 ka (p1_no (neD nka280))).2.1 j).trans ((fu_1 ka (pl_c (neD nka233) (pl_c (neD nka234) (pl_c (neD nka235) (pl_c (neD nka239) (pl_c (neD nka240) (pl_c (neD nka241) (pl_c (neD nka242) rfl)))))))).2.1 j))), show u_9.2.1 280 = u_5.2.1 280 from (funext fun j => (fu_9 280 rfl).2.1 j), (show nv (u_5.2.1 280) 0 = gc (absI (nv (S.2.1 kb) qo)) (absI (nv (S.2.1 ka) po)) by rw [xu_5.1.2.1, show u_1.2.1 241 = u_1.2.1 241 from (funext fun j => rfl)]; exact xu_1.2.2)] at e; rw [show u_9.2.1 280 = u_5.2.1 280 from (funext fun j => (fu_9 280 rfl).2.1 j), (show nv (u_5.2.1 280) 0 = gc (absI (nv (S.2.1 kb) qo)) (absI (nv (S.2.1 ka) po)) by rw [xu_5.1.2.1, show u_1.2.1 241 = u_1.2.1 241 from (funext fun j => rfl)]; exact xu_1.2.2)] at h1; exact (dv_q e xu_13.2.2.1.2.1 h1).1), (by rw [show u_13.2.1 238 = u_9.2.1 238 from (funext fun j => (fu_13 238 rfl).2.1 j)]; exact (by have e := xu_9.2.2.1.1; have h1 := xu_9.2.2.1.2.2; rw [show u_5.2.1 kb = S.2.1 kb from (funext fun j => ((fu_5 kb (p1_no (neD nkb280))).2.1 j).trans ((fu_1 kb (pl_c (neD nkb233) (pl_c (neD nkb234) (pl_c (neD nkb235) (pl_c (neD nkb239) (pl_c (neD nkb240) (pl_c (neD nkb241) (pl_c (neD nkb242) rfl)))))))).2.1 j)), show u_5.2.1 280 = u_5.2.1 280 from (funext fun j => rfl), (show nv (u_5.2.1 280) 0 = gc (absI (nv (S.2.1 kb) qo)) (absI (nv (S.2.1 ka) po)) by rw [xu_5.1.2.1, show u_1.2.1 241 = u_1.2.1 241 from (funext fun j => rfl)]; exact xu_1.2.2)] at e; rw [show u_5.2.1 280 = u_5.2.1 280 from (funext fun j => rfl), (show nv (u_5.2.1 280) 0 = gc (absI (nv (S.2.1 kb) qo)) (absI (nv (S.2.1 ka) po)) by rw [xu_5.1.2.1, show u_1.2.1 241 = u_1.2.1 241 from (funext fun j => rfl)]; exact xu_1.2.2)] at h1; exact (dv_q e xu_9.2.2.1.2.1 h1).1))⟩⟩⟩ dX12_lower_65

set_option maxRecDepth 100000 in
set_option maxHeartbeats 4000000 in
theorem r_X12_sayPoint (l : Launch) (G : sG) (S : sS) {ka kb Nka Nkb : Nat} {po qo : Int} {T : List Int} (hI : dX G S) (hika : ia ka Nka) (hikb : ia kb Nkb) (hpL : Hd (LSr S 86 276 T)) (hTn : T ≠ []) (nka231 : Hd (ka ≠ 231)) (nka233 : Hd (ka ≠ 233)) (nka234 : Hd (ka ≠ 234)) (nka235 : Hd (ka ≠ 235)) (nka236 : Hd (ka ≠ 236)) (nka237 : Hd (ka ≠ 237)) (nka239 : Hd (ka ≠ 239)) (nka240 : Hd (ka ≠ 240)) (nka241 : Hd (ka ≠ 241)) (nka242 : Hd (ka ≠ 242)) (nka276 : Hd (ka ≠ 276)) (nka280 : Hd (ka ≠ 280)) (nkb231 : Hd (kb ≠ 231)) (nkb233 : Hd (kb ≠ 233)) (nkb234 : Hd (kb ≠ 234)) (nkb235 : Hd (kb ≠ 235)) (nkb236 : Hd (kb ≠ 236)) (nkb237 : Hd (kb ≠ 237)) (nkb239 : Hd (kb ≠ 239)) (nkb240 : Hd (kb ≠ 240)) (nkb241 : Hd (kb ≠ 241)) (nkb242 : Hd (kb ≠ 242)) (nkb276 : Hd (kb ≠ 276)) (nkb280 : Hd (kb ≠ 280)) (hR : (0 ≤ po ∧ po + 102 < Nka) ∧ 0 ≤ qo ∧ qo + 6 < Nkb) (hM : MD S) (hA : ∀ j, 1 ≤ j → j ≤ S.1 231 46 → NO (S.2.1 ka) (po + 8 * j) 6) (hB : NO (S.2.1 kb) qo 6) (hps : 0 < nv (S.2.1 kb) qo) (h86 : 0 ≤ S.1 231 86 ∧ S.1 231 86 ≤ 3000) : Met l yX12_sayPoint (.code yX12_sayPoint cX12_sayPoint 6 none :: tb) (rmk 7 0 0) (sPc G 294 S [.ref (G.2.2.1 + 231), .ref (G.2.2.1 + ka), .int (iv po), .ref (G.2.2.1 + kb), .int (iv qo)]) (sQv G 294 (fun u => dX G u ∧ Fr S u (pl [231, 233, 234, 235, 236, 237, 239, 240, 241, 242, 276, 280]) ∧ FF S u (fl [6, 86]) ∧ (S.1 231 86 ≤ u.1 231 86 ∧ u.1 231 86 ≤ S.1 231 86 + 900 ∧ Hd (LSr u 86 276 (ptS (S.1 231 46) (fun b => nv (S.2.1 ka) (po + 8 * b)) (nv (S.2.1 kb) qo) T))))) 0 0 (sF G) := by
  refine sEnter (by decide) (Nat.le_of_ble_eq_true rfl) ?_
  intro p e s m args below meth c Cx hr hlk hnm hW ls hl
  have Cx : sC G p m c cX12_sayPoint 6 s args RX12 := Cx
  obtain ⟨hx, hb, hml, hown, hts⟩ := id Cx.1
  have hL : sL G [] := sL_nil
  have hl : lv_has ls 6 [(0, .ref (G.2.2.1 + 231)), (1, .ref (G.2.2.1 + ka)), (2, .int (iv po)), (3, .ref (G.2.2.1 + kb)), (4, .int (iv qo))] := hl
  have hW0 := hW
  have hm1 : (0 ≤ S.1 231 46 ∧ S.1 231 46 ≤ 12) ∧ (0 ≤ S.1 231 47 ∧ S.1 231 47 ≤ 16) ∧ 0 ≤ S.1 231 63 ∧ S.1 231 63 ≤ 40 := hM
  have hNa := hika.2.2.2.1
  have hNb := hikb.2.2.2.1
  refine lv_aload_n hx hb dX12_sayPoint_0 rfl (lv_at hl 3 rfl) ?_
  refine lv_iload hx hb dX12_sayPoint_1 (lv_at hl 4 rfl) ?_
  refine lv_aload_n hx hb dX12_sayPoint_3 rfl (lv_at hl 0 rfl) ?_
  refine g_X12_160 Cx hW (k := 231) (by decide) rfl (v := .ref (G.2.2.1 + 280)) (rd_90 hI) dX12_sayPoint_4 ?_
  refine lv_iconst (v := iv 0) hx hb dX12_sayPoint_7 (by decide) ?_
  refine sBv (sSt (As := [.ref (G.2.2.1 + kb), .int (iv qo), .ref (G.2.2.1 + 280), .int (iv 0)]) (rest := []) Cx (s_X12_copy l G S (ka := kb) (po := qo) (kb := 280) (qo := 0) (Nka := Nkb) (Nkb := 68) (La := 6) hI hikb ⟨rfl, by decide, by decide, by decide, rfl⟩ (neS nkb280) (by omega) hB) (c_X12_233 Cx rfl rfl (rmk_ok (by omega) (by decide))) hW rfl hl.1 rfl (Nat.le_of_ble_eq_true rfl) dX12_sayPoint_8 ⟨Nat.le_of_ble_eq_true rfl, Nat.le_of_ble_eq_true rfl⟩) hL (fun u_1 H locs k_2 hW hL => ?_)
  obtain ⟨iu_1, fu_1, xu_1⟩ := k_2
  have F_3 := (Fr.rf : Fr S S (pl [231, 233, 234, 235, 236, 237, 239, 240, 241, 242, 276, 280])).trans (fu_1.to (p1_sub rfl))
  have g_4 : FF S u_1 (fl [6, 86]) := FF.fr FF.rf fu_1 rfl
  refine lv_iconst (v := iv 1) hx hb dX12_sayPoint_11 (by decide) ?_
  refine lv_istore (lv' := [(5, .int (iv 1)), (0, .ref (G.2.2.1 + 231)), (1, .ref (G.2.2.1 + ka)), (2, .int (iv po)), (3, .ref (G.2.2.1 + kb)), (4, .int (iv qo))]) hx hb dX12_sayPoint_12 hl (by decide) rfl (fun ls hl => ?_)
  have loop_14 : ∀ (fuel : Nat) (S14 : sS) (j : Int) (H : Heap) (locs : List Loc) (ls : Array Slot), (S.1 231 46 + 1 - j).toNat < fuel → (dX G S14) → (Fr S S14 (pl [231, 233, 234, 235, 236, 237, 239, 240, 241, 242, 276, 280])) → (Fr u_1 S14 (pl [233, 234, 235, 239, 240, 241, 242, 280])) → (FF S S14 (fl [6, 86])) → (FF u_1 S14 (fl [])) → (1 ≤ j ∧ j ≤ S.1 231 46 + 1) → (NO (S14.2.1 280) 0 6) → (0 < nv (S14.2.1 280) 0) → (Hd (nv (S14.2.1 280) 0 = gcP (fun b => nv (S.2.1 ka) (po + 8 * b)) (nv (S.2.1 kb) qo) (j - 1).toNat)) → sW G 294 S14 H → sL G locs → lv_has ls 6 [(5, .int (iv j)), (0, .ref (G.2.2.1 + 231)), (1, .ref (G.2.2.1 + ka)), (2, .int (iv po)), (3, .ref (G.2.2.1 + kb)), (4, .int (iv qo))] → W p l e (rmk 7 0 0) s m args below meth c H locs 0 0 (MQ below (sQv G 294 (fun u => dX G u ∧ Fr S u (pl [231, 233, 234, 235, 236, 237, 239, 240, 241, 242, 276, 280]) ∧ FF S u (fl [6, 86]) ∧ (S.1 231 86 ≤ u.1 231 86 ∧ u.1 231 86 ≤ S.1 231 86 + 900 ∧ Hd (LSr u 86 276 (ptS (S.1 231 46) (fun b => nv (S.2.1 ka) (po + 8 * b)) (nv (S.2.1 kb) qo) T))))) args s 0 0 (sF G)) (F0 m 14 ls []) := by
    intro fuel
    induction fuel with
    | zero => intro S14 j H locs ls hmeas hI14 hFm14 hL14_ hGm14 gL14_ hj hN14 hP14 hgc hW hL hl; exact absurd hmeas (Nat.not_lt_zero _)
    | succ fuel ih_14 =>
      intro S14 j H locs ls hmeas hI14 hFm14 hL14_ hGm14 gL14_ hj hN14 hP14 hgc hW hL hl
      refine lv_iload hx hb dX12_sayPoint_14 (lv_at hl 0 rfl) ?_
      refine lv_aload_n hx hb dX12_sayPoint_16 rfl (lv_at hl 1 rfl) ?_
      have q_5 : (-2147483648) ≤ S.1 231 46 ∧ S.1 231 46 ≤ 2147483647 := hI.fi 46
      refine g_X12_465 Cx hW (k := 231) (by decide) rfl (v := S.1 231 46) ((gL14_ 46 rfl).trans ((fu_1 231 rfl).1 46)) dX12_sayPoint_17 ?_
      refine r_icmp_gt (tgt := 59) hx hb ⟨(by omega), (by omega)⟩ ⟨(by omega), (by omega)⟩ dX12_sayPoint_20 (by decide) (fun c_6 => ?_) (fun c_6 => ?_)
      · have hG9 : nv (S14.2.1 280) 0 = (gcP (fun b => nv (S.2.1 ka) (po + 8 * b)) (nv (S.2.1 kb) qo) (S.1 231 46).toNat) := (show nv (S14.2.1 280) 0 = _ from hgc).trans (by rw [show j - 1 = S.1 231 46 by omega])
        refine lv_iconst (v := iv 1) hx hb dX12_sayPoint_59 (by decide) ?_
        refine lv_istore (lv' := [(5, .int (iv 1)), (0, .ref (G.2.2.1 + 231)), (1, .ref (G.2.2.1 + ka)), (2, .int (iv po)), (3, .ref (G.2.2.1 + kb)), (4, .int (iv qo))]) hx hb dX12_sayPoint_60 hl (by decide) rfl (fun ls hl => ?_)
        have loop_62 : ∀ (fuel : Nat) (S62 : sS) (j : Int) (H : Heap) (locs : List Loc) (ls : Array Slot), (S.1 231 46 + 1 - j).toNat < fuel → (dX G S62) → (Fr S S62 (pl [231, 233, 234, 235, 236, 237, 239, 240, 241, 242, 276, 280])) → (Fr S14 S62 (pl [231, 233, 234, 235, 236, 237, 240, 276])) → (FF S S62 (fl [6, 86])) → (FF S14 S62 (fl [6, 86])) → (1 ≤ j ∧ j ≤ S.1 231 46 + 1) → (S.1 231 86 ≤ S62.1 231 86 ∧ S62.1 231 86 ≤ S.1 231 86 + 66 * (j - 1)) → (Hd (LSr S62 86 276 (ptsT (fun b => nv (S.2.1 ka) (po + 8 * b) / (gcP (fun b => nv (S.2.1 ka) (po + 8 * b)) (nv (S.2.1 kb) qo) (S.1 231 46).toNat)) T (j - 1).toNat))) → sW G 294 S62 H → sL G locs → lv_has ls 6 [(5, .int (iv j)), (0, .ref (G.2.2.1 + 231)), (1, .ref (G.2.2.1 + ka)), (2, .int (iv po)), (3, .ref (G.2.2.1 + kb)), (4, .int (iv qo))] → W p l e (rmk 7 0 0) s m args below meth c H locs 0 0 (MQ below (sQv G 294 (fun u => dX G u ∧ Fr S u (pl [231, 233, 234, 235, 236, 237, 239, 240, 241, 242, 276, 280]) ∧ FF S u (fl [6, 86]) ∧ (S.1 231 86 ≤ u.1 231 86 ∧ u.1 231 86 ≤ S.1 231 86 + 900 ∧ Hd (LSr u 86 276 (ptS (S.1 231 46) (fun b => nv (S.2.1 ka) (po + 8 * b)) (nv (S.2.1 kb) qo) T))))) args s 0 0 (sF G)) (F0 m 62 ls []) := by
          intro fuel
          induction fuel with
          | zero => intro S62 j H locs ls hmeas hI62 hFm62 hL62_ hGm62 gL62_ hj h62 l62 hW hL hl; exact absurd hmeas (Nat.not_lt_zero _)
          | succ fuel ih_62 =>
            intro S62 j H locs ls hmeas hI62 hFm62 hL62_ hGm62 gL62_ hj h62 l62 hW hL hl
            refine lv_iload hx hb dX12_sayPoint_62 (lv_at hl 0 rfl) ?_
            refine lv_aload_n hx hb dX12_sayPoint_64 rfl (lv_at hl 1 rfl) ?_
            refine g_X12_465 Cx hW (k := 231) (by decide) rfl (v := S.1 231 46) ((gL62_ 46 rfl).trans ((gL14_ 46 rfl).trans ((fu_1 231 rfl).1 46))) dX12_sayPoint_65 ?_
            refine r_icmp_gt (tgt := 122) hx hb ⟨(by omega), (by omega)⟩ ⟨(by omega), (by omega)⟩ dX12_sayPoint_68 (by decide) (fun c_7 => ?_) (fun c_7 => ?_)
            · refine lv_aload_n hx hb dX12_sayPoint_122 rfl (lv_at hl 1 rfl) ?_
              refine zLdcw Cx 28 (by decide) ⟨rfl, rfl⟩ dX12_sayPoint_123 ?_
              have q_8 : (-2147483648) ≤ S62.1 231 86 ∧ S62.1 231 86 ≤ 2147483647 := hI62.fi 86
              refine sBv (sV (As := [.ref (G.1.2 100 28)]) (rest := []) (k := 231) Cx (r_X12_say l G S62 (si := 28) (T := (ptsT (fun b => nv (S.2.1 ka) (po + 8 * b) / (gcP (fun b => nv (S.2.1 ka) (po + 8 * b)) (nv (S.2.1 kb) qo) (S.1 231 46).toNat)) T (j - 1).toNat)) hI62 (by decide) (by omega) l62) (c_X12_666 Cx rfl rfl (rmk_ok (by omega) (by decide))) hW (by decide) rfl rfl rfl hl.1 rfl (Nat.le_of_ble_eq_true rfl) dX12_sayPoint_126 ⟨Nat.le_of_ble_eq_true rfl, Nat.le_of_ble_eq_true rfl⟩) hL (fun u_9 H locs k_10 hW hL => ?_)
              obtain ⟨iu_9, fu_9, gu_9, xu_9⟩ := k_10
              have F_11 := hFm62.trans (fu_9.to (pl_sub (by decide)))
              have F_12 := hL62_.trans (fu_9.to (pl_sub (by decide)))
              have g_13 : FF S u_9 (fl [6, 86]) := FF.trans hGm62 (FF.to gu_9 (fl_sub (by decide)))
              have g_14 : FF S14 u_9 (fl [6, 86]) := FF.trans gL62_ (FF.to gu_9 (fl_sub (by decide)))
              have hsu_9 : ((strN.getD 28 0 : Nat) : Int) = 1 := rfl
              refine lv_aload_n hx hb dX12_sayPoint_129 rfl (lv_at hl 1 rfl) ?_
              refine lv_aload_n hx hb dX12_sayPoint_130 rfl (lv_at hl 4 rfl) ?_
              refine lv_iload hx hb dX12_sayPoint_131 (lv_at hl 5 rfl) ?_
              refine lv_aload_n hx hb dX12_sayPoint_133 rfl (lv_at hl 1 rfl) ?_
              refine g_X12_160 Cx hW (k := 231) (by decide) rfl (v := .ref (G.2.2.1 + 280)) (rd_90 iu_9) dX12_sayPoint_134 ?_
              refine lv_iconst (v := iv 0) hx hb dX12_sayPoint_137 (by decide) ?_
              refine lv_aload_n hx hb dX12_sayPoint_138 rfl (lv_at hl 1 rfl) ?_
              refine g_X12_26 Cx hW (k := 231) (by decide) rfl (v := .ref (G.2.2.1 + 237)) (rd_7 iu_9) dX12_sayPoint_139 ?_
              refine lv_iconst (v := iv 0) hx hb dX12_sayPoint_142 (by decide) ?_
              refine lv_aload_n hx hb dX12_sayPoint_143 rfl (lv_at hl 1 rfl) ?_
              refine g_X12_35 Cx hW (k := 231) (by decide) rfl (v := .ref (G.2.2.1 + 240)) (rd_10 iu_9) dX12_sayPoint_144 ?_
              refine lv_iconst (v := iv 0) hx hb dX12_sayPoint_147 (by decide) ?_
              have hbp148 : 0 < u_9.2.1 280 0 := by rw [show u_9.2.1 280 = S14.2.1 280 from (funext fun j => ((fu_9 280 rfl).2.1 j).trans ((hL62_ 280 rfl).2.1 j))]; exact hN14.sgn.2.1.mp hP14
              refine sBv (sV (As := [.ref (G.2.2.1 + kb), .int (iv qo), .ref (G.2.2.1 + 280), .int (iv 0), .ref (G.2.2.1 + 237), .int (iv 0), .ref (G.2.2.1 + 240), .int (iv 0)]) (rest := []) (k := 231) Cx (s_X12_divide l G u_9 (ka := kb) (po := qo) (kb := 280) (qo := 0) (kc := 237) (ro := 0) (kd := 240) (eo := 0) (Nka := Nkb) (Nkb := 68) (Nkc := 68) (Nkd := 68) (La := 6) (Lb := 6) (Ld := 7) iu_9 hikb ⟨rfl, by decide, by decide, by decide, rfl⟩ ⟨rfl, by decide, by decide, by decide, rfl⟩ ⟨rfl, by decide, by decide, by decide, rfl⟩ (neS nkb237) (neS nkb240) (show (237 : Nat) ≠ 280 by decide) (show (240 : Nat) ≠ 280 by decide) (show (237 : Nat) ≠ 240 by decide) (neD nkb233) (show (280 : Nat) ≠ 233 by decide) (show (280 : Nat) ≠ 234 by decide) (show (280 : Nat) ≠ 235 by decide) (show (237 : Nat) ≠ 233 by decide) (show (237 : Nat) ≠ 234 by decide) (show (237 : Nat) ≠ 235 by decide) (show (240 : Nat) ≠ 233 by decide) (show (240 : Nat) ≠ 234 by decide) (show (240 : Nat) ≠ 235 by decide) (by omega) (by omega) (by rw [show u_9.2.1 kb = S.2.1 kb from (funext fun j => ((fu_9 kb (pl_c (neD nkb231) (pl_c (neD nkb276) rfl))).2.1 j).trans (((hL62_ kb (pl_c (neD nkb231) (pl_c (neD nkb233) (pl_c (neD nkb234) (pl_c (neD nkb235) (pl_c (neD nkb236) (pl_c (neD nkb237) (pl_c (neD nkb240) (pl_c (neD nkb276) rfl))))))))).2.1 j).trans (((hL14_ kb (pl_c (neD nkb233) (pl_c (neD nkb234) (pl_c (neD nkb235) (pl_c (neD nkb239) (pl_c (neD nkb240) (pl_c (neD nkb241) (pl_c (neD nkb242) (pl_c (neD nkb280) rfl))))))))).2.1 j).trans ((fu_1 kb (p1_no (neD nkb280))).2.1 j))))]; exact hB) (by rw [show u_9.2.1 280 = S14.2.1 280 from (funext fun j => ((fu_9 280 rfl).2.1 j).trans ((hL62_ 280 rfl).2.1 j))]; exact hN14)) (c_X12_266 Cx rfl rfl (rmk_ok (by omega) (by decide))) hW (by decide) rfl rfl rfl hl.1 rfl (Nat.le_of_ble_eq_true rfl) dX12_sayPoint_148 ⟨Nat.le_of_ble_eq_true rfl, Nat.le_of_ble_eq_true rfl⟩) hL (fun u_15 H locs k_16 hW hL => ?_)
              obtain ⟨iu_15, fu_15, xu_15⟩ := k_16
              have F_17 := F_11.trans (fu_15.to (pl_sub (by decide)))
              have F_18 := F_12.trans (fu_15.to (pl_sub (by decide)))
              have g_19 : FF S u_15 (fl [6, 86]) := FF.fr g_13 fu_15 rfl
              have g_20 : FF S14 u_15 (fl [6, 86]) := FF.fr g_14 fu_15 rfl
              refine lv_aload_n hx hb dX12_sayPoint_151 rfl (lv_at hl 1 rfl) ?_
              refine lv_iconst (v := iv 0) hx hb dX12_sayPoint_152 (by decide) ?_
              refine p_X12_259 Cx hW hL (k := 231) (by decide) rfl dX12_sayPoint_153 (fun H locs hW hL => ?_)
              have F_21 : Fr S (uF u_15 231 6 0) (pl [231, 233, 234, 235, 236, 237, 239, 240, 241, 242, 276, 280]) := F_17.F rfl
              have F_22 : Fr S14 (uF u_15 231 6 0) (pl [231, 233, 234, 235, 236, 237, 240, 276]) := F_18.F rfl
              have g_23 : FF S (uF u_15 231 6 0) (fl [6, 86]) := FF.F g_19 rfl
              have g_24 : FF S14 (uF u_15 231 6 0) (fl [6, 86]) := FF.F g_20 rfl
              have i_25 : dX G (uF u_15 231 6 0) := iu_15.F (i := 6) (show (-2147483648) ≤ 0 ∧ 0 ≤ 2147483647 from ⟨by omega, by omega⟩)
              refine lv_aload_n hx hb dX12_sayPoint_156 rfl (lv_at hl 1 rfl) ?_
              refine lv_aload_n hx hb dX12_sayPoint_157 rfl (lv_at hl 1 rfl) ?_
              refine g_X12_26 Cx hW (k := 231) (by decide) rfl (v := .ref (G.2.2.1 + 237)) (rd_7 i_25) dX12_sayPoint_158 ?_
              refine lv_iconst (v := iv 0) hx hb dX12_sayPoint_161 (by decide) ?_
              have lk_26 : (uF u_15 231 6 0).1 231 6 = 0 := uF_on
              refine sBv (sV (As := [.ref (G.2.2.1 + 237), .int (iv 0)]) (rest := []) (k := 231) Cx (r_X12_spell l G (uF u_15 231 6 0) (ka := 237) (po := 0) (Nka := 68) (La := 7) (L := ([])) i_25 ⟨rfl, by decide, by decide, by decide, rfl⟩ (by omega) (by omega) (by rw [show (uF u_15 231 6 0).2.1 237 = u_15.2.1 237 from (funext fun j => uF_a)]; exact xu_15.1) (show (237 : Nat) ≠ 231 by decide) (show (237 : Nat) ≠ 236 by decide) (LSr.nil uF_on)) (c_X12_594 Cx rfl rfl (rmk_ok (by omega) (by decide))) hW (by decide) rfl rfl rfl hl.1 rfl (Nat.le_of_ble_eq_true rfl) dX12_sayPoint_162 ⟨Nat.le_of_ble_eq_true rfl, Nat.le_of_ble_eq_true rfl⟩) hL (fun u_27 H locs k_28 hW hL => ?_)
              obtain ⟨iu_27, fu_27, gu_27, xu_27⟩ := k_28
              have F_29 := F_21.trans (fu_27.to (pl_sub (by decide)))
              have F_30 := F_22.trans (fu_27.to (pl_sub (by decide)))
              have g_31 : FF S u_27 (fl [6, 86]) := FF.trans g_23 (FF.to gu_27 (fl_sub (by decide)))
              have g_32 : FF S14 u_27 (fl [6, 86]) := FF.trans g_24 (FF.to gu_27 (fl_sub (by decide)))
              refine lv_aload_n hx hb dX12_sayPoint_165 rfl (lv_at hl 1 rfl) ?_
              have q_33 : (-2147483648) ≤ u_9.1 231 86 ∧ u_9.1 231 86 ≤ 2147483647 := iu_9.fi 86
              have lk_34 : u_27.1 231 86 = u_9.1 231 86 := (gu_27 86 rfl).trans ((uF_ne (fun h => absurd h.2 (by decide))).trans ((fu_15 231 rfl).1 86))
              have q_35 : (-2147483648) ≤ u_27.1 231 6 ∧ u_27.1 231 6 ≤ 2147483647 := iu_27.fi 6
              refine sBv (sV (As := []) (rest := []) (k := 231) Cx (r_X12_sayLetters l G u_27 (T := (tkn ((ptsT (fun b => nv (S.2.1 ka) (po + 8 * b) / (gcP (fun b => nv (S.2.1 ka) (po + 8 * b)) (nv (S.2.1 kb) qo) (S.1 231 46).toNat)) T (j - 1).toNat)) (strB.getD 28 []))) (L := ((([])) ++ nmT (nv ((uF u_15 231 6 0).2.1 237) 0))) iu_27 (by omega) (by omega) xu_27.2.2 (LSr.of xu_9.2.2 ((gu_27 86 rfl).trans ((uF_ne (fun h => absurd h.2 (by decide))).trans ((fu_15 231 rfl).1 86))) (funext fun x => ((fu_27 276 rfl).2.1 x).trans ((uF_a).trans ((fu_15 276 rfl).2.1 x))))) (c_X12_661 Cx rfl rfl (rmk_ok (by omega) (by decide))) hW (by decide) rfl rfl rfl hl.1 rfl (Nat.le_of_ble_eq_true rfl) dX12_sayPoint_166 ⟨Nat.le_of_ble_eq_true rfl, Nat.le_of_ble_eq_true rfl⟩) hL (fun u_36 H locs k_37 hW hL => ?_)
              obtain ⟨iu_36, fu_36, gu_36, xu_36⟩ := k_37
              have F_38 := F_29.trans (fu_36.to (pl_sub (by decide)))
              have F_39 := F_30.trans (fu_36.to (pl_sub (by decide)))
              have g_40 : FF S u_36 (fl [6, 86]) := FF.trans g_31 (FF.to gu_36 (fl_sub (by decide)))
              have g_41 : FF S14 u_36 (fl [6, 86]) := FF.trans g_32 (FF.to gu_36 (fl_sub (by decide)))
              have q_42 : (-2147483648) ≤ u_36.1 231 86 ∧ u_36.1 231 86 ≤ 2147483647 := iu_36.fi 86
              exact sVret Cx hr hlk hW hL ⟨iu_36, F_38, g_40, ⟨by omega, by omega, (LSr.eq xu_36.2 (by rw [List.nil_append, show (uF u_15 231 6 0).2.1 237 = u_15.2.1 237 from (funext fun j => uF_a), (show nv (u_15.2.1 237) 0 = nv (S.2.1 kb) qo / (gcP (fun b => nv (S.2.1 ka) (po + 8 * b)) (nv (S.2.1 kb) qo) (S.1 231 46).toNat) by have e := xu_15.2.2.1.1; have h1 := xu_15.2.2.1.2.2; rw [show u_9.2.1 kb = S.2.1 kb from (funext fun j => ((fu_9 kb (pl_c (neD nkb231) (pl_c (neD nkb276) rfl))).2.1 j).trans (((hL62_ kb (pl_c (neD nkb231) (pl_c (neD nkb233) (pl_c (neD nkb234) (pl_c (neD nkb235) (pl_c (neD nkb236) (pl_c (neD nkb237) (pl_c (neD nkb240) (pl_c (neD nkb276) rfl))))))))).2.1 j).trans (((hL14_ kb (pl_c (neD nkb233) (pl_c (neD nkb234) (pl_c (neD nkb235) (pl_c (neD nkb239) (pl_c (neD nkb240) (pl_c (neD nkb241) (pl_c (neD nkb242) (pl_c (neD nkb280) rfl))))))))).2.1 j).trans ((fu_1 kb (p1_no (neD nkb280))).2.1 j)))), show u_9.2.1 280 = S14.2.1 280 from (funext fun j => ((fu_9 280 rfl).2.1 j).trans ((hL62_ 280 rfl).2.1 j)), hG9] at e; rw [show u_9.2.1 280 = S14.2.1 280 from (funext fun j => ((fu_9 280 rfl).2.1 j).trans ((hL62_ 280 rfl).2.1 j)), hG9] at h1; exact (dv_q e xu_15.2.2.1.2.1 h1).1), show j - 1 = S.1 231 46 by omega]; unfold ptS; exact tkn_ne (tkn_nn (by decide))))⟩⟩ dX12_sayPoint_169
            · refine lv_aload_n hx hb dX12_sayPoint_71 rfl (lv_at hl 1 rfl) ?_
              refine lv_aload_n hx hb dX12_sayPoint_72 rfl (lv_at hl 2 rfl) ?_
              refine lv_iload_n hx hb dX12_sayPoint_73 rfl (lv_at hl 3 rfl) ?_
              refine lv_bipush (v := iv 8) hx hb dX12_sayPoint_74 (by decide) ?_
              refine lv_iload hx hb dX12_sayPoint_76 (lv_at hl 0 rfl) ?_
              refine r_imul hx hb dX12_sayPoint_78 ?_
              refine r_iadd hx hb dX12_sayPoint_79 ?_
              refine lv_aload_n hx hb dX12_sayPoint_80 rfl (lv_at hl 1 rfl) ?_
              refine g_X12_160 Cx hW (k := 231) (by decide) rfl (v := .ref (G.2.2.1 + 280)) (rd_90 hI62) dX12_sayPoint_81 ?_
              refine lv_iconst (v := iv 0) hx hb dX12_sayPoint_84 (by decide) ?_
              refine lv_aload_n hx hb dX12_sayPoint_85 rfl (lv_at hl 1 rfl) ?_
              refine g_X12_26 Cx hW (k := 231) (by decide) rfl (v := .ref (G.2.2.1 + 237)) (rd_7 hI62) dX12_sayPoint_86 ?_
              refine lv_iconst (v := iv 0) hx hb dX12_sayPoint_89 (by decide) ?_
              refine lv_aload_n hx hb dX12_sayPoint_90 rfl (lv_at hl 1 rfl) ?_
              refine g_X12_35 Cx hW (k := 231) (by decide) rfl (v := .ref (G.2.2.1 + 240)) (rd_10 hI62) dX12_sayPoint_91 ?_
              refine lv_iconst (v := iv 0) hx hb dX12_sayPoint_94 (by decide) ?_
              have hbp95 : 0 < S62.2.1 280 0 := by rw [show S62.2.1 280 = S14.2.1 280 from (funext fun j => (hL62_ 280 rfl).2.1 j)]; exact hN14.sgn.2.1.mp hP14
              refine sBv (sV (As := [.ref (G.2.2.1 + ka), .int (iv (po + (8 * j))), .ref (G.2.2.1 + 280), .int (iv 0), .ref (G.2.2.1 + 237), .int (iv 0), .ref (G.2.2.1 + 240), .int (iv 0)]) (rest := []) (k := 231) Cx (s_X12_divide l G S62 (ka := ka) (po := po + (8 * j)) (kb := 280) (qo := 0) (kc := 237) (ro := 0) (kd := 240) (eo := 0) (Nka := Nka) (Nkb := 68) (Nkc := 68) (Nkd := 68) (La := 6) (Lb := 6) (Ld := 7) hI62 hika ⟨rfl, by decide, by decide, by decide, rfl⟩ ⟨rfl, by decide, by decide, by decide, rfl⟩ ⟨rfl, by decide, by decide, by decide, rfl⟩ (neS nka237) (neS nka240) (show (237 : Nat) ≠ 280 by decide) (show (240 : Nat) ≠ 280 by decide) (show (237 : Nat) ≠ 240 by decide) (neD nka233) (show (280 : Nat) ≠ 233 by decide) (show (280 : Nat) ≠ 234 by decide) (show (280 : Nat) ≠ 235 by decide) (show (237 : Nat) ≠ 233 by decide) (show (237 : Nat) ≠ 234 by decide) (show (237 : Nat) ≠ 235 by decide) (show (240 : Nat) ≠ 233 by decide) (show (240 : Nat) ≠ 234 by decide) (show (240 : Nat) ≠ 235 by decide) (by omega) (by omega) (by rw [show S62.2.1 ka = S.2.1 ka from (funext fun j => ((hL62_ ka (pl_c (neD nka231) (pl_c (neD nka233) (pl_c (neD nka234) (pl_c (neD nka235) (pl_c (neD nka236) (pl_c (neD nka237) (pl_c (neD nka240) (pl_c (neD nka276) rfl))))))))).2.1 j).trans (((hL14_ ka (pl_c (neD nka233) (pl_c (neD nka234) (pl_c (neD nka235) (pl_c (neD nka239) (pl_c (neD nka240) (pl_c (neD nka241) (pl_c (neD nka242) (pl_c (neD nka280) rfl))))))))).2.1 j).trans ((fu_1 ka (p1_no (neD nka280))).2.1 j)))]; exact hA j (by omega) (by omega)) (by rw [show S62.2.1 280 = S14.2.1 280 from (funext fun j => (hL62_ 280 rfl).2.1 j)]; exact hN14)) (c_X12_266 Cx rfl rfl (rmk_ok (by omega) (by decide))) hW (by decide) rfl rfl rfl hl.1 rfl (Nat.le_of_ble_eq_true rfl) dX12_sayPoint_95 ⟨Nat.le_of_ble_eq_true rfl, Nat.le_of_ble_eq_true rfl⟩) hL (fun u_43 H locs k_44 hW hL => ?_)
              obtain ⟨iu_43, fu_43, xu_43⟩ := k_44
              have F_45 := hFm62.trans (fu_43.to (pl_sub (by decide)))
              have F_46 := hL62_.trans (fu_43.to (pl_sub (by decide)))
              have g_47 : FF S u_43 (fl [6, 86]) := FF.fr hGm62 fu_43 rfl
              have g_48 : FF S14 u_43 (fl [6, 86]) := FF.fr gL62_ fu_43 rfl
              refine lv_aload_n hx hb dX12_sayPoint_98 rfl (lv_at hl 1 rfl) ?_
              refine lv_iconst (v := iv 0) hx hb dX12_sayPoint_99 (by decide) ?_
              refine p_X12_259 Cx hW hL (k := 231) (by decide) rfl dX12_sayPoint_100 (fun H locs hW hL => ?_)
              have F_49 : Fr S (uF u_43 231 6 0) (pl [231, 233, 234, 235, 236, 237, 239, 240, 241, 242, 276, 280]) := F_45.F rfl
              have F_50 : Fr S14 (uF u_43 231 6 0) (pl [231, 233, 234, 235, 236, 237, 240, 276]) := F_46.F rfl
              have g_51 : FF S (uF u_43 231 6 0) (fl [6, 86]) := FF.F g_47 rfl
              have g_52 : FF S14 (uF u_43 231 6 0) (fl [6, 86]) := FF.F g_48 rfl
              have i_53 : dX G (uF u_43 231 6 0) := iu_43.F (i := 6) (show (-2147483648) ≤ 0 ∧ 0 ≤ 2147483647 from ⟨by omega, by omega⟩)
              refine lv_aload_n hx hb dX12_sayPoint_103 rfl (lv_at hl 1 rfl) ?_
              refine lv_aload_n hx hb dX12_sayPoint_104 rfl (lv_at hl 1 rfl) ?_
              refine g_X12_26 Cx hW (k := 231) (by decide) rfl (v := .ref (G.2.2.1 + 237)) (rd_7 i_53) dX12_sayPoint_105 ?_
              refine lv_iconst (v := iv 0) hx hb dX12_sayPoint_108 (by decide) ?_
              have lk_54 : (uF u_43 231 6 0).1 231 6 = 0 := uF_on
              refine sBv (sV (As := [.ref (G.2.2.1 + 237), .int (iv 0)]) (rest := []) (k := 231) Cx (r_X12_spell l G (uF u_43 231 6 0) (ka := 237) (po := 0) (Nka := 68) (La := 7) (L := ([])) i_53 ⟨rfl, by decide, by decide, by decide, rfl⟩ (by omega) (by omega) (by rw [show (uF u_43 231 6 0).2.1 237 = u_43.2.1 237 from (funext fun j => uF_a)]; exact xu_43.1) (show (237 : Nat) ≠ 231 by decide) (show (237 : Nat) ≠ 236 by decide) (LSr.nil uF_on)) (c_X12_594 Cx rfl rfl (rmk_ok (by omega) (by decide))) hW (by decide) rfl rfl rfl hl.1 rfl (Nat.le_of_ble_eq_true rfl) dX12_sayPoint_109 ⟨Nat.le_of_ble_eq_true rfl, Nat.le_of_ble_eq_true rfl⟩) hL (fun u_55 H locs k_56 hW hL => ?_)
              obtain ⟨iu_55, fu_55, gu_55, xu_55⟩ := k_56
              have F_57 := F_49.trans (fu_55.to (pl_sub (by decide)))
              have F_58 := F_50.trans (fu_55.to (pl_sub (by decide)))
              have g_59 : FF S u_55 (fl [6, 86]) := FF.trans g_51 (FF.to gu_55 (fl_sub (by decide)))
              have g_60 : FF S14 u_55 (fl [6, 86]) := FF.trans g_52 (FF.to gu_55 (fl_sub (by decide)))
              refine lv_aload_n hx hb dX12_sayPoint_112 rfl (lv_at hl 1 rfl) ?_
              have q_61 : (-2147483648) ≤ S62.1 231 86 ∧ S62.1 231 86 ≤ 2147483647 := hI62.fi 86
              have lk_62 : u_55.1 231 86 = S62.1 231 86 := (gu_55 86 rfl).trans ((uF_ne (fun h => absurd h.2 (by decide))).trans ((fu_43 231 rfl).1 86))
              have q_63 : (-2147483648) ≤ u_55.1 231 6 ∧ u_55.1 231 6 ≤ 2147483647 := iu_55.fi 6
              refine sBv (sV (As := []) (rest := []) (k := 231) Cx (r_X12_sayLetters l G u_55 (T := (ptsT (fun b => nv (S.2.1 ka) (po + 8 * b) / (gcP (fun b => nv (S.2.1 ka) (po + 8 * b)) (nv (S.2.1 kb) qo) (S.1 231 46).toNat)) T (j - 1).toNat)) (L := ((([])) ++ nmT (nv ((uF u_43 231 6 0).2.1 237) 0))) iu_55 (by omega) (by omega) xu_55.2.2 (LSr.of l62 ((gu_55 86 rfl).trans ((uF_ne (fun h => absurd h.2 (by decide))).trans ((fu_43 231 rfl).1 86))) (funext fun x => ((fu_55 276 rfl).2.1 x).trans ((uF_a).trans ((fu_43 276 rfl).2.1 x))))) (c_X12_661 Cx rfl rfl (rmk_ok (by omega) (by decide))) hW (by decide) rfl rfl rfl hl.1 rfl (Nat.le_of_ble_eq_true rfl) dX12_sayPoint_113 ⟨Nat.le_of_ble_eq_true rfl, Nat.le_of_ble_eq_true rfl⟩) hL (fun u_64 H locs k_65 hW hL => ?_)
              obtain ⟨iu_64, fu_64, gu_64, xu_64⟩ := k_65
              have F_66 := F_57.trans (fu_64.to (pl_sub (by decide)))
              have F_67 := F_58.trans (fu_64.to (pl_sub (by decide)))
              have g_68 : FF S u_64 (fl [6, 86]) := FF.trans g_59 (FF.to gu_64 (fl_sub (by decide)))
              have g_69 : FF S14 u_64 (fl [6, 86]) := FF.trans g_60 (FF.to gu_64 (fl_sub (by decide)))
              refine lv_iinc (v := iv (j + 1)) (lv' := [(5, .int (iv (j + 1))), (0, .ref (G.2.2.1 + 231)), (1, .ref (G.2.2.1 + ka)), (2, .int (iv po)), (3, .ref (G.2.2.1 + kb)), (4, .int (iv qo))]) hx hb dX12_sayPoint_116 hl (k := 0) rfl ((Int32.ofInt_add _ _).symm) (by decide) rfl (fun ls hl => ?_)
              refine lv_goto (tgt := 62) hx hb dX12_sayPoint_119 (by decide) ?_
              have q_70 : (-2147483648) ≤ u_64.1 231 86 ∧ u_64.1 231 86 ≤ 2147483647 := iu_64.fi 86
              exact ih_62 u_64 (j + 1) _ _ _ (by omega) iu_64 F_66 F_67 g_68 g_69 (by omega) (by omega) (LSr.eq xu_64.2 (by rw [List.nil_append, show (uF u_43 231 6 0).2.1 237 = u_43.2.1 237 from (funext fun j => uF_a), (show nv (u_43.2.1 237) 0 = nv (S.2.1 ka) (po + 8 * j) / (gcP (fun b => nv (S.2.1 ka) (po + 8 * b)) (nv (S.2.1 kb) qo) (S.1 231 46).toNat) by have e := xu_43.2.2.1.1; have h1 := xu_43.2.2.1.2.2; rw [show S62.2.1 ka = S.2.1 ka from (funext fun j => ((hL62_ ka (pl_c (neD nka231) (pl_c (neD nka233) (pl_c (neD nka234) (pl_c (neD nka235) (pl_c (neD nka236) (pl_c (neD nka237) (pl_c (neD nka240) (pl_c (neD nka276) rfl))))))))).2.1 j).trans (((hL14_ ka (pl_c (neD nka233) (pl_c (neD nka234) (pl_c (neD nka235) (pl_c (neD nka239) (pl_c (neD nka240) (pl_c (neD nka241) (pl_c (neD nka242) (pl_c (neD nka280) rfl))))))))).2.1 j).trans ((fu_1 ka (p1_no (neD nka280))).2.1 j))), show S62.2.1 280 = S14.2.1 280 from (funext fun j => (hL62_ 280 rfl).2.1 j), hG9] at e; rw [show S62.2.1 280 = S14.2.1 280 from (funext fun j => (hL62_ 280 rfl).2.1 j), hG9] at h1; exact (dv_q e xu_43.2.2.1.2.1 h1).1), ptsT_s (by omega)]; exact tkn_ne (ptsT_nn hTn _))) hW hL (lv_sub hl [0, 1, 2, 3, 4, 5] rfl)
        have q_71 : (-2147483648) ≤ S.1 231 86 ∧ S.1 231 86 ≤ 2147483647 := hI.fi 86
        have lk_72 : S14.1 231 86 = S.1 231 86 := (gL14_ 86 rfl).trans ((fu_1 231 rfl).1 86)
        exact loop_62 (_ + 1) S14 1 _ _ _ (Nat.lt_succ_self _) hI14 hFm14 Fr.rf hGm14 FF.rf (by omega) (by omega) (LSr.eq (LSr.of hpL ((gL14_ 86 rfl).trans ((fu_1 231 rfl).1 86)) (funext fun x => ((hL14_ 276 rfl).2.1 x).trans ((fu_1 276 rfl).2.1 x))) (show T = ptsT _ T ((1 : Int) - 1).toNat from rfl)) hW hL (lv_sub hl [0, 1, 2, 3, 4, 5] rfl)
      · refine lv_aload_n hx hb dX12_sayPoint_23 rfl (lv_at hl 1 rfl) ?_
        refine lv_aload_n hx hb dX12_sayPoint_24 rfl (lv_at hl 1 rfl) ?_
        refine g_X12_160 Cx hW (k := 231) (by decide) rfl (v := .ref (G.2.2.1 + 280)) (rd_90 hI14) dX12_sayPoint_25 ?_
        refine lv_iconst (v := iv 0) hx hb dX12_sayPoint_28 (by decide) ?_
        refine lv_aload_n hx hb dX12_sayPoint_29 rfl (lv_at hl 2 rfl) ?_
        refine lv_iload_n hx hb dX12_sayPoint_30 rfl (lv_at hl 3 rfl) ?_
        refine lv_bipush (v := iv 8) hx hb dX12_sayPoint_31 (by decide) ?_
        refine lv_iload hx hb dX12_sayPoint_33 (lv_at hl 0 rfl) ?_
        refine r_imul hx hb dX12_sayPoint_35 ?_
        refine r_iadd hx hb dX12_sayPoint_36 ?_
        refine sBv (sV (As := [.ref (G.2.2.1 + 280), .int (iv 0), .ref (G.2.2.1 + ka), .int (iv (po + (8 * j)))]) (rest := []) (k := 231) Cx (r_X12_common l G S14 (ka := 280) (po := 0) (kb := ka) (qo := po + (8 * j)) (Nka := 68) (Nkb := Nka) (La := 6) (Lb := 6) (Lx := 6) hI14 ⟨rfl, by decide, by decide, by decide, rfl⟩ hika (show (280 : Nat) ≠ 241 by decide) (neD nka241) (neD nka242) (by omega) hN14 (by rw [show S14.2.1 ka = S.2.1 ka from (funext fun j => ((hL14_ ka (pl_c (neD nka233) (pl_c (neD nka234) (pl_c (neD nka235) (pl_c (neD nka239) (pl_c (neD nka240) (pl_c (neD nka241) (pl_c (neD nka242) (pl_c (neD nka280) rfl))))))))).2.1 j).trans ((fu_1 ka (p1_no (neD nka280))).2.1 j))]; exact hA j (by omega) (by omega)) (.inl hP14)) (c_X12_658 Cx rfl rfl (rmk_ok (by omega) (by decide))) hW (by decide) rfl rfl rfl hl.1 rfl (Nat.le_of_ble_eq_true rfl) dX12_sayPoint_37 ⟨Nat.le_of_ble_eq_true rfl, Nat.le_of_ble_eq_true rfl⟩) hL (fun u_73 H locs k_74 hW hL => ?_)
        obtain ⟨iu_73, fu_73, gu_73, xu_73⟩ := k_74
        have F_75 := hFm14.trans (fu_73.to (pl_sub (by decide)))
        have F_76 := hL14_.trans (fu_73.to (pl_sub (by decide)))
        have g_77 : FF S u_73 (fl [6, 86]) := FF.trans hGm14 (FF.to gu_73 (fl_sub (by decide)))
        have g_78 : FF u_1 u_73 (fl []) := FF.trans gL14_ (FF.to gu_73 (fl_sub (by decide)))
        refine lv_aload_n hx hb dX12_sayPoint_40 rfl (lv_at hl 1 rfl) ?_
        refine g_X12_38 Cx hW (k := 231) (by decide) rfl (v := .ref (G.2.2.1 + 241)) (rd_11 iu_73) dX12_sayPoint_41 ?_
        refine lv_iconst (v := iv 0) hx hb dX12_sayPoint_44 (by decide) ?_
        refine lv_aload_n hx hb dX12_sayPoint_45 rfl (lv_at hl 1 rfl) ?_
        refine g_X12_160 Cx hW (k := 231) (by decide) rfl (v := .ref (G.2.2.1 + 280)) (rd_90 iu_73) dX12_sayPoint_46 ?_
        refine lv_iconst (v := iv 0) hx hb dX12_sayPoint_49 (by decide) ?_
        refine sBv (sSt (As := [.ref (G.2.2.1 + 241), .int (iv 0), .ref (G.2.2.1 + 280), .int (iv 0)]) (rest := []) Cx (s_X12_copy l G u_73 (ka := 241) (po := 0) (kb := 280) (qo := 0) (Nka := 68) (Nkb := 68) (La := 6) iu_73 ⟨rfl, by decide, by decide, by decide, rfl⟩ ⟨rfl, by decide, by decide, by decide, rfl⟩ (show (280 : Nat) ≠ 241 by decide) (by omega) xu_73.1) (c_X12_233 Cx rfl rfl (rmk_ok (by omega) (by decide))) hW rfl hl.1 rfl (Nat.le_of_ble_eq_true rfl) dX12_sayPoint_50 ⟨Nat.le_of_ble_eq_true rfl, Nat.le_of_ble_eq_true rfl⟩) hL (fun u_79 H locs k_80 hW hL => ?_)
        obtain ⟨iu_79, fu_79, xu_79⟩ := k_80
        have F_81 := F_75.trans (fu_79.to (p1_sub rfl))
        have F_82 := F_76.trans (fu_79.to (p1_sub rfl))
        have g_83 : FF S u_79 (fl [6, 86]) := FF.fr g_77 fu_79 rfl
        have g_84 : FF u_1 u_79 (fl []) := FF.fr g_78 fu_79 rfl
        refine lv_iinc (v := iv (j + 1)) (lv' := [(5, .int (iv (j + 1))), (0, .ref (G.2.2.1 + 231)), (1, .ref (G.2.2.1 + ka)), (2, .int (iv po)), (3, .ref (G.2.2.1 + kb)), (4, .int (iv qo))]) hx hb dX12_sayPoint_53 hl (k := 0) rfl ((Int32.ofInt_add _ _).symm) (by decide) rfl (fun ls hl => ?_)
        refine lv_goto (tgt := 14) hx hb dX12_sayPoint_56 (by decide) ?_
        exact ih_14 u_79 (j + 1) _ _ _ (by omega) iu_79 F_81 F_82 g_83 g_84 (by omega) xu_79.1.1 (by rw [xu_79.1.2.1]; exact xu_73.2.1) (by rw [xu_79.1.2.1, show u_73.2.1 241 = u_73.2.1 241 from (funext fun j => rfl), show nv (u_73.2.1 241) 0 = _ from xu_73.2.2, absI_p (Int.le_of_lt hP14), show nv (S14.2.1 280) 0 = _ from hgc, show S14.2.1 ka = S.2.1 ka from (funext fun j => ((hL14_ ka (pl_c (neD nka233) (pl_c (neD nka234) (pl_c (neD nka235) (pl_c (neD nka239) (pl_c (neD nka240) (pl_c (neD nka241) (pl_c (neD nka242) (pl_c (neD nka280) rfl))))))))).2.1 j).trans ((fu_1 ka (p1_no (neD nka280))).2.1 j))]; exact (gcP_s (pt := (fun b => nv (S.2.1 ka) (po + 8 * b))) (by omega)).symm) hW hL (lv_sub hl [0, 1, 2, 3, 4, 5] rfl)
  exact loop_14 (_ + 1) u_1 1 _ _ _ (Nat.lt_succ_self _) iu_1 F_3 Fr.rf g_4 FF.rf (by omega) xu_1.1.1 (by rw [xu_1.1.2.1]; exact hps) (by show _ = gcP _ _ ((1 : Int) - 1).toNat; rw [xu_1.1.2.1]; rfl) hW hL (lv_sub hl [0, 1, 2, 3, 4, 5] rfl)

set_option maxRecDepth 100000 in
set_option maxHeartbeats 4000000 in
theorem r_X12_finish (l : Launch) (G : sG) (S : sS) {n mx bv bd : Int} {pt : Int → Int} {T : List Int} (hI : dX G S) (hM : MD S) (hBB : BB S) (htr : Hd (LSr S 84 275 T)) (hnx : S.1 231 46 = n ∧ S.1 231 49 = mx) (hbp : Hd (S.1 231 79 = 1 → nv (S.2.1 272) 0 = bv ∧ nv (S.2.1 273) 0 = bd ∧ ∀ b, 1 ≤ b → b ≤ n → nv (S.2.1 274) (8 * b) = pt b)) (h84 : 0 ≤ S.1 231 84 ∧ S.1 231 84 ≤ 30000) : Met l yX12_finish (.code yX12_finish cX12_finish 2 none :: tb) (rmk 8 0 0) (sPc G 294 S [.ref (G.2.2.1 + 231)]) (sQv G 294 (fun u => dX G u ∧ Fr S u (pl [231, 233, 234, 235, 236, 237, 238, 239, 240, 241, 242, 276, 280]) ∧ FF S u (fl [6, 61, 86]) ∧ (((2 ≤ u.1 231 61 ∧ u.1 231 61 ≤ 6) ∧ 0 ≤ u.1 231 86 ∧ u.1 231 86 ≤ 36000) ∧ Hd (FNr u (if S.1 231 79 = 1 then 2 else 3) ((hdF (S.1 231 79) n mx bv bd pt) ++ [32] ++ T))))) 0 0 (sF G) := by
  refine sEnter (by decide) (Nat.le_of_ble_eq_true rfl) ?_
  intro p e s m args below meth c Cx hr hlk hnm hW ls hl
  have Cx : sC G p m c cX12_finish 2 s args RX12 := Cx
  obtain ⟨hx, hb, hml, hown, hts⟩ := id Cx.1
  have hL : sL G [] := sL_nil
  have hl : lv_has ls 2 [(0, .ref (G.2.2.1 + 231))] := hl
  have hW0 := hW
  have hm1 : (0 ≤ S.1 231 46 ∧ S.1 231 46 ≤ 12) ∧ (0 ≤ S.1 231 47 ∧ S.1 231 47 ≤ 16) ∧ 0 ≤ S.1 231 63 ∧ S.1 231 63 ≤ 40 := hM
  have htl := htr.1
  refine lv_aload_n hx hb dX12_finish_0 rfl (lv_at hl 0 rfl) ?_
  refine lv_iconst (v := iv 0) hx hb dX12_finish_1 (by decide) ?_
  refine p_X12_523 Cx hW hL (k := 231) (by decide) rfl dX12_finish_2 (fun H locs hW hL => ?_)
  have F_1 : Fr S (uF S 231 86 0) (pl [231, 233, 234, 235, 236, 237, 238, 239, 240, 241, 242, 276, 280]) := (Fr.rf : Fr S S (pl [231, 233, 234, 235, 236, 237, 238, 239, 240, 241, 242, 276, 280])).F rfl
  have g_2 : FF S (uF S 231 86 0) (fl [6, 61, 86]) := FF.F FF.rf rfl
  have i_3 : dX G (uF S 231 86 0) := hI.F (i := 86) (show (-2147483648) ≤ 0 ∧ 0 ≤ 2147483647 from ⟨by omega, by omega⟩)
  have join_122 : ∀ (S122 : sS)  (H : Heap) (locs : List Loc) (ls : Array Slot), (dX G S122) → (Fr S S122 (pl [231, 233, 234, 235, 236, 237, 238, 239, 240, 241, 242, 276, 280])) → (Fr ((uF S 231 86 0)) S122 (pl [231, 233, 234, 235, 236, 237, 238, 239, 240, 241, 242, 276, 280])) → (FF S S122 (fl [6, 61, 86])) → (FF ((uF S 231 86 0)) S122 (fl [6, 86])) → (0 ≤ S122.1 231 86 ∧ S122.1 231 86 ≤ 3000) → (Hd (LSr S122 86 276 (hdF (S.1 231 79) n mx bv bd pt))) → sW G 294 S122 H → sL G locs → lv_has ls 2 [(0, .ref (G.2.2.1 + 231))] → W p l e (rmk 8 0 0) s m args below meth c H locs 0 0 (MQ below (sQv G 294 (fun u => dX G u ∧ Fr S u (pl [231, 233, 234, 235, 236, 237, 238, 239, 240, 241, 242, 276, 280]) ∧ FF S u (fl [6, 61, 86]) ∧ (((2 ≤ u.1 231 61 ∧ u.1 231 61 ≤ 6) ∧ 0 ≤ u.1 231 86 ∧ u.1 231 86 ≤ 36000) ∧ Hd (FNr u (if S.1 231 79 = 1 then 2 else 3) ((hdF (S.1 231 79) n mx bv bd pt) ++ [32] ++ T))))) args s 0 0 (sF G)) (F0 m 122 ls []) := by
    intro S122  H locs ls hI122 hFm122 hL122_ hGm122 gL122_ h122 l122 hW hL hl
    refine lv_aload_n hx hb dX12_finish_122 rfl (lv_at hl 0 rfl) ?_
    have q_4 : (-2147483648) ≤ S122.1 231 86 ∧ S122.1 231 86 ≤ 2147483647 := hI122.fi 86
    refine g_X12_523 Cx hW (k := 231) (by decide) rfl (v := S122.1 231 86) rfl dX12_finish_123 ?_
    refine lv_iconst (v := iv 1) hx hb dX12_finish_126 (by decide) ?_
    refine r_iadd hx hb dX12_finish_127 ?_
    refine lv_aload_n hx hb dX12_finish_128 rfl (lv_at hl 0 rfl) ?_
    have q_5 : (-2147483648) ≤ S.1 231 84 ∧ S.1 231 84 ≤ 2147483647 := hI.fi 84
    refine g_X12_520 Cx hW (k := 231) (by decide) rfl (v := S.1 231 84) ((gL122_ 84 rfl).trans (uF_ne (fun h => absurd h.2 (by decide)))) dX12_finish_129 ?_
    refine r_iadd hx hb dX12_finish_132 ?_
    refine lv_sipush (v := iv 30000) hx hb dX12_finish_133 (by decide) ?_
    refine r_icmp_le (tgt := 151) hx hb ⟨(by omega), (by omega)⟩ ⟨(by omega), (by omega)⟩ dX12_finish_136 (by decide) (fun c_6 => ?_) (fun c_6 => ?_)
    · refine lv_aload_n hx hb dX12_finish_151 rfl (lv_at hl 0 rfl) ?_
      refine g_X12_148 Cx hW (k := 231) (by decide) rfl (v := .ref (G.2.2.1 + 276)) (rd_85 hI122) dX12_finish_152 ?_
      refine lv_aload_n hx hb dX12_finish_155 rfl (lv_at hl 0 rfl) ?_
      refine g_X12_523 Cx hW (k := 231) (by decide) rfl (v := S122.1 231 86) rfl dX12_finish_156 ?_
      refine lv_bipush (v := iv 32) hx hb dX12_finish_159 (by decide) ?_
      refine rBast Cx hW hL (k := 276) (by decide) rfl (by decide) (by omega) (by omega) (nar_b (by omega) (by omega)) dX12_finish_161 (fun H locs hW hL => ?_)
      have F_7 : Fr S (uA S122 276 (S122.1 231 86) 32) (pl [231, 233, 234, 235, 236, 237, 238, 239, 240, 241, 242, 276, 280]) := hFm122.A rfl
      have F_8 : Fr ((uF S 231 86 0)) (uA S122 276 (S122.1 231 86) 32) (pl [231, 233, 234, 235, 236, 237, 238, 239, 240, 241, 242, 276, 280]) := hL122_.A rfl
      have i_9 : dX G (uA S122 276 (S122.1 231 86) 32) := hI122.A (k := 276) (show (-128) ≤ 32 ∧ 32 ≤ 127 from ⟨by omega, by omega⟩)
      refine lv_aload_n hx hb dX12_finish_162 rfl (lv_at hl 0 rfl) ?_
      refine lv_dup hx hb dX12_finish_163 rfl ?_
      refine g_X12_523 Cx hW (k := 231) (by decide) rfl (v := S122.1 231 86) uA_f dX12_finish_164 ?_
      refine lv_iconst (v := iv 1) hx hb dX12_finish_167 (by decide) ?_
      refine r_iadd hx hb dX12_finish_168 ?_
      refine p_X12_523 Cx hW hL (k := 231) (by decide) rfl dX12_finish_169 (fun H locs hW hL => ?_)
      have F_10 : Fr S (uF (uA S122 276 (S122.1 231 86) 32) 231 86 ((S122.1 231 86) + 1)) (pl [231, 233, 234, 235, 236, 237, 238, 239, 240, 241, 242, 276, 280]) := F_7.F rfl
      have F_11 : Fr ((uF S 231 86 0)) (uF (uA S122 276 (S122.1 231 86) 32) 231 86 ((S122.1 231 86) + 1)) (pl [231, 233, 234, 235, 236, 237, 238, 239, 240, 241, 242, 276, 280]) := F_8.F rfl
      have g_12 : FF S (uF (uA S122 276 (S122.1 231 86) 32) 231 86 ((S122.1 231 86) + 1)) (fl [6, 61, 86]) := FF.F hGm122 rfl
      have g_13 : FF ((uF S 231 86 0)) (uF (uA S122 276 (S122.1 231 86) 32) 231 86 ((S122.1 231 86) + 1)) (fl [6, 86]) := FF.F gL122_ rfl
      have i_14 : dX G (uF (uA S122 276 (S122.1 231 86) 32) 231 86 ((S122.1 231 86) + 1)) := i_9.F (i := 86) (show (-2147483648) ≤ (S122.1 231 86) + 1 ∧ (S122.1 231 86) + 1 ≤ 2147483647 from ⟨by omega, by omega⟩)
      refine lv_iconst (v := iv 0) hx hb dX12_finish_172 (by decide) ?_
      refine lv_istore_n (lv' := [(1, .int (iv 0)), (0, .ref (G.2.2.1 + 231))]) hx hb dX12_finish_173 rfl hl (by decide) rfl (fun ls hl => ?_)
      have loop_174 : ∀ (fuel : Nat) (S174 : sS) (k : Int) (H : Heap) (locs : List Loc) (ls : Array Slot), (S.1 231 84 - k).toNat < fuel → (dX G S174) → (Fr S S174 (pl [231, 233, 234, 235, 236, 237, 238, 239, 240, 241, 242, 276, 280])) → (Fr ((uF (uA S122 276 (S122.1 231 86) 32) 231 86 ((S122.1 231 86) + 1))) S174 (pl [276])) → (FF S S174 (fl [6, 61, 86])) → (FF ((uF (uA S122 276 (S122.1 231 86) 32) 231 86 ((S122.1 231 86) + 1))) S174 (fl [])) → (0 ≤ k ∧ k ≤ S.1 231 84) → (Hd (LSr S174 86 276 ((hdF (S.1 231 79) n mx bv bd pt) ++ [32]))) → (Hd (∀ q : Nat, (q : Int) < k → S174.2.1 276 (S174.1 231 86 + (q : Int)) = T.getD q 0)) → sW G 294 S174 H → sL G locs → lv_has ls 2 [(1, .int (iv k)), (0, .ref (G.2.2.1 + 231))] → W p l e (rmk 8 0 0) s m args below meth c H locs 0 0 (MQ below (sQv G 294 (fun u => dX G u ∧ Fr S u (pl [231, 233, 234, 235, 236, 237, 238, 239, 240, 241, 242, 276, 280]) ∧ FF S u (fl [6, 61, 86]) ∧ (((2 ≤ u.1 231 61 ∧ u.1 231 61 ≤ 6) ∧ 0 ≤ u.1 231 86 ∧ u.1 231 86 ≤ 36000) ∧ Hd (FNr u (if S.1 231 79 = 1 then 2 else 3) ((hdF (S.1 231 79) n mx bv bd pt) ++ [32] ++ T))))) args s 0 0 (sF G)) (F0 m 174 ls []) := by
        intro fuel
        induction fuel with
        | zero => intro S174 k H locs ls hmeas hI174 hFm174 hL174_ hGm174 gL174_ hk lh lc hW hL hl; exact absurd hmeas (Nat.not_lt_zero _)
        | succ fuel ih_174 =>
          intro S174 k H locs ls hmeas hI174 hFm174 hL174_ hGm174 gL174_ hk lh lc hW hL hl
          have e86 : S174.1 231 86 = (S122.1 231 86) + 1 := (gL174_ 86 rfl).trans (uF_on)
          refine lv_iload_n hx hb dX12_finish_174 rfl (lv_at hl 0 rfl) ?_
          refine lv_aload_n hx hb dX12_finish_175 rfl (lv_at hl 1 rfl) ?_
          refine g_X12_520 Cx hW (k := 231) (by decide) rfl (v := S.1 231 84) ((gL174_ 84 rfl).trans ((uF_ne (fun h => absurd h.2 (by decide))).trans ((uA_f).trans ((gL122_ 84 rfl).trans (uF_ne (fun h => absurd h.2 (by decide))))))) dX12_finish_176 ?_
          refine r_icmp_ge (tgt := 205) hx hb ⟨(by omega), (by omega)⟩ ⟨(by omega), (by omega)⟩ dX12_finish_179 (by decide) (fun c_15 => ?_) (fun c_15 => ?_)
          · refine lv_aload_n hx hb dX12_finish_205 rfl (lv_at hl 1 rfl) ?_
            refine lv_dup hx hb dX12_finish_206 rfl ?_
            refine g_X12_523 Cx hW (k := 231) (by decide) rfl (v := (S122.1 231 86) + 1) ((gL174_ 86 rfl).trans (uF_on)) dX12_finish_207 ?_
            refine lv_aload_n hx hb dX12_finish_210 rfl (lv_at hl 1 rfl) ?_
            refine g_X12_520 Cx hW (k := 231) (by decide) rfl (v := S.1 231 84) ((gL174_ 84 rfl).trans ((uF_ne (fun h => absurd h.2 (by decide))).trans ((uA_f).trans ((gL122_ 84 rfl).trans (uF_ne (fun h => absurd h.2 (by decide))))))) dX12_finish_211 ?_
            refine r_iadd hx hb dX12_finish_214 ?_
            refine p_X12_523 Cx hW hL (k := 231) (by decide) rfl dX12_finish_215 (fun H locs hW hL => ?_)
            have F_16 : Fr S (uF S174 231 86 (((S122.1 231 86) + 1) + (S.1 231 84))) (pl [231, 233, 234, 235, 236, 237, 238, 239, 240, 241, 242, 276, 280]) := hFm174.F rfl
            have g_17 : FF S (uF S174 231 86 (((S122.1 231 86) + 1) + (S.1 231 84))) (fl [6, 61, 86]) := FF.F hGm174 rfl
            have i_18 : dX G (uF S174 231 86 (((S122.1 231 86) + 1) + (S.1 231 84))) := hI174.F (i := 86) (show (-2147483648) ≤ ((S122.1 231 86) + 1) + (S.1 231 84) ∧ ((S122.1 231 86) + 1) + (S.1 231 84) ≤ 2147483647 from ⟨by omega, by omega⟩)
            refine lv_aload_n hx hb dX12_finish_218 rfl (lv_at hl 1 rfl) ?_
            have join_231 : ∀ (sv : Int) (H : Heap) (locs : List Loc) (ls : Array Slot), ((2 ≤ sv ∧ sv ≤ 3) ∧ (sv = 2 ↔ S.1 231 79 = 1)) → sW G 294 (uF S174 231 86 (((S122.1 231 86) + 1) + (S.1 231 84))) H → sL G locs → lv_has ls 2 [(1, .int (iv k)), (0, .ref (G.2.2.1 + 231))] → W p l e (rmk 8 0 0) s m args below meth c H locs 0 0 (MQ below (sQv G 294 (fun u => dX G u ∧ Fr S u (pl [231, 233, 234, 235, 236, 237, 238, 239, 240, 241, 242, 276, 280]) ∧ FF S u (fl [6, 61, 86]) ∧ (((2 ≤ u.1 231 61 ∧ u.1 231 61 ≤ 6) ∧ 0 ≤ u.1 231 86 ∧ u.1 231 86 ≤ 36000) ∧ Hd (FNr u (if S.1 231 79 = 1 then 2 else 3) ((hdF (S.1 231 79) n mx bv bd pt) ++ [32] ++ T))))) args s 0 0 (sF G)) (F0 m 231 ls [.int (iv sv), .ref (G.2.2.1 + 231)]) := by
              intro sv H locs ls hsv hW hL hl
              refine p_X12_477 Cx hW hL (k := 231) (by decide) rfl dX12_finish_231 (fun H locs hW hL => ?_)
              have F_19 : Fr S (uF (uF S174 231 86 (((S122.1 231 86) + 1) + (S.1 231 84))) 231 61 sv) (pl [231, 233, 234, 235, 236, 237, 238, 239, 240, 241, 242, 276, 280]) := F_16.F rfl
              have g_20 : FF S (uF (uF S174 231 86 (((S122.1 231 86) + 1) + (S.1 231 84))) 231 61 sv) (fl [6, 61, 86]) := FF.F g_17 rfl
              have i_21 : dX G (uF (uF S174 231 86 (((S122.1 231 86) + 1) + (S.1 231 84))) 231 61 sv) := i_18.F (i := 61) (show (-2147483648) ≤ sv ∧ sv ≤ 2147483647 from ⟨by omega, by omega⟩)
              have lk_22 : (uF (uF S174 231 86 (((S122.1 231 86) + 1) + (S.1 231 84))) 231 61 sv).1 231 61 = sv := uF_on
              have lk_23 : (uF (uF S174 231 86 (((S122.1 231 86) + 1) + (S.1 231 84))) 231 61 sv).1 231 86 = ((S122.1 231 86) + 1) + (S.1 231 84) := (uF_ne (fun h => absurd h.2 (by decide))).trans (uF_on)
              exact sVret Cx hr hlk hW hL ⟨i_21, F_19, g_20, ⟨⟨⟨by omega, by omega⟩, by omega, by omega⟩, (by have hpl : (((hdF (S.1 231 79) n mx bv bd pt) ++ [32] ++ T)).length = ((hdF (S.1 231 79) n mx bv bd pt)).length + 1 + T.length := (by rw [List.length_append, List.length_append]; rfl); have hq1 := l122.1; have e9 := lh.1; exact ⟨fun q => absurd q (by omega), fun _ => ⟨(show (uF (uF S174 231 86 (((S122.1 231 86) + 1) + (S.1 231 84))) 231 61 sv).1 231 61 = (if S.1 231 79 = 1 then 2 else 3) by by_cases z9 : S.1 231 79 = 1; (rw [if_pos z9]; omega); (rw [if_neg z9]; omega)), LSr.cat (S := S174) (u := (uF (uF S174 231 86 (((S122.1 231 86) + 1) + (S.1 231 84))) 231 61 sv)) lh (show (uF (uF S174 231 86 (((S122.1 231 86) + 1) + (S.1 231 84))) 231 61 sv).1 231 86 = S174.1 231 86 + (T.length : Int) by omega) (fun q _ => congrFun (show (uF (uF S174 231 86 (((S122.1 231 86) + 1) + (S.1 231 84))) 231 61 sv).2.1 276 = S174.2.1 276 from funext fun x => (uF_a).trans (uF_a)) _) (fun q hq => (congrFun (show (uF (uF S174 231 86 (((S122.1 231 86) + 1) + (S.1 231 84))) 231 61 sv).2.1 276 = S174.2.1 276 from funext fun x => (uF_a).trans (uF_a)) _).trans (lc q (by omega)))⟩⟩)⟩⟩ dX12_finish_234
            refine lv_aload_n hx hb dX12_finish_219 rfl (lv_at hl 1 rfl) ?_
            have q_24 : 0 ≤ S.1 231 79 ∧ S.1 231 79 ≤ 1 := hI.fi 79
            refine g_X12_514 Cx hW (k := 231) (by decide) rfl (v := S.1 231 79) ((uF_ne (fun h => absurd h.2 (by decide))).trans ((gL174_ 79 rfl).trans ((uF_ne (fun h => absurd h.2 (by decide))).trans ((uA_f).trans ((gL122_ 79 rfl).trans (uF_ne (fun h => absurd h.2 (by decide)))))))) dX12_finish_220 ?_
            refine r_if_eq (tgt := 230) hx hb ⟨(by omega), (by omega)⟩ dX12_finish_223 (by decide) (fun c_25 => ?_) (fun c_25 => ?_)
            · refine lv_iconst (v := iv 3) hx hb dX12_finish_230 (by decide) ?_
              exact join_231 3 _ _ _ (by omega) hW hL (lv_sub hl [0, 1] rfl)
            · refine lv_iconst (v := iv 2) hx hb dX12_finish_226 (by decide) ?_
              refine lv_goto (tgt := 231) hx hb dX12_finish_227 (by decide) ?_
              exact join_231 2 _ _ _ (by omega) hW hL (lv_sub hl [0, 1] rfl)
          · refine lv_aload_n hx hb dX12_finish_182 rfl (lv_at hl 1 rfl) ?_
            refine g_X12_148 Cx hW (k := 231) (by decide) rfl (v := .ref (G.2.2.1 + 276)) (rd_85 hI174) dX12_finish_183 ?_
            refine lv_aload_n hx hb dX12_finish_186 rfl (lv_at hl 1 rfl) ?_
            refine g_X12_523 Cx hW (k := 231) (by decide) rfl (v := (S122.1 231 86) + 1) ((gL174_ 86 rfl).trans (uF_on)) dX12_finish_187 ?_
            refine lv_iload_n hx hb dX12_finish_190 rfl (lv_at hl 0 rfl) ?_
            refine r_iadd hx hb dX12_finish_191 ?_
            refine lv_aload_n hx hb dX12_finish_192 rfl (lv_at hl 1 rfl) ?_
            refine g_X12_144 Cx hW (k := 231) (by decide) rfl (v := .ref (G.2.2.1 + 275)) (rd_83 hI174) dX12_finish_193 ?_
            refine lv_iload_n hx hb dX12_finish_196 rfl (lv_at hl 0 rfl) ?_
            refine rBald Cx hW (k := 275) (by decide) rfl (by decide) (by omega) (by omega) dX12_finish_197 ?_
            have q_26 : (-128) ≤ S.2.1 275 k ∧ S.2.1 275 k ≤ 127 := hI.ai 275 k
            refine r_i (b := S.2.1 275 k) (((hL174_ 275 rfl).2.1 k).trans ((uF_a).trans ((uA_ne (fun h => absurd h.1 (by decide))).trans (((hL122_ 275 rfl).2.1 k).trans (uF_a))))) ?_
            refine rBast Cx hW hL (k := 276) (by decide) rfl (by decide) (by omega) (by omega) (nar_b (by omega) (by omega)) dX12_finish_198 (fun H locs hW hL => ?_)
            have F_27 : Fr S (uA S174 276 (((S122.1 231 86) + 1) + k) (S.2.1 275 k)) (pl [231, 233, 234, 235, 236, 237, 238, 239, 240, 241, 242, 276, 280]) := hFm174.A rfl
            have F_28 : Fr ((uF (uA S122 276 (S122.1 231 86) 32) 231 86 ((S122.1 231 86) + 1))) (uA S174 276 (((S122.1 231 86) + 1) + k) (S.2.1 275 k)) (pl [276]) := hL174_.A rfl
            have i_29 : dX G (uA S174 276 (((S122.1 231 86) + 1) + k) (S.2.1 275 k)) := hI174.A (k := 276) (show (-128) ≤ S.2.1 275 k ∧ S.2.1 275 k ≤ 127 from ⟨by omega, by omega⟩)
            refine lv_iinc (v := iv (k + 1)) (lv' := [(1, .int (iv (k + 1))), (0, .ref (G.2.2.1 + 231))]) hx hb dX12_finish_199 hl (k := 0) rfl ((Int32.ofInt_add _ _).symm) (by decide) rfl (fun ls hl => ?_)
            refine lv_goto (tgt := 174) hx hb dX12_finish_202 (by decide) ?_
            have lk_30 : (uA S174 276 (((S122.1 231 86) + 1) + k) (S.2.1 275 k)).1 231 86 = (S122.1 231 86) + 1 := (uA_f).trans ((gL174_ 86 rfl).trans (uF_on))
            exact ih_174 (uA S174 276 (((S122.1 231 86) + 1) + k) (S.2.1 275 k)) (k + 1) _ _ _ (by omega) i_29 F_27 F_28 hGm174 gL174_ (by omega) (LSr.cg lh uA_f (fun q hq => (show (uA S174 276 (((S122.1 231 86) + 1) + k) (S.2.1 275 k)).2.1 276 (q : Int) = _ from uA_ne (fun h => by have := h.2; have e9 := lh.1; omega)))) (fun q a => by show (uA S174 276 (((S122.1 231 86) + 1) + k) (S.2.1 275 k)).2.1 276 (S174.1 231 86 + (q : Int)) = _; rw [uA_get]; by_cases z : (q : Int) = k; (rw [if_pos ⟨rfl, by omega⟩]; have e7 := htr.2 q (by omega); rw [← e7, z]); (rw [if_neg (fun h => z (by have := h.2; omega))]; exact lc q (by omega))) hW hL (lv_sub hl [0, 1] rfl)
      have lk_31 : (uF (uA S122 276 (S122.1 231 86) 32) 231 86 ((S122.1 231 86) + 1)).1 231 86 = (S122.1 231 86) + 1 := uF_on
      exact loop_174 (_ + 1) (uF (uA S122 276 (S122.1 231 86) 32) 231 86 ((S122.1 231 86) + 1)) 0 _ _ _ (Nat.lt_succ_self _) i_14 F_10 Fr.rf g_12 FF.rf (by omega) (LSr.put (x := 32) l122 uF_on (fun j => by show (uA S122 276 (S122.1 231 86) 32).2.1 276 j = _; rw [uA_get]; by_cases q : j = S122.1 231 86; (focus (rw [if_pos ⟨rfl, by omega⟩, if_pos q]; (try omega))); (rw [if_neg (fun y => q (by have := y.2; omega)), if_neg q]))) (fun q a => absurd a (by omega)) hW hL (lv_sub hl [0, 1] rfl)
    · refine lv_aload_n hx hb dX12_finish_139 rfl (lv_at hl 0 rfl) ?_
      refine lv_bipush (v := iv 6) hx hb dX12_finish_140 (by decide) ?_
      refine p_X12_477 Cx hW hL (k := 231) (by decide) rfl dX12_finish_142 (fun H locs hW hL => ?_)
      have F_32 : Fr S (uF S122 231 61 6) (pl [231, 233, 234, 235, 236, 237, 238, 239, 240, 241, 242, 276, 280]) := hFm122.F rfl
      have F_33 : Fr ((uF S 231 86 0)) (uF S122 231 61 6) (pl [231, 233, 234, 235, 236, 237, 238, 239, 240, 241, 242, 276, 280]) := hL122_.F rfl
      have g_34 : FF S (uF S122 231 61 6) (fl [6, 61, 86]) := FF.F hGm122 rfl
      have i_35 : dX G (uF S122 231 61 6) := hI122.F (i := 61) (show (-2147483648) ≤ 6 ∧ 6 ≤ 2147483647 from ⟨by omega, by omega⟩)
      refine lv_aload_n hx hb dX12_finish_145 rfl (lv_at hl 0 rfl) ?_
      refine lv_iconst (v := iv 0) hx hb dX12_finish_146 (by decide) ?_
      refine p_X12_523 Cx hW hL (k := 231) (by decide) rfl dX12_finish_147 (fun H locs hW hL => ?_)
      have F_36 : Fr S (uF (uF S122 231 61 6) 231 86 0) (pl [231, 233, 234, 235, 236, 237, 238, 239, 240, 241, 242, 276, 280]) := F_32.F rfl
      have F_37 : Fr ((uF S 231 86 0)) (uF (uF S122 231 61 6) 231 86 0) (pl [231, 233, 234, 235, 236, 237, 238, 239, 240, 241, 242, 276, 280]) := F_33.F rfl
      have g_38 : FF S (uF (uF S122 231 61 6) 231 86 0) (fl [6, 61, 86]) := FF.F g_34 rfl
      have i_39 : dX G (uF (uF S122 231 61 6) 231 86 0) := i_35.F (i := 86) (show (-2147483648) ≤ 0 ∧ 0 ≤ 2147483647 from ⟨by omega, by omega⟩)
      have lk_40 : (uF (uF S122 231 61 6) 231 86 0).1 231 61 = 6 := (uF_ne (fun h => absurd h.2 (by decide))).trans (uF_on)
      have lk_41 : (uF (uF S122 231 61 6) 231 86 0).1 231 86 = 0 := uF_on
      exact sVret Cx hr hlk hW hL ⟨i_39, F_36, g_38, ⟨⟨⟨by omega, by omega⟩, by omega, by omega⟩, (by have hpl : (((hdF (S.1 231 79) n mx bv bd pt) ++ [32] ++ T)).length = ((hdF (S.1 231 79) n mx bv bd pt)).length + 1 + T.length := (by rw [List.length_append, List.length_append]; rfl); have hq1 := l122.1; exact ⟨fun _ => (show (uF (uF S122 231 61 6) 231 86 0).1 231 61 = 6 by omega), fun q => absurd (by omega) q⟩)⟩⟩ dX12_finish_150
  refine lv_aload_n hx hb dX12_finish_5 rfl (lv_at hl 0 rfl) ?_
  have q_42 : 0 ≤ S.1 231 79 ∧ S.1 231 79 ≤ 1 := hI.fi 79
  refine g_X12_514 Cx hW (k := 231) (by decide) rfl (v := S.1 231 79) (uF_ne (fun h => absurd h.2 (by decide))) dX12_finish_6 ?_
  refine r_if_eq (tgt := 115) hx hb ⟨(by omega), (by omega)⟩ dX12_finish_9 (by decide) (fun c_43 => ?_) (fun c_43 => ?_)
  · refine lv_aload_n hx hb dX12_finish_115 rfl (lv_at hl 0 rfl) ?_
    refine zLdcw Cx 30 (by decide) ⟨rfl, rfl⟩ dX12_finish_116 ?_
    have lk_44 : (uF S 231 86 0).1 231 86 = 0 := uF_on
    refine sBv (sV (As := [.ref (G.1.2 100 30)]) (rest := []) (k := 231) Cx (r_X12_say l G (uF S 231 86 0) (si := 30) (T := ([])) i_3 (by decide) (by omega) (LSr.nil uF_on)) (c_X12_666 Cx rfl rfl (rmk_ok (by omega) (by decide))) hW (by decide) rfl rfl rfl hl.1 rfl (Nat.le_of_ble_eq_true rfl) dX12_finish_119 ⟨Nat.le_of_ble_eq_true rfl, Nat.le_of_ble_eq_true rfl⟩) hL (fun u_45 H locs k_46 hW hL => ?_)
    obtain ⟨iu_45, fu_45, gu_45, xu_45⟩ := k_46
    have F_47 := F_1.trans (fu_45.to (pl_sub (by decide)))
    have F_48 := (Fr.rf : Fr (uF S 231 86 0) (uF S 231 86 0) (pl [231, 233, 234, 235, 236, 237, 238, 239, 240, 241, 242, 276, 280])).trans (fu_45.to (pl_sub (by decide)))
    have g_49 : FF S u_45 (fl [6, 61, 86]) := FF.trans g_2 (FF.to gu_45 (fl_sub (by decide)))
    have g_50 : FF ((uF S 231 86 0)) u_45 (fl [6, 86]) := FF.trans (FF.rf : FF ((uF S 231 86 0)) ((uF S 231 86 0)) (fl [6, 86])) (FF.to gu_45 (fl_sub (by decide)))
    have hsu_45 : ((strN.getD 30 0 : Nat) : Int) = 10 := rfl
    have q_51 : (-2147483648) ≤ u_45.1 231 86 ∧ u_45.1 231 86 ≤ 2147483647 := iu_45.fi 86
    exact join_122 u_45  _ _ _ iu_45 F_47 F_48 g_49 g_50 (by omega) (LSr.eq xu_45.2.2 (by unfold hdF; rw [if_neg (by omega)]; rfl)) hW hL (lv_sub hl [0] rfl)
  · have hBS := hBB (by omega)
    have hbq := hbp (by omega)
    refine lv_aload_n hx hb dX12_finish_12 rfl (lv_at hl 0 rfl) ?_
    refine zLdcw Cx 27 (by decide) ⟨rfl, rfl⟩ dX12_finish_13 ?_
    have lk_52 : (uF S 231 86 0).1 231 86 = 0 := uF_on
    refine sBv (sV (As := [.ref (G.1.2 100 27)]) (rest := []) (k := 231) Cx (r_X12_say l G (uF S 231 86 0) (si := 27) (T := ([])) i_3 (by decide) (by omega) (LSr.nil uF_on)) (c_X12_666 Cx rfl rfl (rmk_ok (by omega) (by decide))) hW (by decide) rfl rfl rfl hl.1 rfl (Nat.le_of_ble_eq_true rfl) dX12_finish_16 ⟨Nat.le_of_ble_eq_true rfl, Nat.le_of_ble_eq_true rfl⟩) hL (fun u_53 H locs k_54 hW hL => ?_)
    obtain ⟨iu_53, fu_53, gu_53, xu_53⟩ := k_54
    have F_55 := F_1.trans (fu_53.to (pl_sub (by decide)))
    have F_56 := (Fr.rf : Fr (uF S 231 86 0) (uF S 231 86 0) (pl [231, 233, 234, 235, 236, 237, 238, 239, 240, 241, 242, 276, 280])).trans (fu_53.to (pl_sub (by decide)))
    have g_57 : FF S u_53 (fl [6, 61, 86]) := FF.trans g_2 (FF.to gu_53 (fl_sub (by decide)))
    have g_58 : FF ((uF S 231 86 0)) u_53 (fl [6, 86]) := FF.trans (FF.rf : FF ((uF S 231 86 0)) ((uF S 231 86 0)) (fl [6, 86])) (FF.to gu_53 (fl_sub (by decide)))
    have hsu_53 : ((strN.getD 27 0 : Nat) : Int) = 7 := rfl
    refine lv_aload_n hx hb dX12_finish_19 rfl (lv_at hl 0 rfl) ?_
    refine lv_aload_n hx hb dX12_finish_20 rfl (lv_at hl 0 rfl) ?_
    refine g_X12_134 Cx hW (k := 231) (by decide) rfl (v := .ref (G.2.2.1 + 272)) (rd_80 iu_53) dX12_finish_21 ?_
    refine lv_iconst (v := iv 0) hx hb dX12_finish_24 (by decide) ?_
    refine lv_aload_n hx hb dX12_finish_25 rfl (lv_at hl 0 rfl) ?_
    refine g_X12_137 Cx hW (k := 231) (by decide) rfl (v := .ref (G.2.2.1 + 273)) (rd_81 iu_53) dX12_finish_26 ?_
    refine lv_iconst (v := iv 0) hx hb dX12_finish_29 (by decide) ?_
    refine sBv (sV (As := [.ref (G.2.2.1 + 272), .int (iv 0), .ref (G.2.2.1 + 273), .int (iv 0)]) (rest := []) (k := 231) Cx (r_X12_lower l G u_53 (ka := 272) (po := 0) (kb := 273) (qo := 0) (Nka := 8) (Nkb := 8) iu_53 ⟨rfl, by decide, by decide, by decide, rfl⟩ ⟨rfl, by decide, by decide, by decide, rfl⟩ (show (272 : Nat) ≠ 233 by decide) (show (272 : Nat) ≠ 234 by decide) (show (272 : Nat) ≠ 235 by decide) (show (272 : Nat) ≠ 237 by decide) (show (272 : Nat) ≠ 238 by decide) (show (272 : Nat) ≠ 239 by decide) (show (272 : Nat) ≠ 240 by decide) (show (272 : Nat) ≠ 241 by decide) (show (272 : Nat) ≠ 242 by decide) (show (272 : Nat) ≠ 280 by decide) (show (273 : Nat) ≠ 233 by decide) (show (273 : Nat) ≠ 234 by decide) (show (273 : Nat) ≠ 235 by decide) (show (273 : Nat) ≠ 237 by decide) (show (273 : Nat) ≠ 238 by decide) (show (273 : Nat) ≠ 239 by decide) (show (273 : Nat) ≠ 240 by decide) (show (273 : Nat) ≠ 241 by decide) (show (273 : Nat) ≠ 242 by decide) (show (273 : Nat) ≠ 280 by decide) (by omega) (by rw [show u_53.2.1 272 = S.2.1 272 from (funext fun j => ((fu_53 272 rfl).2.1 j).trans (uF_a))]; exact hBS.1) (by rw [show u_53.2.1 273 = S.2.1 273 from (funext fun j => ((fu_53 273 rfl).2.1 j).trans (uF_a))]; exact hBS.2.1) (by rw [show u_53.2.1 273 = S.2.1 273 from (funext fun j => ((fu_53 273 rfl).2.1 j).trans (uF_a))]; exact hBS.2.2.1)) (c_X12_671 Cx rfl rfl (rmk_ok (by omega) (by decide))) hW (by decide) rfl rfl rfl hl.1 rfl (Nat.le_of_ble_eq_true rfl) dX12_finish_30 ⟨Nat.le_of_ble_eq_true rfl, Nat.le_of_ble_eq_true rfl⟩) hL (fun u_59 H locs k_60 hW hL => ?_)
    obtain ⟨iu_59, fu_59, gu_59, xu_59⟩ := k_60
    have F_61 := F_55.trans (fu_59.to (pl_sub (by decide)))
    have F_62 := F_56.trans (fu_59.to (pl_sub (by decide)))
    have g_63 : FF S u_59 (fl [6, 61, 86]) := FF.trans g_57 (FF.to gu_59 (fl_sub (by decide)))
    have g_64 : FF ((uF S 231 86 0)) u_59 (fl [6, 86]) := FF.trans g_58 (FF.to gu_59 (fl_sub (by decide)))
    have join_48 : ∀ (S48 : sS)  (H : Heap) (locs : List Loc) (ls : Array Slot), (dX G S48) → (Fr S S48 (pl [231, 233, 234, 235, 236, 237, 238, 239, 240, 241, 242, 276, 280])) → (Fr ((uF S 231 86 0)) S48 (pl [231, 233, 234, 235, 236, 237, 238, 239, 240, 241, 242, 276, 280])) → (Fr u_59 S48 (pl [237])) → (FF S S48 (fl [6, 61, 86])) → (FF ((uF S 231 86 0)) S48 (fl [6, 86])) → (FF u_59 S48 (fl [])) → (NO (S48.2.1 237) 0 7) → (NO (S48.2.1 238) 0 7) → (Hd (nv (S48.2.1 237) 0 = (if mx = 1 then bv else -bv) / (gc (absI bv) bd) ∧ nv (S48.2.1 238) 0 = bd / (gc (absI bv) bd))) → sW G 294 S48 H → sL G locs → lv_has ls 2 [(0, .ref (G.2.2.1 + 231))] → W p l e (rmk 8 0 0) s m args below meth c H locs 0 0 (MQ below (sQv G 294 (fun u => dX G u ∧ Fr S u (pl [231, 233, 234, 235, 236, 237, 238, 239, 240, 241, 242, 276, 280]) ∧ FF S u (fl [6, 61, 86]) ∧ (((2 ≤ u.1 231 61 ∧ u.1 231 61 ≤ 6) ∧ 0 ≤ u.1 231 86 ∧ u.1 231 86 ≤ 36000) ∧ Hd (FNr u (if S.1 231 79 = 1 then 2 else 3) ((hdF (S.1 231 79) n mx bv bd pt) ++ [32] ++ T))))) args s 0 0 (sF G)) (F0 m 48 ls []) := by
      intro S48  H locs ls hI48 hFm48 hFL12248 hL48_ hGm48 hGL12248 gL48_ hN48 hN48b hv48 hW hL hl
      refine lv_aload_n hx hb dX12_finish_48 rfl (lv_at hl 0 rfl) ?_
      refine lv_iconst (v := iv 0) hx hb dX12_finish_49 (by decide) ?_
      refine p_X12_259 Cx hW hL (k := 231) (by decide) rfl dX12_finish_50 (fun H locs hW hL => ?_)
      have F_65 : Fr S (uF S48 231 6 0) (pl [231, 233, 234, 235, 236, 237, 238, 239, 240, 241, 242, 276, 280]) := hFm48.F rfl
      have F_66 : Fr ((uF S 231 86 0)) (uF S48 231 6 0) (pl [231, 233, 234, 235, 236, 237, 238, 239, 240, 241, 242, 276, 280]) := hFL12248.F rfl
      have g_67 : FF S (uF S48 231 6 0) (fl [6, 61, 86]) := FF.F hGm48 rfl
      have g_68 : FF ((uF S 231 86 0)) (uF S48 231 6 0) (fl [6, 86]) := FF.F hGL12248 rfl
      have i_69 : dX G (uF S48 231 6 0) := hI48.F (i := 6) (show (-2147483648) ≤ 0 ∧ 0 ≤ 2147483647 from ⟨by omega, by omega⟩)
      refine lv_aload_n hx hb dX12_finish_53 rfl (lv_at hl 0 rfl) ?_
      refine lv_aload_n hx hb dX12_finish_54 rfl (lv_at hl 0 rfl) ?_
      refine g_X12_26 Cx hW (k := 231) (by decide) rfl (v := .ref (G.2.2.1 + 237)) (rd_7 i_69) dX12_finish_55 ?_
      refine lv_iconst (v := iv 0) hx hb dX12_finish_58 (by decide) ?_
      have lk_70 : (uF S48 231 6 0).1 231 6 = 0 := uF_on
      refine sBv (sV (As := [.ref (G.2.2.1 + 237), .int (iv 0)]) (rest := []) (k := 231) Cx (r_X12_spell l G (uF S48 231 6 0) (ka := 237) (po := 0) (Nka := 68) (La := 7) (L := ([])) i_69 ⟨rfl, by decide, by decide, by decide, rfl⟩ (by omega) (by omega) hN48 (show (237 : Nat) ≠ 231 by decide) (show (237 : Nat) ≠ 236 by decide) (LSr.nil uF_on)) (c_X12_594 Cx rfl rfl (rmk_ok (by omega) (by decide))) hW (by decide) rfl rfl rfl hl.1 rfl (Nat.le_of_ble_eq_true rfl) dX12_finish_59 ⟨Nat.le_of_ble_eq_true rfl, Nat.le_of_ble_eq_true rfl⟩) hL (fun u_71 H locs k_72 hW hL => ?_)
      obtain ⟨iu_71, fu_71, gu_71, xu_71⟩ := k_72
      have F_73 := F_65.trans (fu_71.to (pl_sub (by decide)))
      have F_74 := F_66.trans (fu_71.to (pl_sub (by decide)))
      have g_75 : FF S u_71 (fl [6, 61, 86]) := FF.trans g_67 (FF.to gu_71 (fl_sub (by decide)))
      have g_76 : FF ((uF S 231 86 0)) u_71 (fl [6, 86]) := FF.trans g_68 (FF.to gu_71 (fl_sub (by decide)))
      refine lv_aload_n hx hb dX12_finish_62 rfl (lv_at hl 0 rfl) ?_
      have q_77 : (-2147483648) ≤ u_53.1 231 86 ∧ u_53.1 231 86 ≤ 2147483647 := iu_53.fi 86
      have lk_78 : u_71.1 231 86 = u_53.1 231 86 := (gu_71 86 rfl).trans ((uF_ne (fun h => absurd h.2 (by decide))).trans ((gL48_ 86 rfl).trans (gu_59 86 rfl)))
      have q_79 : (-2147483648) ≤ u_71.1 231 6 ∧ u_71.1 231 6 ≤ 2147483647 := iu_71.fi 6
      refine sBv (sV (As := []) (rest := []) (k := 231) Cx (r_X12_sayLetters l G u_71 (T := (tkn (([])) (strB.getD 27 []))) (L := ((([])) ++ nmT (nv ((uF S48 231 6 0).2.1 237) 0))) iu_71 (by omega) (by omega) xu_71.2.2 (LSr.of xu_53.2.2 ((gu_71 86 rfl).trans ((uF_ne (fun h => absurd h.2 (by decide))).trans ((gL48_ 86 rfl).trans (gu_59 86 rfl)))) (funext fun x => ((fu_71 276 rfl).2.1 x).trans ((uF_a).trans (((hL48_ 276 rfl).2.1 x).trans ((fu_59 276 rfl).2.1 x)))))) (c_X12_661 Cx rfl rfl (rmk_ok (by omega) (by decide))) hW (by decide) rfl rfl rfl hl.1 rfl (Nat.le_of_ble_eq_true rfl) dX12_finish_63 ⟨Nat.le_of_ble_eq_true rfl, Nat.le_of_ble_eq_true rfl⟩) hL (fun u_80 H locs k_81 hW hL => ?_)
      obtain ⟨iu_80, fu_80, gu_80, xu_80⟩ := k_81
      have F_82 := F_73.trans (fu_80.to (pl_sub (by decide)))
      have F_83 := F_74.trans (fu_80.to (pl_sub (by decide)))
      have g_84 : FF S u_80 (fl [6, 61, 86]) := FF.trans g_75 (FF.to gu_80 (fl_sub (by decide)))
      have g_85 : FF ((uF S 231 86 0)) u_80 (fl [6, 86]) := FF.trans g_76 (FF.to gu_80 (fl_sub (by decide)))
      refine lv_aload_n hx hb dX12_finish_66 rfl (lv_at hl 0 rfl) ?_
      refine zLdcw Cx 28 (by decide) ⟨rfl, rfl⟩ dX12_finish_67 ?_
      have q_86 : (-2147483648) ≤ u_80.1 231 86 ∧ u_80.1 231 86 ≤ 2147483647 := iu_80.fi 86
      refine sBv (sV (As := [.ref (G.1.2 100 28)]) (rest := []) (k := 231) Cx (r_X12_say l G u_80 (si := 28) (T := (((tkn (([])) (strB.getD 27 []))) ++ [32] ++ (((([])) ++ nmT (nv ((uF S48 231 6 0).2.1 237) 0))))) iu_80 (by decide) (by omega) xu_80.2) (c_X12_666 Cx rfl rfl (rmk_ok (by omega) (by decide))) hW (by decide) rfl rfl rfl hl.1 rfl (Nat.le_of_ble_eq_true rfl) dX12_finish_70 ⟨Nat.le_of_ble_eq_true rfl, Nat.le_of_ble_eq_true rfl⟩) hL (fun u_87 H locs k_88 hW hL => ?_)
      obtain ⟨iu_87, fu_87, gu_87, xu_87⟩ := k_88
      have F_89 := F_82.trans (fu_87.to (pl_sub (by decide)))
      have F_90 := F_83.trans (fu_87.to (pl_sub (by decide)))
      have g_91 : FF S u_87 (fl [6, 61, 86]) := FF.trans g_84 (FF.to gu_87 (fl_sub (by decide)))
      have g_92 : FF ((uF S 231 86 0)) u_87 (fl [6, 86]) := FF.trans g_85 (FF.to gu_87 (fl_sub (by decide)))
      have hsu_87 : ((strN.getD 28 0 : Nat) : Int) = 1 := rfl
      refine lv_aload_n hx hb dX12_finish_73 rfl (lv_at hl 0 rfl) ?_
      refine lv_iconst (v := iv 0) hx hb dX12_finish_74 (by decide) ?_
      refine p_X12_259 Cx hW hL (k := 231) (by decide) rfl dX12_finish_75 (fun H locs hW hL => ?_)
      have F_93 : Fr S (uF u_87 231 6 0) (pl [231, 233, 234, 235, 236, 237, 238, 239, 240, 241, 242, 276, 280]) := F_89.F rfl
      have F_94 : Fr ((uF S 231 86 0)) (uF u_87 231 6 0) (pl [231, 233, 234, 235, 236, 237, 238, 239, 240, 241, 242, 276, 280]) := F_90.F rfl
      have g_95 : FF S (uF u_87 231 6 0) (fl [6, 61, 86]) := FF.F g_91 rfl
      have g_96 : FF ((uF S 231 86 0)) (uF u_87 231 6 0) (fl [6, 86]) := FF.F g_92 rfl
      have i_97 : dX G (uF u_87 231 6 0) := iu_87.F (i := 6) (show (-2147483648) ≤ 0 ∧ 0 ≤ 2147483647 from ⟨by omega, by omega⟩)
      refine lv_aload_n hx hb dX12_finish_78 rfl (lv_at hl 0 rfl) ?_
      refine lv_aload_n hx hb dX12_finish_79 rfl (lv_at hl 0 rfl) ?_
      refine g_X12_29 Cx hW (k := 231) (by decide) rfl (v := .ref (G.2.2.1 + 238)) (rd_8 i_97) dX12_finish_80 ?_
      refine lv_iconst (v := iv 0) hx hb dX12_finish_83 (by decide) ?_
      have lk_98 : (uF u_87 231 6 0).1 231 6 = 0 := uF_on
      refine sBv (sV (As := [.ref (G.2.2.1 + 238), .int (iv 0)]) (rest := []) (k := 231) Cx (r_X12_spell l G (uF u_87 231 6 0) (ka := 238) (po := 0) (Nka := 68) (La := 7) (L := ([])) i_97 ⟨rfl, by decide, by decide, by decide, rfl⟩ (by omega) (by omega) (by rw [show (uF u_87 231 6 0).2.1 238 = S48.2.1 238 from (funext fun j => (uF_a).trans (((fu_87 238 rfl).2.1 j).trans (((fu_80 238 rfl).2.1 j).trans (((fu_71 238 rfl).2.1 j).trans (uF_a)))))]; exact hN48b) (show (238 : Nat) ≠ 231 by decide) (show (238 : Nat) ≠ 236 by decide) (LSr.nil uF_on)) (c_X12_594 Cx rfl rfl (rmk_ok (by omega) (by decide))) hW (by decide) rfl rfl rfl hl.1 rfl (Nat.le_of_ble_eq_true rfl) dX12_finish_84 ⟨Nat.le_of_ble_eq_true rfl, Nat.le_of_ble_eq_true rfl⟩) hL (fun u_99 H locs k_100 hW hL => ?_)
      obtain ⟨iu_99, fu_99, gu_99, xu_99⟩ := k_100
      have F_101 := F_93.trans (fu_99.to (pl_sub (by decide)))
      have F_102 := F_94.trans (fu_99.to (pl_sub (by decide)))
      have g_103 : FF S u_99 (fl [6, 61, 86]) := FF.trans g_95 (FF.to gu_99 (fl_sub (by decide)))
      have g_104 : FF ((uF S 231 86 0)) u_99 (fl [6, 86]) := FF.trans g_96 (FF.to gu_99 (fl_sub (by decide)))
      refine lv_aload_n hx hb dX12_finish_87 rfl (lv_at hl 0 rfl) ?_
      have q_105 : (-2147483648) ≤ u_87.1 231 86 ∧ u_87.1 231 86 ≤ 2147483647 := iu_87.fi 86
      have lk_106 : u_99.1 231 86 = u_87.1 231 86 := (gu_99 86 rfl).trans (uF_ne (fun h => absurd h.2 (by decide)))
      have q_107 : (-2147483648) ≤ u_99.1 231 6 ∧ u_99.1 231 6 ≤ 2147483647 := iu_99.fi 6
      refine sBv (sV (As := []) (rest := []) (k := 231) Cx (r_X12_sayLetters l G u_99 (T := (tkn ((((tkn (([])) (strB.getD 27 []))) ++ [32] ++ (((([])) ++ nmT (nv ((uF S48 231 6 0).2.1 237) 0))))) (strB.getD 28 []))) (L := ((([])) ++ nmT (nv ((uF u_87 231 6 0).2.1 238) 0))) iu_99 (by omega) (by omega) xu_99.2.2 (LSr.of xu_87.2.2 ((gu_99 86 rfl).trans (uF_ne (fun h => absurd h.2 (by decide)))) (funext fun x => ((fu_99 276 rfl).2.1 x).trans (uF_a)))) (c_X12_661 Cx rfl rfl (rmk_ok (by omega) (by decide))) hW (by decide) rfl rfl rfl hl.1 rfl (Nat.le_of_ble_eq_true rfl) dX12_finish_88 ⟨Nat.le_of_ble_eq_true rfl, Nat.le_of_ble_eq_true rfl⟩) hL (fun u_108 H locs k_109 hW hL => ?_)
      obtain ⟨iu_108, fu_108, gu_108, xu_108⟩ := k_109
      have F_110 := F_101.trans (fu_108.to (pl_sub (by decide)))
      have F_111 := F_102.trans (fu_108.to (pl_sub (by decide)))
      have g_112 : FF S u_108 (fl [6, 61, 86]) := FF.trans g_103 (FF.to gu_108 (fl_sub (by decide)))
      have g_113 : FF ((uF S 231 86 0)) u_108 (fl [6, 86]) := FF.trans g_104 (FF.to gu_108 (fl_sub (by decide)))
      refine lv_aload_n hx hb dX12_finish_91 rfl (lv_at hl 0 rfl) ?_
      refine zLdcw Cx 29 (by decide) ⟨rfl, rfl⟩ dX12_finish_92 ?_
      have q_114 : (-2147483648) ≤ u_108.1 231 86 ∧ u_108.1 231 86 ≤ 2147483647 := iu_108.fi 86
      refine sBv (sV (As := [.ref (G.1.2 100 29)]) (rest := []) (k := 231) Cx (r_X12_say l G u_108 (si := 29) (T := (((tkn ((((tkn (([])) (strB.getD 27 []))) ++ [32] ++ (((([])) ++ nmT (nv ((uF S48 231 6 0).2.1 237) 0))))) (strB.getD 28 []))) ++ [32] ++ (((([])) ++ nmT (nv ((uF u_87 231 6 0).2.1 238) 0))))) iu_108 (by decide) (by omega) xu_108.2) (c_X12_666 Cx rfl rfl (rmk_ok (by omega) (by decide))) hW (by decide) rfl rfl rfl hl.1 rfl (Nat.le_of_ble_eq_true rfl) dX12_finish_95 ⟨Nat.le_of_ble_eq_true rfl, Nat.le_of_ble_eq_true rfl⟩) hL (fun u_115 H locs k_116 hW hL => ?_)
      obtain ⟨iu_115, fu_115, gu_115, xu_115⟩ := k_116
      have F_117 := F_110.trans (fu_115.to (pl_sub (by decide)))
      have F_118 := F_111.trans (fu_115.to (pl_sub (by decide)))
      have g_119 : FF S u_115 (fl [6, 61, 86]) := FF.trans g_112 (FF.to gu_115 (fl_sub (by decide)))
      have g_120 : FF ((uF S 231 86 0)) u_115 (fl [6, 86]) := FF.trans g_113 (FF.to gu_115 (fl_sub (by decide)))
      have hsu_115 : ((strN.getD 29 0 : Nat) : Int) = 2 := rfl
      refine lv_aload_n hx hb dX12_finish_98 rfl (lv_at hl 0 rfl) ?_
      refine lv_aload_n hx hb dX12_finish_99 rfl (lv_at hl 0 rfl) ?_
      refine g_X12_140 Cx hW (k := 231) (by decide) rfl (v := .ref (G.2.2.1 + 274)) (rd_82 iu_115) dX12_finish_100 ?_
      refine lv_iconst (v := iv 0) hx hb dX12_finish_103 (by decide) ?_
      refine lv_aload_n hx hb dX12_finish_104 rfl (lv_at hl 0 rfl) ?_
      refine g_X12_137 Cx hW (k := 231) (by decide) rfl (v := .ref (G.2.2.1 + 273)) (rd_81 iu_115) dX12_finish_105 ?_
      refine lv_iconst (v := iv 0) hx hb dX12_finish_108 (by decide) ?_
      have q_121 : (-2147483648) ≤ S.1 231 46 ∧ S.1 231 46 ≤ 2147483647 := hI.fi 46
      have lk_122 : u_115.1 231 46 = S.1 231 46 := (gu_115 46 rfl).trans ((gu_108 46 rfl).trans ((gu_99 46 rfl).trans ((uF_ne (fun h => absurd h.2 (by decide))).trans ((gu_87 46 rfl).trans ((gu_80 46 rfl).trans ((gu_71 46 rfl).trans ((uF_ne (fun h => absurd h.2 (by decide))).trans ((gL48_ 46 rfl).trans ((gu_59 46 rfl).trans ((gu_53 46 rfl).trans (uF_ne (fun h => absurd h.2 (by decide)))))))))))))
      have q_123 : (-2147483648) ≤ u_115.1 231 86 ∧ u_115.1 231 86 ≤ 2147483647 := iu_115.fi 86
      refine sBv (sV (As := [.ref (G.2.2.1 + 274), .int (iv 0), .ref (G.2.2.1 + 273), .int (iv 0)]) (rest := []) (k := 231) Cx (r_X12_sayPoint l G u_115 (ka := 274) (po := 0) (kb := 273) (qo := 0) (Nka := 104) (Nkb := 8) (T := (tkn ((((tkn ((((tkn (([])) (strB.getD 27 []))) ++ [32] ++ (((([])) ++ nmT (nv ((uF S48 231 6 0).2.1 237) 0))))) (strB.getD 28 []))) ++ [32] ++ (((([])) ++ nmT (nv ((uF u_87 231 6 0).2.1 238) 0))))) (strB.getD 29 []))) iu_115 ⟨rfl, by decide, by decide, by decide, rfl⟩ ⟨rfl, by decide, by decide, by decide, rfl⟩ xu_115.2.2 (tkn_nn (by decide)) (show (274 : Nat) ≠ 231 by decide) (show (274 : Nat) ≠ 233 by decide) (show (274 : Nat) ≠ 234 by decide) (show (274 : Nat) ≠ 235 by decide) (show (274 : Nat) ≠ 236 by decide) (show (274 : Nat) ≠ 237 by decide) (show (274 : Nat) ≠ 239 by decide) (show (274 : Nat) ≠ 240 by decide) (show (274 : Nat) ≠ 241 by decide) (show (274 : Nat) ≠ 242 by decide) (show (274 : Nat) ≠ 276 by decide) (show (274 : Nat) ≠ 280 by decide) (show (273 : Nat) ≠ 231 by decide) (show (273 : Nat) ≠ 233 by decide) (show (273 : Nat) ≠ 234 by decide) (show (273 : Nat) ≠ 235 by decide) (show (273 : Nat) ≠ 236 by decide) (show (273 : Nat) ≠ 237 by decide) (show (273 : Nat) ≠ 239 by decide) (show (273 : Nat) ≠ 240 by decide) (show (273 : Nat) ≠ 241 by decide) (show (273 : Nat) ≠ 242 by decide) (show (273 : Nat) ≠ 276 by decide) (show (273 : Nat) ≠ 280 by decide) (by omega) (MD.sm (S := S) (u := u_115) hM ((gu_115 46 rfl).trans ((gu_108 46 rfl).trans ((gu_99 46 rfl).trans ((uF_ne (fun h => absurd h.2 (by decide))).trans ((gu_87 46 rfl).trans ((gu_80 46 rfl).trans ((gu_71 46 rfl).trans ((uF_ne (fun h => absurd h.2 (by decide))).trans ((gL48_ 46 rfl).trans ((gu_59 46 rfl).trans ((gu_53 46 rfl).trans (uF_ne (fun h => absurd h.2 (by decide)))))))))))))) ((gu_115 47 rfl).trans ((gu_108 47 rfl).trans ((gu_99 47 rfl).trans ((uF_ne (fun h => absurd h.2 (by decide))).trans ((gu_87 47 rfl).trans ((gu_80 47 rfl).trans ((gu_71 47 rfl).trans ((uF_ne (fun h => absurd h.2 (by decide))).trans ((gL48_ 47 rfl).trans ((gu_59 47 rfl).trans ((gu_53 47 rfl).trans (uF_ne (fun h => absurd h.2 (by decide)))))))))))))) ((gu_115 63 rfl).trans ((gu_108 63 rfl).trans ((gu_99 63 rfl).trans ((uF_ne (fun h => absurd h.2 (by decide))).trans ((gu_87 63 rfl).trans ((gu_80 63 rfl).trans ((gu_71 63 rfl).trans ((uF_ne (fun h => absurd h.2 (by decide))).trans ((gL48_ 63 rfl).trans ((gu_59 63 rfl).trans ((gu_53 63 rfl).trans (uF_ne (fun h => absurd h.2 (by decide))))))))))))))) (fun j a b => by rw [show u_115.2.1 274 = S.2.1 274 from (funext fun j => ((fu_115 274 rfl).2.1 j).trans (((fu_108 274 rfl).2.1 j).trans (((fu_99 274 rfl).2.1 j).trans ((uF_a).trans (((fu_87 274 rfl).2.1 j).trans (((fu_80 274 rfl).2.1 j).trans (((fu_71 274 rfl).2.1 j).trans ((uF_a).trans (((hL48_ 274 rfl).2.1 j).trans (((fu_59 274 rfl).2.1 j).trans (((fu_53 274 rfl).2.1 j).trans (uF_a)))))))))))), show (0 : Int) + 8 * j = 8 * j by omega]; exact hBS.2.2.2 j a (by have e8 := (show u_115.1 231 46 = S.1 231 46 from (gu_115 46 rfl).trans ((gu_108 46 rfl).trans ((gu_99 46 rfl).trans ((uF_ne (fun h => absurd h.2 (by decide))).trans ((gu_87 46 rfl).trans ((gu_80 46 rfl).trans ((gu_71 46 rfl).trans ((uF_ne (fun h => absurd h.2 (by decide))).trans ((gL48_ 46 rfl).trans ((gu_59 46 rfl).trans ((gu_53 46 rfl).trans (uF_ne (fun h => absurd h.2 (by decide)))))))))))))); omega)) (by rw [show u_115.2.1 273 = S.2.1 273 from (funext fun j => ((fu_115 273 rfl).2.1 j).trans (((fu_108 273 rfl).2.1 j).trans (((fu_99 273 rfl).2.1 j).trans ((uF_a).trans (((fu_87 273 rfl).2.1 j).trans (((fu_80 273 rfl).2.1 j).trans (((fu_71 273 rfl).2.1 j).trans ((uF_a).trans (((hL48_ 273 rfl).2.1 j).trans (((fu_59 273 rfl).2.1 j).trans (((fu_53 273 rfl).2.1 j).trans (uF_a))))))))))))]; exact hBS.2.1) (by rw [show u_115.2.1 273 = S.2.1 273 from (funext fun j => ((fu_115 273 rfl).2.1 j).trans (((fu_108 273 rfl).2.1 j).trans (((fu_99 273 rfl).2.1 j).trans ((uF_a).trans (((fu_87 273 rfl).2.1 j).trans (((fu_80 273 rfl).2.1 j).trans (((fu_71 273 rfl).2.1 j).trans ((uF_a).trans (((hL48_ 273 rfl).2.1 j).trans (((fu_59 273 rfl).2.1 j).trans (((fu_53 273 rfl).2.1 j).trans (uF_a))))))))))))]; exact hBS.2.2.1) (by omega)) (c_X12_675 Cx rfl rfl (rmk_ok (by omega) (by decide))) hW (by decide) rfl rfl rfl hl.1 rfl (Nat.le_of_ble_eq_true rfl) dX12_finish_109 ⟨Nat.le_of_ble_eq_true rfl, Nat.le_of_ble_eq_true rfl⟩) hL (fun u_124 H locs k_125 hW hL => ?_)
      obtain ⟨iu_124, fu_124, gu_124, xu_124⟩ := k_125
      have F_126 := F_117.trans (fu_124.to (pl_sub (by decide)))
      have F_127 := F_118.trans (fu_124.to (pl_sub (by decide)))
      have g_128 : FF S u_124 (fl [6, 61, 86]) := FF.trans g_119 (FF.to gu_124 (fl_sub (by decide)))
      have g_129 : FF ((uF S 231 86 0)) u_124 (fl [6, 86]) := FF.trans g_120 (FF.to gu_124 (fl_sub (by decide)))
      refine lv_goto (tgt := 122) hx hb dX12_finish_112 (by decide) ?_
      have q_130 : (-2147483648) ≤ u_124.1 231 86 ∧ u_124.1 231 86 ≤ 2147483647 := iu_124.fi 86
      exact join_122 u_124  _ _ _ iu_124 F_126 F_127 g_128 g_129 (by omega) (LSr.eq xu_124.2.2 (by rw [show u_115.1 231 46 = n by have e8 := (show u_115.1 231 46 = S.1 231 46 from (gu_115 46 rfl).trans ((gu_108 46 rfl).trans ((gu_99 46 rfl).trans ((uF_ne (fun h => absurd h.2 (by decide))).trans ((gu_87 46 rfl).trans ((gu_80 46 rfl).trans ((gu_71 46 rfl).trans ((uF_ne (fun h => absurd h.2 (by decide))).trans ((gL48_ 46 rfl).trans ((gu_59 46 rfl).trans ((gu_53 46 rfl).trans (uF_ne (fun h => absurd h.2 (by decide)))))))))))))); omega, show u_115.2.1 273 = S.2.1 273 from (funext fun j => ((fu_115 273 rfl).2.1 j).trans (((fu_108 273 rfl).2.1 j).trans (((fu_99 273 rfl).2.1 j).trans ((uF_a).trans (((fu_87 273 rfl).2.1 j).trans (((fu_80 273 rfl).2.1 j).trans (((fu_71 273 rfl).2.1 j).trans ((uF_a).trans (((hL48_ 273 rfl).2.1 j).trans (((fu_59 273 rfl).2.1 j).trans (((fu_53 273 rfl).2.1 j).trans (uF_a)))))))))))), show u_115.2.1 274 = S.2.1 274 from (funext fun j => ((fu_115 274 rfl).2.1 j).trans (((fu_108 274 rfl).2.1 j).trans (((fu_99 274 rfl).2.1 j).trans ((uF_a).trans (((fu_87 274 rfl).2.1 j).trans (((fu_80 274 rfl).2.1 j).trans (((fu_71 274 rfl).2.1 j).trans ((uF_a).trans (((hL48_ 274 rfl).2.1 j).trans (((fu_59 274 rfl).2.1 j).trans (((fu_53 274 rfl).2.1 j).trans (uF_a)))))))))))), hbq.2.1, ptS_cg (g := pt) (fun b b0 b1 => (show nv (S.2.1 274) (0 + 8 * b) = pt b by rw [show (0 : Int) + 8 * b = 8 * b by omega]; exact hbq.2.2 b b0 b1)), show (uF S48 231 6 0).2.1 237 = S48.2.1 237 from (funext fun j => uF_a), hv48.1, show (uF u_87 231 6 0).2.1 238 = S48.2.1 238 from (funext fun j => (uF_a).trans (((fu_87 238 rfl).2.1 j).trans (((fu_80 238 rfl).2.1 j).trans (((fu_71 238 rfl).2.1 j).trans (uF_a))))), hv48.2, List.nil_append, List.nil_append]; unfold hdF hdO atT vaT; rw [if_pos (show S.1 231 79 = 1 by omega), tkn_ne (tkn_nn (by decide)), tkn_ne (tkn_nn (by decide))]; rfl)) hW hL (lv_sub hl [0] rfl)
    refine lv_aload_n hx hb dX12_finish_33 rfl (lv_at hl 0 rfl) ?_
    have q_131 : 0 ≤ S.1 231 49 ∧ S.1 231 49 ≤ 1 := hI.fi 49
    refine g_X12_474 Cx hW (k := 231) (by decide) rfl (v := S.1 231 49) ((gu_59 49 rfl).trans ((gu_53 49 rfl).trans (uF_ne (fun h => absurd h.2 (by decide))))) dX12_finish_34 ?_
    refine r_if_ne (tgt := 48) hx hb ⟨(by omega), (by omega)⟩ dX12_finish_37 (by decide) (fun c_132 => ?_) (fun c_132 => ?_)
    · exact join_48 u_59  _ _ _ iu_59 F_61 F_62 (Fr.rf : Fr u_59 u_59 (pl [237])) g_63 g_64 (FF.rf : FF u_59 u_59 (fl [])) xu_59.1 xu_59.2.1 (by have q := xu_59.2.2; rw [show u_53.2.1 272 = S.2.1 272 from (funext fun j => ((fu_53 272 rfl).2.1 j).trans (uF_a)), show u_53.2.1 273 = S.2.1 273 from (funext fun j => ((fu_53 273 rfl).2.1 j).trans (uF_a)), (show gc (absI (nv (S.2.1 273) 0)) (absI (nv (S.2.1 272) 0)) = (gc (absI bv) bd) by rw [hbq.1, hbq.2.1, absI_p (show 0 ≤ bd by have e8 := hBS.2.2.1; rw [hbq.2.1] at e8; omega), gc_cm]), hbq.1, hbq.2.1] at q; rw [if_pos (show mx = 1 by omega)]; exact q) hW hL (lv_sub hl [0] rfl)
    · refine lv_aload_n hx hb dX12_finish_40 rfl (lv_at hl 0 rfl) ?_
      refine g_X12_26 Cx hW (k := 231) (by decide) rfl (v := .ref (G.2.2.1 + 237)) (rd_7 iu_59) dX12_finish_41 ?_
      refine lv_iconst (v := iv 0) hx hb dX12_finish_44 (by decide) ?_
      refine sBv (sSt (As := [.ref (G.2.2.1 + 237), .int (iv 0)]) (rest := []) Cx (s_X12_negate l G u_59 (ka := 237) (po := 0) (Nka := 68) (La := 7) iu_59 ⟨rfl, by decide, by decide, by decide, rfl⟩ (by omega) xu_59.1) (c_X12_540 Cx rfl rfl (rmk_ok (by omega) (by decide))) hW rfl hl.1 rfl (Nat.le_of_ble_eq_true rfl) dX12_finish_45 ⟨Nat.le_of_ble_eq_true rfl, Nat.le_of_ble_eq_true rfl⟩) hL (fun u_133 H locs k_134 hW hL => ?_)
      obtain ⟨iu_133, fu_133, xu_133⟩ := k_134
      have F_135 := F_61.trans (fu_133.to (p1_sub rfl))
      have F_136 := F_62.trans (fu_133.to (p1_sub rfl))
      have F_137 := (Fr.rf : Fr u_59 u_59 (pl [237])).trans (fu_133.to (p1_sub rfl))
      have g_138 : FF S u_133 (fl [6, 61, 86]) := FF.fr g_63 fu_133 rfl
      have g_139 : FF ((uF S 231 86 0)) u_133 (fl [6, 86]) := FF.fr g_64 fu_133 rfl
      have g_140 : FF u_59 u_133 (fl []) := FF.fr (FF.rf : FF u_59 u_59 (fl [])) fu_133 rfl
      exact join_48 u_133  _ _ _ iu_133 F_135 F_136 F_137 g_138 g_139 g_140 xu_133.1 (by rw [show u_133.2.1 238 = u_59.2.1 238 from (funext fun j => (fu_133 238 rfl).2.1 j)]; exact xu_59.2.1) (by have q := xu_59.2.2; rw [show u_53.2.1 272 = S.2.1 272 from (funext fun j => ((fu_53 272 rfl).2.1 j).trans (uF_a)), show u_53.2.1 273 = S.2.1 273 from (funext fun j => ((fu_53 273 rfl).2.1 j).trans (uF_a)), (show gc (absI (nv (S.2.1 273) 0)) (absI (nv (S.2.1 272) 0)) = (gc (absI bv) bd) by rw [hbq.1, hbq.2.1, absI_p (show 0 ≤ bd by have e8 := hBS.2.2.1; rw [hbq.2.1] at e8; omega), gc_cm]), hbq.1, hbq.2.1] at q; rw [if_neg (show ¬ mx = 1 by omega), xu_133.2.1, show u_59.2.1 237 = u_59.2.1 237 from (funext fun j => rfl), q.1, show u_133.2.1 238 = u_59.2.1 238 from (funext fun j => (fu_133 238 rfl).2.1 j), q.2]; exact ⟨neg_dv (absI_d (gc_d (absI_0 _))), rfl⟩) hW hL (lv_sub hl [0] rfl)

set_option maxRecDepth 100000 in
set_option maxHeartbeats 4000000 in
theorem r_X12_ray (l : Launch) (G : sG) (S : sS) {n : Int} {d : dT} (hI : dX G S) (hM : MD S) (hD : DOK S) (hBO : BO S) (hnx : S.1 231 46 = n) (hRd : Hd (DRr S 0 d)) (hxi : Hd (dIx n 0 d)) (hpc : 1 ≤ S.1 231 72 ∧ S.1 231 72 ≤ S.1 231 59) : Met l yX12_ray (.code yX12_ray cX12_ray 2 none :: tb) (rmk 8 0 0) (sPc G 294 S [.ref (G.2.2.1 + 231)]) (sQv G 294 (fun u => dX G u ∧ Fr S u (pl [231, 233, 234, 235, 236, 237, 239, 240, 241, 242, 276, 280, 281]) ∧ FF S u (fl [6, 61, 86]) ∧ ((u.1 231 61 = 4 ∧ 0 ≤ u.1 231 86 ∧ u.1 231 86 ≤ 3000) ∧ Hd (LSr u 86 276 (hdU n d (S.1 231 72)))))) 0 0 (sF G) := by
  refine sEnter (by decide) (Nat.le_of_ble_eq_true rfl) ?_
  intro p e s m args below meth c Cx hr hlk hnm hW ls hl
  have Cx : sC G p m c cX12_ray 2 s args RX12 := Cx
  obtain ⟨hx, hb, hml, hown, hts⟩ := id Cx.1
  have hL : sL G [] := sL_nil
  have hl : lv_has ls 2 [(0, .ref (G.2.2.1 + 231))] := hl
  have hW0 := hW
  have hm1 : (0 ≤ S.1 231 46 ∧ S.1 231 46 ≤ 12) ∧ (0 ≤ S.1 231 47 ∧ S.1 231 47 ≤ 16) ∧ 0 ≤ S.1 231 63 ∧ S.1 231 63 ≤ 40 := hM
  have hd1 := hD.1
  have hr58 : S.1 231 58 = d.2.2.2.2.1 := hRd.2.2.2.2.1; have hr59 : S.1 231 59 = d.2.2.2.2.2 := hRd.2.2.2.2.2.1
  refine lv_aload_n hx hb dX12_ray_0 rfl (lv_at hl 0 rfl) ?_
  refine lv_iconst (v := iv 0) hx hb dX12_ray_1 (by decide) ?_
  refine p_X12_523 Cx hW hL (k := 231) (by decide) rfl dX12_ray_2 (fun H locs hW hL => ?_)
  have F_1 : Fr S (uF S 231 86 0) (pl [231, 233, 234, 235, 236, 237, 239, 240, 241, 242, 276, 280, 281]) := (Fr.rf : Fr S S (pl [231, 233, 234, 235, 236, 237, 239, 240, 241, 242, 276, 280, 281])).F rfl
  have g_2 : FF S (uF S 231 86 0) (fl [6, 61, 86]) := FF.F FF.rf rfl
  have i_3 : dX G (uF S 231 86 0) := hI.F (i := 86) (show (-2147483648) ≤ 0 ∧ 0 ≤ 2147483647 from ⟨by omega, by omega⟩)
  refine lv_iconst (v := iv 0) hx hb dX12_ray_5 (by decide) ?_
  refine lv_istore_n (lv' := [(1, .int (iv 0)), (0, .ref (G.2.2.1 + 231))]) hx hb dX12_ray_6 rfl hl (by decide) rfl (fun ls hl => ?_)
  have loop_7 : ∀ (fuel : Nat) (S7 : sS) (j : Int) (H : Heap) (locs : List Loc) (ls : Array Slot), (S.1 231 46 + 1 - j).toNat < fuel → (dX G S7) → (Fr S S7 (pl [231, 233, 234, 235, 236, 237, 239, 240, 241, 242, 276, 280, 281])) → (Fr ((uF S 231 86 0)) S7 (pl [281])) → (FF S S7 (fl [6, 61, 86])) → (FF ((uF S 231 86 0)) S7 (fl [])) → (0 ≤ j ∧ j ≤ S.1 231 46 + 1) → (∀ t, 0 ≤ t → t < j → S7.2.1 281 (8 * t) = 0) → sW G 294 S7 H → sL G locs → lv_has ls 2 [(1, .int (iv j)), (0, .ref (G.2.2.1 + 231))] → W p l e (rmk 8 0 0) s m args below meth c H locs 0 0 (MQ below (sQv G 294 (fun u => dX G u ∧ Fr S u (pl [231, 233, 234, 235, 236, 237, 239, 240, 241, 242, 276, 280, 281]) ∧ FF S u (fl [6, 61, 86]) ∧ ((u.1 231 61 = 4 ∧ 0 ≤ u.1 231 86 ∧ u.1 231 86 ≤ 3000) ∧ Hd (LSr u 86 276 (hdU n d (S.1 231 72)))))) args s 0 0 (sF G)) (F0 m 7 ls []) := by
    intro fuel
    induction fuel with
    | zero => intro S7 j H locs ls hmeas hI7 hFm7 hL7_ hGm7 gL7_ hj hz7 hW hL hl; exact absurd hmeas (Nat.not_lt_zero _)
    | succ fuel ih_7 =>
      intro S7 j H locs ls hmeas hI7 hFm7 hL7_ hGm7 gL7_ hj hz7 hW hL hl
      refine lv_iload_n hx hb dX12_ray_7 rfl (lv_at hl 0 rfl) ?_
      refine lv_aload_n hx hb dX12_ray_8 rfl (lv_at hl 1 rfl) ?_
      have q_4 : (-2147483648) ≤ S.1 231 46 ∧ S.1 231 46 ≤ 2147483647 := hI.fi 46
      refine g_X12_465 Cx hW (k := 231) (by decide) rfl (v := S.1 231 46) ((gL7_ 46 rfl).trans (uF_ne (fun h => absurd h.2 (by decide)))) dX12_ray_9 ?_
      refine r_icmp_gt (tgt := 31) hx hb ⟨(by omega), (by omega)⟩ ⟨(by omega), (by omega)⟩ dX12_ray_12 (by decide) (fun c_5 => ?_) (fun c_5 => ?_)
      · refine lv_iconst (v := iv 1) hx hb dX12_ray_31 (by decide) ?_
        refine lv_istore_n (lv' := [(1, .int (iv 1)), (0, .ref (G.2.2.1 + 231))]) hx hb dX12_ray_32 rfl hl (by decide) rfl (fun ls hl => ?_)
        have loop_33 : ∀ (fuel : Nat) (S33 : sS) (i : Int) (H : Heap) (locs : List Loc) (ls : Array Slot), (S.1 231 58 + 1 - i).toNat < fuel → (dX G S33) → (Fr S S33 (pl [231, 233, 234, 235, 236, 237, 239, 240, 241, 242, 276, 280, 281])) → (Fr S7 S33 (pl [281])) → (FF S S33 (fl [6, 61, 86])) → (FF S7 S33 (fl [])) → (1 ≤ i ∧ i ≤ S.1 231 58 + 1) → (∀ j, 0 ≤ j → j ≤ S.1 231 46 → NO (S33.2.1 281) (8 * j) 6) → (Hd (∀ b, 1 ≤ b → b ≤ S.1 231 46 → nv (S33.2.1 281) (8 * b) = rpV (fun i => d.2.1 i 0) d b (i - 1).toNat)) → sW G 294 S33 H → sL G locs → lv_has ls 2 [(1, .int (iv i)), (0, .ref (G.2.2.1 + 231))] → W p l e (rmk 8 0 0) s m args below meth c H locs 0 0 (MQ below (sQv G 294 (fun u => dX G u ∧ Fr S u (pl [231, 233, 234, 235, 236, 237, 239, 240, 241, 242, 276, 280, 281]) ∧ FF S u (fl [6, 61, 86]) ∧ ((u.1 231 61 = 4 ∧ 0 ≤ u.1 231 86 ∧ u.1 231 86 ≤ 3000) ∧ Hd (LSr u 86 276 (hdU n d (S.1 231 72)))))) args s 0 0 (sF G)) (F0 m 33 ls []) := by
          intro fuel
          induction fuel with
          | zero => intro S33 i H locs ls hmeas hI33 hFm33 hL33_ hGm33 gL33_ hi hz33 hv33 hW hL hl; exact absurd hmeas (Nat.not_lt_zero _)
          | succ fuel ih_33 =>
            intro S33 i H locs ls hmeas hI33 hFm33 hL33_ hGm33 gL33_ hi hz33 hv33 hW hL hl
            refine lv_iload_n hx hb dX12_ray_33 rfl (lv_at hl 0 rfl) ?_
            refine lv_aload_n hx hb dX12_ray_34 rfl (lv_at hl 1 rfl) ?_
            have q_6 : (-2147483648) ≤ S.1 231 58 ∧ S.1 231 58 ≤ 2147483647 := hI.fi 58
            refine g_X12_483 Cx hW (k := 231) (by decide) rfl (v := S.1 231 58) ((gL33_ 58 rfl).trans ((gL7_ 58 rfl).trans (uF_ne (fun h => absurd h.2 (by decide))))) dX12_ray_35 ?_
            refine r_icmp_gt (tgt := 98) hx hb ⟨(by omega), (by omega)⟩ ⟨(by omega), (by omega)⟩ dX12_ray_38 (by decide) (fun c_7 => ?_) (fun c_7 => ?_)
            · have hpt9 : Hd (∀ b, 1 ≤ b → b ≤ S.1 231 46 → nv (S33.2.1 281) (8 * b) = ptB d b) := fun b b0 b1 => by have y := hv33 b b0 b1; rw [show i - 1 = d.2.2.2.2.1 by omega] at y; exact y
              refine lv_aload_n hx hb dX12_ray_98 rfl (lv_at hl 1 rfl) ?_
              refine zLdcw Cx 34 (by decide) ⟨rfl, rfl⟩ dX12_ray_99 ?_
              have lk_8 : S33.1 231 86 = 0 := (gL33_ 86 rfl).trans ((gL7_ 86 rfl).trans (uF_on))
              refine sBv (sV (As := [.ref (G.1.2 100 34)]) (rest := []) (k := 231) Cx (r_X12_say l G S33 (si := 34) (T := ([])) hI33 (by decide) (by omega) (LSr.of (LSr.nil uF_on) ((gL33_ 86 rfl).trans (gL7_ 86 rfl)) (funext fun x => ((hL33_ 276 rfl).2.1 x).trans ((hL7_ 276 rfl).2.1 x)))) (c_X12_666 Cx rfl rfl (rmk_ok (by omega) (by decide))) hW (by decide) rfl rfl rfl hl.1 rfl (Nat.le_of_ble_eq_true rfl) dX12_ray_102 ⟨Nat.le_of_ble_eq_true rfl, Nat.le_of_ble_eq_true rfl⟩) hL (fun u_9 H locs k_10 hW hL => ?_)
              obtain ⟨iu_9, fu_9, gu_9, xu_9⟩ := k_10
              have F_11 := hFm33.trans (fu_9.to (pl_sub (by decide)))
              have g_12 : FF S u_9 (fl [6, 61, 86]) := FF.trans hGm33 (FF.to gu_9 (fl_sub (by decide)))
              have hsu_9 : ((strN.getD 34 0 : Nat) : Int) = 9 := rfl
              refine lv_aload_n hx hb dX12_ray_105 rfl (lv_at hl 1 rfl) ?_
              refine zLdcw Cx 29 (by decide) ⟨rfl, rfl⟩ dX12_ray_106 ?_
              have q_14 : (-2147483648) ≤ u_9.1 231 86 ∧ u_9.1 231 86 ≤ 2147483647 := iu_9.fi 86
              refine sBv (sV (As := [.ref (G.1.2 100 29)]) (rest := []) (k := 231) Cx (r_X12_say l G u_9 (si := 29) (T := (tkn (([])) (strB.getD 34 []))) iu_9 (by decide) (by omega) xu_9.2.2) (c_X12_666 Cx rfl rfl (rmk_ok (by omega) (by decide))) hW (by decide) rfl rfl rfl hl.1 rfl (Nat.le_of_ble_eq_true rfl) dX12_ray_109 ⟨Nat.le_of_ble_eq_true rfl, Nat.le_of_ble_eq_true rfl⟩) hL (fun u_15 H locs k_16 hW hL => ?_)
              obtain ⟨iu_15, fu_15, gu_15, xu_15⟩ := k_16
              have F_17 := F_11.trans (fu_15.to (pl_sub (by decide)))
              have g_18 : FF S u_15 (fl [6, 61, 86]) := FF.trans g_12 (FF.to gu_15 (fl_sub (by decide)))
              have hsu_15 : ((strN.getD 29 0 : Nat) : Int) = 2 := rfl
              refine lv_aload_n hx hb dX12_ray_112 rfl (lv_at hl 1 rfl) ?_
              refine lv_aload_n hx hb dX12_ray_113 rfl (lv_at hl 1 rfl) ?_
              refine g_X12_163 Cx hW (k := 231) (by decide) rfl (v := .ref (G.2.2.1 + 281)) (rd_91 iu_15) dX12_ray_114 ?_
              refine lv_iconst (v := iv 0) hx hb dX12_ray_117 (by decide) ?_
              refine lv_aload_n hx hb dX12_ray_118 rfl (lv_at hl 1 rfl) ?_
              refine g_X12_109 Cx hW (k := 231) (by decide) rfl (v := .ref (G.2.2.1 + 264)) (rd_55 iu_15) dX12_ray_119 ?_
              refine lv_iconst (v := iv 0) hx hb dX12_ray_122 (by decide) ?_
              have lk_19 : u_15.1 231 46 = S.1 231 46 := (gu_15 46 rfl).trans ((gu_9 46 rfl).trans ((gL33_ 46 rfl).trans ((gL7_ 46 rfl).trans (uF_ne (fun h => absurd h.2 (by decide))))))
              have q_20 : (-2147483648) ≤ u_15.1 231 86 ∧ u_15.1 231 86 ≤ 2147483647 := iu_15.fi 86
              refine sBv (sV (As := [.ref (G.2.2.1 + 281), .int (iv 0), .ref (G.2.2.1 + 264), .int (iv 0)]) (rest := []) (k := 231) Cx (r_X12_sayPoint l G u_15 (ka := 281) (po := 0) (kb := 264) (qo := 0) (Nka := 104) (Nkb := 8) (T := (tkn ((tkn (([])) (strB.getD 34 []))) (strB.getD 29 []))) iu_15 ⟨rfl, by decide, by decide, by decide, rfl⟩ ⟨rfl, by decide, by decide, by decide, rfl⟩ xu_15.2.2 (tkn_nn (by decide)) (show (281 : Nat) ≠ 231 by decide) (show (281 : Nat) ≠ 233 by decide) (show (281 : Nat) ≠ 234 by decide) (show (281 : Nat) ≠ 235 by decide) (show (281 : Nat) ≠ 236 by decide) (show (281 : Nat) ≠ 237 by decide) (show (281 : Nat) ≠ 239 by decide) (show (281 : Nat) ≠ 240 by decide) (show (281 : Nat) ≠ 241 by decide) (show (281 : Nat) ≠ 242 by decide) (show (281 : Nat) ≠ 276 by decide) (show (281 : Nat) ≠ 280 by decide) (show (264 : Nat) ≠ 231 by decide) (show (264 : Nat) ≠ 233 by decide) (show (264 : Nat) ≠ 234 by decide) (show (264 : Nat) ≠ 235 by decide) (show (264 : Nat) ≠ 236 by decide) (show (264 : Nat) ≠ 237 by decide) (show (264 : Nat) ≠ 239 by decide) (show (264 : Nat) ≠ 240 by decide) (show (264 : Nat) ≠ 241 by decide) (show (264 : Nat) ≠ 242 by decide) (show (264 : Nat) ≠ 276 by decide) (show (264 : Nat) ≠ 280 by decide) (by omega) (MD.sm (S := S) (u := u_15) hM ((gu_15 46 rfl).trans ((gu_9 46 rfl).trans ((gL33_ 46 rfl).trans ((gL7_ 46 rfl).trans (uF_ne (fun h => absurd h.2 (by decide))))))) ((gu_15 47 rfl).trans ((gu_9 47 rfl).trans ((gL33_ 47 rfl).trans ((gL7_ 47 rfl).trans (uF_ne (fun h => absurd h.2 (by decide))))))) ((gu_15 63 rfl).trans ((gu_9 63 rfl).trans ((gL33_ 63 rfl).trans ((gL7_ 63 rfl).trans (uF_ne (fun h => absurd h.2 (by decide)))))))) (fun j a b => by rw [show u_15.2.1 281 = S33.2.1 281 from (funext fun j => ((fu_15 281 rfl).2.1 j).trans ((fu_9 281 rfl).2.1 j)), show (0 : Int) + 8 * j = 8 * j by omega]; exact hz33 j (by omega) (by have e8 := (show u_15.1 231 46 = S.1 231 46 from (gu_15 46 rfl).trans ((gu_9 46 rfl).trans ((gL33_ 46 rfl).trans ((gL7_ 46 rfl).trans (uF_ne (fun h => absurd h.2 (by decide))))))); omega)) (by rw [show u_15.2.1 264 = S.2.1 264 from (funext fun j => ((fu_15 264 rfl).2.1 j).trans (((fu_9 264 rfl).2.1 j).trans (((hL33_ 264 rfl).2.1 j).trans (((hL7_ 264 rfl).2.1 j).trans (uF_a)))))]; exact hD.2.2.1) (by rw [show u_15.2.1 264 = S.2.1 264 from (funext fun j => ((fu_15 264 rfl).2.1 j).trans (((fu_9 264 rfl).2.1 j).trans (((hL33_ 264 rfl).2.1 j).trans (((hL7_ 264 rfl).2.1 j).trans (uF_a)))))]; exact hD.2.2.2) (by omega)) (c_X12_675 Cx rfl rfl (rmk_ok (by omega) (by decide))) hW (by decide) rfl rfl rfl hl.1 rfl (Nat.le_of_ble_eq_true rfl) dX12_ray_123 ⟨Nat.le_of_ble_eq_true rfl, Nat.le_of_ble_eq_true rfl⟩) hL (fun u_21 H locs k_22 hW hL => ?_)
              obtain ⟨iu_21, fu_21, gu_21, xu_21⟩ := k_22
              have F_23 := F_17.trans (fu_21.to (pl_sub (by decide)))
              have g_24 : FF S u_21 (fl [6, 61, 86]) := FF.trans g_18 (FF.to gu_21 (fl_sub (by decide)))
              refine lv_aload_n hx hb dX12_ray_126 rfl (lv_at hl 1 rfl) ?_
              refine zLdcw Cx 35 (by decide) ⟨rfl, rfl⟩ dX12_ray_127 ?_
              have q_25 : (-2147483648) ≤ u_21.1 231 86 ∧ u_21.1 231 86 ≤ 2147483647 := iu_21.fi 86
              refine sBv (sV (As := [.ref (G.1.2 100 35)]) (rest := []) (k := 231) Cx (r_X12_say l G u_21 (si := 35) (T := (ptS (u_15.1 231 46) (fun b => nv (u_15.2.1 281) (0 + 8 * b)) (nv (u_15.2.1 264) 0) ((tkn ((tkn (([])) (strB.getD 34 []))) (strB.getD 29 []))))) iu_21 (by decide) (by omega) xu_21.2.2) (c_X12_666 Cx rfl rfl (rmk_ok (by omega) (by decide))) hW (by decide) rfl rfl rfl hl.1 rfl (Nat.le_of_ble_eq_true rfl) dX12_ray_130 ⟨Nat.le_of_ble_eq_true rfl, Nat.le_of_ble_eq_true rfl⟩) hL (fun u_26 H locs k_27 hW hL => ?_)
              obtain ⟨iu_26, fu_26, gu_26, xu_26⟩ := k_27
              have F_28 := F_23.trans (fu_26.to (pl_sub (by decide)))
              have g_29 : FF S u_26 (fl [6, 61, 86]) := FF.trans g_24 (FF.to gu_26 (fl_sub (by decide)))
              have hsu_26 : ((strN.getD 35 0 : Nat) : Int) = 5 := rfl
              refine lv_iconst (v := iv 1) hx hb dX12_ray_133 (by decide) ?_
              refine lv_istore_n (lv' := [(1, .int (iv 1)), (0, .ref (G.2.2.1 + 231))]) hx hb dX12_ray_134 rfl hl (by decide) rfl (fun ls hl => ?_)
              have loop_135 : ∀ (fuel : Nat) (S135 : sS) (j : Int) (H : Heap) (locs : List Loc) (ls : Array Slot), (S.1 231 46 + 1 - j).toNat < fuel → (dX G S135) → (Fr S S135 (pl [231, 233, 234, 235, 236, 237, 239, 240, 241, 242, 276, 280, 281])) → (Fr u_26 S135 (pl [281])) → (FF S S135 (fl [6, 61, 86])) → (FF u_26 S135 (fl [])) → (1 ≤ j ∧ j ≤ S.1 231 46 + 1) → (∀ t, 1 ≤ t → t < j → S135.2.1 281 (8 * t) = 0) → sW G 294 S135 H → sL G locs → lv_has ls 2 [(1, .int (iv j)), (0, .ref (G.2.2.1 + 231))] → W p l e (rmk 8 0 0) s m args below meth c H locs 0 0 (MQ below (sQv G 294 (fun u => dX G u ∧ Fr S u (pl [231, 233, 234, 235, 236, 237, 239, 240, 241, 242, 276, 280, 281]) ∧ FF S u (fl [6, 61, 86]) ∧ ((u.1 231 61 = 4 ∧ 0 ≤ u.1 231 86 ∧ u.1 231 86 ≤ 3000) ∧ Hd (LSr u 86 276 (hdU n d (S.1 231 72)))))) args s 0 0 (sF G)) (F0 m 135 ls []) := by
                intro fuel
                induction fuel with
                | zero => intro S135 j H locs ls hmeas hI135 hFm135 hL135_ hGm135 gL135_ hj hz135 hW hL hl; exact absurd hmeas (Nat.not_lt_zero _)
                | succ fuel ih_135 =>
                  intro S135 j H locs ls hmeas hI135 hFm135 hL135_ hGm135 gL135_ hj hz135 hW hL hl
                  refine lv_iload_n hx hb dX12_ray_135 rfl (lv_at hl 0 rfl) ?_
                  refine lv_aload_n hx hb dX12_ray_136 rfl (lv_at hl 1 rfl) ?_
                  refine g_X12_465 Cx hW (k := 231) (by decide) rfl (v := S.1 231 46) ((gL135_ 46 rfl).trans ((gu_26 46 rfl).trans ((gu_21 46 rfl).trans ((gu_15 46 rfl).trans ((gu_9 46 rfl).trans ((gL33_ 46 rfl).trans ((gL7_ 46 rfl).trans (uF_ne (fun h => absurd h.2 (by decide)))))))))) dX12_ray_137 ?_
                  refine r_icmp_gt (tgt := 159) hx hb ⟨(by omega), (by omega)⟩ ⟨(by omega), (by omega)⟩ dX12_ray_140 (by decide) (fun c_30 => ?_) (fun c_30 => ?_)
                  · refine lv_iconst (v := iv 1) hx hb dX12_ray_159 (by decide) ?_
                    refine lv_istore_n (lv' := [(1, .int (iv 1)), (0, .ref (G.2.2.1 + 231))]) hx hb dX12_ray_160 rfl hl (by decide) rfl (fun ls hl => ?_)
                    have loop_161 : ∀ (fuel : Nat) (S161 : sS) (i : Int) (H : Heap) (locs : List Loc) (ls : Array Slot), (S.1 231 58 + 1 - i).toNat < fuel → (dX G S161) → (Fr S S161 (pl [231, 233, 234, 235, 236, 237, 239, 240, 241, 242, 276, 280, 281])) → (Fr S135 S161 (pl [281])) → (FF S S161 (fl [6, 61, 86])) → (FF S135 S161 (fl [])) → (1 ≤ i ∧ i ≤ S.1 231 58 + 1) → (∀ j, 1 ≤ j → j ≤ S.1 231 46 → NO (S161.2.1 281) (8 * j) 6) → (Hd (∀ b, 1 ≤ b → b ≤ S.1 231 46 → nv (S161.2.1 281) (8 * b) = rpV (fun i => -(d.2.1 i (S.1 231 72))) d b (i - 1).toNat)) → sW G 294 S161 H → sL G locs → lv_has ls 2 [(1, .int (iv i)), (0, .ref (G.2.2.1 + 231))] → W p l e (rmk 8 0 0) s m args below meth c H locs 0 0 (MQ below (sQv G 294 (fun u => dX G u ∧ Fr S u (pl [231, 233, 234, 235, 236, 237, 239, 240, 241, 242, 276, 280, 281]) ∧ FF S u (fl [6, 61, 86]) ∧ ((u.1 231 61 = 4 ∧ 0 ≤ u.1 231 86 ∧ u.1 231 86 ≤ 3000) ∧ Hd (LSr u 86 276 (hdU n d (S.1 231 72)))))) args s 0 0 (sF G)) (F0 m 161 ls []) := by
                      intro fuel
                      induction fuel with
                      | zero => intro S161 i H locs ls hmeas hI161 hFm161 hL161_ hGm161 gL161_ hi hz161 hv161 hW hL hl; exact absurd hmeas (Nat.not_lt_zero _)
                      | succ fuel ih_161 =>
                        intro S161 i H locs ls hmeas hI161 hFm161 hL161_ hGm161 gL161_ hi hz161 hv161 hW hL hl
                        refine lv_iload_n hx hb dX12_ray_161 rfl (lv_at hl 0 rfl) ?_
                        refine lv_aload_n hx hb dX12_ray_162 rfl (lv_at hl 1 rfl) ?_
                        refine g_X12_483 Cx hW (k := 231) (by decide) rfl (v := S.1 231 58) ((gL161_ 58 rfl).trans ((gL135_ 58 rfl).trans ((gu_26 58 rfl).trans ((gu_21 58 rfl).trans ((gu_15 58 rfl).trans ((gu_9 58 rfl).trans ((gL33_ 58 rfl).trans ((gL7_ 58 rfl).trans (uF_ne (fun h => absurd h.2 (by decide))))))))))) dX12_ray_163 ?_
                        refine r_icmp_gt (tgt := 248) hx hb ⟨(by omega), (by omega)⟩ ⟨(by omega), (by omega)⟩ dX12_ray_166 (by decide) (fun c_31 => ?_) (fun c_31 => ?_)
                        · have join_301 : ∀ (S301 : sS)  (H : Heap) (locs : List Loc) (ls : Array Slot), (dX G S301) → (Fr S S301 (pl [231, 233, 234, 235, 236, 237, 239, 240, 241, 242, 276, 280, 281])) → (Fr S135 S301 (pl [281])) → (Fr S161 S301 (pl [281])) → (FF S S301 (fl [6, 61, 86])) → (FF S135 S301 (fl [])) → (FF S161 S301 (fl [])) → (∀ j, 1 ≤ j → j ≤ S.1 231 46 → NO (S301.2.1 281) (8 * j) 6) → (Hd (∀ b, 1 ≤ b → b ≤ S.1 231 46 → nv (S301.2.1 281) (8 * b) = rayV d (S.1 231 72) b)) → sW G 294 S301 H → sL G locs → lv_has ls 2 [(1, .int (iv i)), (0, .ref (G.2.2.1 + 231))] → W p l e (rmk 8 0 0) s m args below meth c H locs 0 0 (MQ below (sQv G 294 (fun u => dX G u ∧ Fr S u (pl [231, 233, 234, 235, 236, 237, 239, 240, 241, 242, 276, 280, 281]) ∧ FF S u (fl [6, 61, 86]) ∧ ((u.1 231 61 = 4 ∧ 0 ≤ u.1 231 86 ∧ u.1 231 86 ≤ 3000) ∧ Hd (LSr u 86 276 (hdU n d (S.1 231 72)))))) args s 0 0 (sF G)) (F0 m 301 ls []) := by
                            intro S301  H locs ls hI301 hFm301 hFL161301 hL301_ hGm301 hGL161301 gL301_ hz301 hv301 hW hL hl
                            refine lv_iconst (v := iv 1) hx hb dX12_ray_301 (by decide) ?_
                            refine lv_istore_n (lv' := [(1, .int (iv 1)), (0, .ref (G.2.2.1 + 231))]) hx hb dX12_ray_302 rfl hl (by decide) rfl (fun ls hl => ?_)
                            have loop_303 : ∀ (fuel : Nat) (S303 : sS) (j : Int) (H : Heap) (locs : List Loc) (ls : Array Slot), (S.1 231 46 + 1 - j).toNat < fuel → (dX G S303) → (Fr S S303 (pl [231, 233, 234, 235, 236, 237, 239, 240, 241, 242, 276, 280, 281])) → (Fr S301 S303 (pl [231, 236, 276])) → (FF S S303 (fl [6, 61, 86])) → (FF S301 S303 (fl [6, 86])) → (1 ≤ j ∧ j ≤ S.1 231 46 + 1) → (0 ≤ S303.1 231 86 ∧ S303.1 231 86 ≤ 1000 + 60 * (j - 1)) → (Hd (LSr S303 86 276 (ptsT (rayV d (S.1 231 72)) (tkn (ptS n (ptB d) d.1 (tkn (tkn [] wUn) wAt)) wAl) (j - 1).toNat))) → sW G 294 S303 H → sL G locs → lv_has ls 2 [(1, .int (iv j)), (0, .ref (G.2.2.1 + 231))] → W p l e (rmk 8 0 0) s m args below meth c H locs 0 0 (MQ below (sQv G 294 (fun u => dX G u ∧ Fr S u (pl [231, 233, 234, 235, 236, 237, 239, 240, 241, 242, 276, 280, 281]) ∧ FF S u (fl [6, 61, 86]) ∧ ((u.1 231 61 = 4 ∧ 0 ≤ u.1 231 86 ∧ u.1 231 86 ≤ 3000) ∧ Hd (LSr u 86 276 (hdU n d (S.1 231 72)))))) args s 0 0 (sF G)) (F0 m 303 ls []) := by
                              intro fuel
                              induction fuel with
                              | zero => intro S303 j H locs ls hmeas hI303 hFm303 hL303_ hGm303 gL303_ hj h303 l303 hW hL hl; exact absurd hmeas (Nat.not_lt_zero _)
                              | succ fuel ih_303 =>
                                intro S303 j H locs ls hmeas hI303 hFm303 hL303_ hGm303 gL303_ hj h303 l303 hW hL hl
                                refine lv_iload_n hx hb dX12_ray_303 rfl (lv_at hl 0 rfl) ?_
                                refine lv_aload_n hx hb dX12_ray_304 rfl (lv_at hl 1 rfl) ?_
                                refine g_X12_465 Cx hW (k := 231) (by decide) rfl (v := S.1 231 46) ((gL303_ 46 rfl).trans ((gL301_ 46 rfl).trans ((gL161_ 46 rfl).trans ((gL135_ 46 rfl).trans ((gu_26 46 rfl).trans ((gu_21 46 rfl).trans ((gu_15 46 rfl).trans ((gu_9 46 rfl).trans ((gL33_ 46 rfl).trans ((gL7_ 46 rfl).trans (uF_ne (fun h => absurd h.2 (by decide))))))))))))) dX12_ray_305 ?_
                                refine r_icmp_gt (tgt := 338) hx hb ⟨(by omega), (by omega)⟩ ⟨(by omega), (by omega)⟩ dX12_ray_308 (by decide) (fun c_32 => ?_) (fun c_32 => ?_)
                                · refine lv_aload_n hx hb dX12_ray_338 rfl (lv_at hl 1 rfl) ?_
                                  refine zLdcw Cx 28 (by decide) ⟨rfl, rfl⟩ dX12_ray_339 ?_
                                  have q_33 : (-2147483648) ≤ S303.1 231 86 ∧ S303.1 231 86 ≤ 2147483647 := hI303.fi 86
                                  refine sBv (sV (As := [.ref (G.1.2 100 28)]) (rest := []) (k := 231) Cx (r_X12_say l G S303 (si := 28) (T := (ptsT (rayV d (S.1 231 72)) (tkn (ptS n (ptB d) d.1 (tkn (tkn [] wUn) wAt)) wAl) (j - 1).toNat)) hI303 (by decide) (by omega) l303) (c_X12_666 Cx rfl rfl (rmk_ok (by omega) (by decide))) hW (by decide) rfl rfl rfl hl.1 rfl (Nat.le_of_ble_eq_true rfl) dX12_ray_342 ⟨Nat.le_of_ble_eq_true rfl, Nat.le_of_ble_eq_true rfl⟩) hL (fun u_34 H locs k_35 hW hL => ?_)
                                  obtain ⟨iu_34, fu_34, gu_34, xu_34⟩ := k_35
                                  have F_36 := hFm303.trans (fu_34.to (pl_sub (by decide)))
                                  have F_37 := hL303_.trans (fu_34.to (pl_sub (by decide)))
                                  have g_38 : FF S u_34 (fl [6, 61, 86]) := FF.trans hGm303 (FF.to gu_34 (fl_sub (by decide)))
                                  have g_39 : FF S301 u_34 (fl [6, 86]) := FF.trans gL303_ (FF.to gu_34 (fl_sub (by decide)))
                                  have hsu_34 : ((strN.getD 28 0 : Nat) : Int) = 1 := rfl
                                  refine lv_aload_n hx hb dX12_ray_345 rfl (lv_at hl 1 rfl) ?_
                                  refine zLdcw Cx 36 (by decide) ⟨rfl, rfl⟩ dX12_ray_346 ?_
                                  have q_40 : (-2147483648) ≤ u_34.1 231 86 ∧ u_34.1 231 86 ≤ 2147483647 := iu_34.fi 86
                                  refine sBv (sV (As := [.ref (G.1.2 100 36)]) (rest := []) (k := 231) Cx (r_X12_say l G u_34 (si := 36) (T := (tkn ((ptsT (rayV d (S.1 231 72)) (tkn (ptS n (ptB d) d.1 (tkn (tkn [] wUn) wAt)) wAl) (j - 1).toNat)) (strB.getD 28 []))) iu_34 (by decide) (by omega) xu_34.2.2) (c_X12_666 Cx rfl rfl (rmk_ok (by omega) (by decide))) hW (by decide) rfl rfl rfl hl.1 rfl (Nat.le_of_ble_eq_true rfl) dX12_ray_349 ⟨Nat.le_of_ble_eq_true rfl, Nat.le_of_ble_eq_true rfl⟩) hL (fun u_41 H locs k_42 hW hL => ?_)
                                  obtain ⟨iu_41, fu_41, gu_41, xu_41⟩ := k_42
                                  have F_43 := F_36.trans (fu_41.to (pl_sub (by decide)))
                                  have F_44 := F_37.trans (fu_41.to (pl_sub (by decide)))
                                  have g_45 : FF S u_41 (fl [6, 61, 86]) := FF.trans g_38 (FF.to gu_41 (fl_sub (by decide)))
                                  have g_46 : FF S301 u_41 (fl [6, 86]) := FF.trans g_39 (FF.to gu_41 (fl_sub (by decide)))
                                  have hsu_41 : ((strN.getD 36 0 : Nat) : Int) = 1 := rfl
                                  refine lv_aload_n hx hb dX12_ray_352 rfl (lv_at hl 1 rfl) ?_
                                  refine lv_iconst (v := iv 4) hx hb dX12_ray_353 (by decide) ?_
                                  refine p_X12_477 Cx hW hL (k := 231) (by decide) rfl dX12_ray_354 (fun H locs hW hL => ?_)
                                  have F_47 : Fr S (uF u_41 231 61 4) (pl [231, 233, 234, 235, 236, 237, 239, 240, 241, 242, 276, 280, 281]) := F_43.F rfl
                                  have F_48 : Fr S301 (uF u_41 231 61 4) (pl [231, 236, 276]) := F_44.F rfl
                                  have g_49 : FF S (uF u_41 231 61 4) (fl [6, 61, 86]) := FF.F g_45 rfl
                                  have i_50 : dX G (uF u_41 231 61 4) := iu_41.F (i := 61) (show (-2147483648) ≤ 4 ∧ 4 ≤ 2147483647 from ⟨by omega, by omega⟩)
                                  have lk_51 : (uF u_41 231 61 4).1 231 61 = 4 := uF_on
                                  have q_52 : (-2147483648) ≤ u_41.1 231 86 ∧ u_41.1 231 86 ≤ 2147483647 := iu_41.fi 86
                                  have lk_53 : (uF u_41 231 61 4).1 231 86 = u_41.1 231 86 := uF_ne (fun h => absurd h.2 (by decide))
                                  exact sVret Cx hr hlk hW hL ⟨i_50, F_47, g_49, ⟨⟨by omega, by omega, by omega⟩, (LSr.eq (LSr.of xu_41.2.2 (uF_ne (fun h => absurd h.2 (by decide))) (funext fun x => uF_a)) (by rw [show j - 1 = n by omega]; rfl))⟩⟩ dX12_ray_357
                                · refine lv_aload_n hx hb dX12_ray_311 rfl (lv_at hl 1 rfl) ?_
                                  refine lv_iconst (v := iv 0) hx hb dX12_ray_312 (by decide) ?_
                                  refine p_X12_259 Cx hW hL (k := 231) (by decide) rfl dX12_ray_313 (fun H locs hW hL => ?_)
                                  have F_54 : Fr S (uF S303 231 6 0) (pl [231, 233, 234, 235, 236, 237, 239, 240, 241, 242, 276, 280, 281]) := hFm303.F rfl
                                  have F_55 : Fr S301 (uF S303 231 6 0) (pl [231, 236, 276]) := hL303_.F rfl
                                  have g_56 : FF S (uF S303 231 6 0) (fl [6, 61, 86]) := FF.F hGm303 rfl
                                  have g_57 : FF S301 (uF S303 231 6 0) (fl [6, 86]) := FF.F gL303_ rfl
                                  have i_58 : dX G (uF S303 231 6 0) := hI303.F (i := 6) (show (-2147483648) ≤ 0 ∧ 0 ≤ 2147483647 from ⟨by omega, by omega⟩)
                                  refine lv_aload_n hx hb dX12_ray_316 rfl (lv_at hl 1 rfl) ?_
                                  refine lv_aload_n hx hb dX12_ray_317 rfl (lv_at hl 1 rfl) ?_
                                  refine g_X12_163 Cx hW (k := 231) (by decide) rfl (v := .ref (G.2.2.1 + 281)) (rd_91 i_58) dX12_ray_318 ?_
                                  refine lv_bipush (v := iv 8) hx hb dX12_ray_321 (by decide) ?_
                                  refine lv_iload_n hx hb dX12_ray_323 rfl (lv_at hl 0 rfl) ?_
                                  refine r_imul hx hb dX12_ray_324 ?_
                                  have lk_59 : (uF S303 231 6 0).1 231 6 = 0 := uF_on
                                  refine sBv (sV (As := [.ref (G.2.2.1 + 281), .int (iv (8 * j))]) (rest := []) (k := 231) Cx (r_X12_spell l G (uF S303 231 6 0) (ka := 281) (po := 8 * j) (Nka := 104) (La := 6) (L := ([])) i_58 ⟨rfl, by decide, by decide, by decide, rfl⟩ (by omega) (by omega) (by rw [show (uF S303 231 6 0).2.1 281 = S301.2.1 281 from (funext fun j => (uF_a).trans ((hL303_ 281 rfl).2.1 j))]; exact hz301 j (by omega) (by omega)) (show (281 : Nat) ≠ 231 by decide) (show (281 : Nat) ≠ 236 by decide) (LSr.nil uF_on)) (c_X12_594 Cx rfl rfl (rmk_ok (by omega) (by decide))) hW (by decide) rfl rfl rfl hl.1 rfl (Nat.le_of_ble_eq_true rfl) dX12_ray_325 ⟨Nat.le_of_ble_eq_true rfl, Nat.le_of_ble_eq_true rfl⟩) hL (fun u_60 H locs k_61 hW hL => ?_)
                                  obtain ⟨iu_60, fu_60, gu_60, xu_60⟩ := k_61
                                  have F_62 := F_54.trans (fu_60.to (pl_sub (by decide)))
                                  have F_63 := F_55.trans (fu_60.to (pl_sub (by decide)))
                                  have g_64 : FF S u_60 (fl [6, 61, 86]) := FF.trans g_56 (FF.to gu_60 (fl_sub (by decide)))
                                  have g_65 : FF S301 u_60 (fl [6, 86]) := FF.trans g_57 (FF.to gu_60 (fl_sub (by decide)))
                                  refine lv_aload_n hx hb dX12_ray_328 rfl (lv_at hl 1 rfl) ?_
                                  have q_66 : (-2147483648) ≤ S303.1 231 86 ∧ S303.1 231 86 ≤ 2147483647 := hI303.fi 86
                                  have lk_67 : u_60.1 231 86 = S303.1 231 86 := (gu_60 86 rfl).trans (uF_ne (fun h => absurd h.2 (by decide)))
                                  have q_68 : (-2147483648) ≤ u_60.1 231 6 ∧ u_60.1 231 6 ≤ 2147483647 := iu_60.fi 6
                                  refine sBv (sV (As := []) (rest := []) (k := 231) Cx (r_X12_sayLetters l G u_60 (T := (ptsT (rayV d (S.1 231 72)) (tkn (ptS n (ptB d) d.1 (tkn (tkn [] wUn) wAt)) wAl) (j - 1).toNat)) (L := ((([])) ++ nmT (nv ((uF S303 231 6 0).2.1 281) (8 * j)))) iu_60 (by omega) (by omega) xu_60.2.2 (LSr.of l303 ((gu_60 86 rfl).trans (uF_ne (fun h => absurd h.2 (by decide)))) (funext fun x => ((fu_60 276 rfl).2.1 x).trans (uF_a)))) (c_X12_661 Cx rfl rfl (rmk_ok (by omega) (by decide))) hW (by decide) rfl rfl rfl hl.1 rfl (Nat.le_of_ble_eq_true rfl) dX12_ray_329 ⟨Nat.le_of_ble_eq_true rfl, Nat.le_of_ble_eq_true rfl⟩) hL (fun u_69 H locs k_70 hW hL => ?_)
                                  obtain ⟨iu_69, fu_69, gu_69, xu_69⟩ := k_70
                                  have F_71 := F_62.trans (fu_69.to (pl_sub (by decide)))
                                  have F_72 := F_63.trans (fu_69.to (pl_sub (by decide)))
                                  have g_73 : FF S u_69 (fl [6, 61, 86]) := FF.trans g_64 (FF.to gu_69 (fl_sub (by decide)))
                                  have g_74 : FF S301 u_69 (fl [6, 86]) := FF.trans g_65 (FF.to gu_69 (fl_sub (by decide)))
                                  refine lv_iinc (v := iv (j + 1)) (lv' := [(1, .int (iv (j + 1))), (0, .ref (G.2.2.1 + 231))]) hx hb dX12_ray_332 hl (k := 0) rfl ((Int32.ofInt_add _ _).symm) (by decide) rfl (fun ls hl => ?_)
                                  refine lv_goto (tgt := 303) hx hb dX12_ray_335 (by decide) ?_
                                  have q_75 : (-2147483648) ≤ u_69.1 231 86 ∧ u_69.1 231 86 ≤ 2147483647 := iu_69.fi 86
                                  exact ih_303 u_69 (j + 1) _ _ _ (by omega) iu_69 F_71 F_72 g_73 g_74 (by omega) (by omega) (LSr.eq xu_69.2 (by rw [List.nil_append, show (uF S303 231 6 0).2.1 281 = S301.2.1 281 from (funext fun j => (uF_a).trans ((hL303_ 281 rfl).2.1 j)), show nv (S301.2.1 281) (8 * j) = _ from hv301 j (by omega) (by omega), ptsT_s (by omega)]; exact tkn_ne (ptsT_nn (tkn_nn (by decide)) _))) hW hL (lv_sub hl [0, 1] rfl)
                            have q_76 : (-2147483648) ≤ u_26.1 231 86 ∧ u_26.1 231 86 ≤ 2147483647 := iu_26.fi 86
                            have lk_77 : S301.1 231 86 = u_26.1 231 86 := (gL301_ 86 rfl).trans ((gL161_ 86 rfl).trans (gL135_ 86 rfl))
                            exact loop_303 (_ + 1) S301 1 _ _ _ (Nat.lt_succ_self _) hI301 hFm301 Fr.rf hGm301 FF.rf (by omega) (by omega) (LSr.eq (LSr.of xu_26.2.2 ((gL301_ 86 rfl).trans ((gL161_ 86 rfl).trans (gL135_ 86 rfl))) (funext fun x => ((hL301_ 276 rfl).2.1 x).trans (((hL161_ 276 rfl).2.1 x).trans ((hL135_ 276 rfl).2.1 x)))) (by rw [show u_15.1 231 46 = n by have e8 := (show u_15.1 231 46 = S.1 231 46 from (gu_15 46 rfl).trans ((gu_9 46 rfl).trans ((gL33_ 46 rfl).trans ((gL7_ 46 rfl).trans (uF_ne (fun h => absurd h.2 (by decide))))))); omega, show u_15.2.1 281 = S33.2.1 281 from (funext fun j => ((fu_15 281 rfl).2.1 j).trans ((fu_9 281 rfl).2.1 j)), show u_15.2.1 264 = S.2.1 264 from (funext fun j => ((fu_15 264 rfl).2.1 j).trans (((fu_9 264 rfl).2.1 j).trans (((hL33_ 264 rfl).2.1 j).trans (((hL7_ 264 rfl).2.1 j).trans (uF_a))))), show nv (S.2.1 264) 0 = d.1 from hRd.1, ptS_cg (g := ptB d) (fun b b0 b1 => (show nv (S33.2.1 281) (0 + 8 * b) = ptB d b by rw [show (0 : Int) + 8 * b = 8 * b by omega]; exact hpt9 b b0 (by omega)))]; rfl)) hW hL (lv_sub hl [0, 1] rfl)
                          refine lv_aload_n hx hb dX12_ray_248 rfl (lv_at hl 1 rfl) ?_
                          refine g_X12_115 Cx hW (k := 231) (by decide) rfl (v := .ref (G.2.2.1 + 266)) (rd_57 hI161) dX12_ray_249 ?_
                          refine lv_aload_n hx hb dX12_ray_252 rfl (lv_at hl 1 rfl) ?_
                          have q_78 : (-2147483648) ≤ S.1 231 72 ∧ S.1 231 72 ≤ 2147483647 := hI.fi 72
                          refine g_X12_555 Cx hW (k := 231) (by decide) rfl (v := S.1 231 72) ((gL161_ 72 rfl).trans ((gL135_ 72 rfl).trans ((gu_26 72 rfl).trans ((gu_21 72 rfl).trans ((gu_15 72 rfl).trans ((gu_9 72 rfl).trans ((gL33_ 72 rfl).trans ((gL7_ 72 rfl).trans (uF_ne (fun h => absurd h.2 (by decide))))))))))) dX12_ray_253 ?_
                          refine rIald Cx hW (k := 266) (by decide) rfl (by decide) (by omega) (by omega) dX12_ray_256 ?_
                          have q_79 : (-2147483648) ≤ S.2.1 266 (S.1 231 72) ∧ S.2.1 266 (S.1 231 72) ≤ 2147483647 := hI.ai 266 (S.1 231 72)
                          refine r_i (b := S.2.1 266 (S.1 231 72)) (((hL161_ 266 rfl).2.1 (S.1 231 72)).trans (((hL135_ 266 rfl).2.1 (S.1 231 72)).trans (((fu_26 266 rfl).2.1 (S.1 231 72)).trans (((fu_21 266 rfl).2.1 (S.1 231 72)).trans (((fu_15 266 rfl).2.1 (S.1 231 72)).trans (((fu_9 266 rfl).2.1 (S.1 231 72)).trans (((hL33_ 266 rfl).2.1 (S.1 231 72)).trans (((hL7_ 266 rfl).2.1 (S.1 231 72)).trans (uF_a))))))))) ?_
                          refine lv_iconst (v := iv 1) hx hb dX12_ray_257 (by decide) ?_
                          refine r_icmp_lt (tgt := 301) hx hb ⟨(by omega), (by omega)⟩ ⟨(by omega), (by omega)⟩ dX12_ray_258 (by decide) (fun c_80 => ?_) (fun c_80 => ?_)
                          · exact join_301 S161  _ _ _ hI161 hFm161 hL161_ (Fr.rf : Fr S161 S161 (pl [281])) hGm161 gL161_ (FF.rf : FF S161 S161 (fl [])) hz161 (fun b b0 b1 => by have hos : S.2.1 266 (S.1 231 72) = d.2.2.2.1 (S.1 231 72) := hRd.2.2.2.1 _ (by omega) (by omega); rw [ray_n (fun z => by omega)]; have y := hv161 b b0 b1; rw [show i - 1 = d.2.2.2.2.1 by omega] at y; exact y) hW hL (lv_sub hl [0, 1] rfl)
                          · refine lv_aload_n hx hb dX12_ray_261 rfl (lv_at hl 1 rfl) ?_
                            refine g_X12_115 Cx hW (k := 231) (by decide) rfl (v := .ref (G.2.2.1 + 266)) (rd_57 hI161) dX12_ray_262 ?_
                            refine lv_aload_n hx hb dX12_ray_265 rfl (lv_at hl 1 rfl) ?_
                            refine g_X12_555 Cx hW (k := 231) (by decide) rfl (v := S.1 231 72) ((gL161_ 72 rfl).trans ((gL135_ 72 rfl).trans ((gu_26 72 rfl).trans ((gu_21 72 rfl).trans ((gu_15 72 rfl).trans ((gu_9 72 rfl).trans ((gL33_ 72 rfl).trans ((gL7_ 72 rfl).trans (uF_ne (fun h => absurd h.2 (by decide))))))))))) dX12_ray_266 ?_
                            refine rIald Cx hW (k := 266) (by decide) rfl (by decide) (by omega) (by omega) dX12_ray_269 ?_
                            refine r_i (b := S.2.1 266 (S.1 231 72)) (((hL161_ 266 rfl).2.1 (S.1 231 72)).trans (((hL135_ 266 rfl).2.1 (S.1 231 72)).trans (((fu_26 266 rfl).2.1 (S.1 231 72)).trans (((fu_21 266 rfl).2.1 (S.1 231 72)).trans (((fu_15 266 rfl).2.1 (S.1 231 72)).trans (((fu_9 266 rfl).2.1 (S.1 231 72)).trans (((hL33_ 266 rfl).2.1 (S.1 231 72)).trans (((hL7_ 266 rfl).2.1 (S.1 231 72)).trans (uF_a))))))))) ?_
                            refine lv_aload_n hx hb dX12_ray_270 rfl (lv_at hl 1 rfl) ?_
                            refine g_X12_465 Cx hW (k := 231) (by decide) rfl (v := S.1 231 46) ((gL161_ 46 rfl).trans ((gL135_ 46 rfl).trans ((gu_26 46 rfl).trans ((gu_21 46 rfl).trans ((gu_15 46 rfl).trans ((gu_9 46 rfl).trans ((gL33_ 46 rfl).trans ((gL7_ 46 rfl).trans (uF_ne (fun h => absurd h.2 (by decide))))))))))) dX12_ray_271 ?_
                            refine r_icmp_gt (tgt := 301) hx hb ⟨(by omega), (by omega)⟩ ⟨(by omega), (by omega)⟩ dX12_ray_274 (by decide) (fun c_81 => ?_) (fun c_81 => ?_)
                            · exact join_301 S161  _ _ _ hI161 hFm161 hL161_ (Fr.rf : Fr S161 S161 (pl [281])) hGm161 gL161_ (FF.rf : FF S161 S161 (fl [])) hz161 (fun b b0 b1 => by have hos : S.2.1 266 (S.1 231 72) = d.2.2.2.1 (S.1 231 72) := hRd.2.2.2.1 _ (by omega) (by omega); rw [ray_n (fun z => by omega)]; have y := hv161 b b0 b1; rw [show i - 1 = d.2.2.2.2.1 by omega] at y; exact y) hW hL (lv_sub hl [0, 1] rfl)
                            · refine lv_aload_n hx hb dX12_ray_277 rfl (lv_at hl 1 rfl) ?_
                              refine g_X12_109 Cx hW (k := 231) (by decide) rfl (v := .ref (G.2.2.1 + 264)) (rd_55 hI161) dX12_ray_278 ?_
                              refine lv_iconst (v := iv 0) hx hb dX12_ray_281 (by decide) ?_
                              refine lv_aload_n hx hb dX12_ray_282 rfl (lv_at hl 1 rfl) ?_
                              refine g_X12_163 Cx hW (k := 231) (by decide) rfl (v := .ref (G.2.2.1 + 281)) (rd_91 hI161) dX12_ray_283 ?_
                              refine lv_bipush (v := iv 8) hx hb dX12_ray_286 (by decide) ?_
                              refine lv_aload_n hx hb dX12_ray_288 rfl (lv_at hl 1 rfl) ?_
                              refine g_X12_115 Cx hW (k := 231) (by decide) rfl (v := .ref (G.2.2.1 + 266)) (rd_57 hI161) dX12_ray_289 ?_
                              refine lv_aload_n hx hb dX12_ray_292 rfl (lv_at hl 1 rfl) ?_
                              refine g_X12_555 Cx hW (k := 231) (by decide) rfl (v := S.1 231 72) ((gL161_ 72 rfl).trans ((gL135_ 72 rfl).trans ((gu_26 72 rfl).trans ((gu_21 72 rfl).trans ((gu_15 72 rfl).trans ((gu_9 72 rfl).trans ((gL33_ 72 rfl).trans ((gL7_ 72 rfl).trans (uF_ne (fun h => absurd h.2 (by decide))))))))))) dX12_ray_293 ?_
                              refine rIald Cx hW (k := 266) (by decide) rfl (by decide) (by omega) (by omega) dX12_ray_296 ?_
                              refine r_i (b := S.2.1 266 (S.1 231 72)) (((hL161_ 266 rfl).2.1 (S.1 231 72)).trans (((hL135_ 266 rfl).2.1 (S.1 231 72)).trans (((fu_26 266 rfl).2.1 (S.1 231 72)).trans (((fu_21 266 rfl).2.1 (S.1 231 72)).trans (((fu_15 266 rfl).2.1 (S.1 231 72)).trans (((fu_9 266 rfl).2.1 (S.1 231 72)).trans (((hL33_ 266 rfl).2.1 (S.1 231 72)).trans (((hL7_ 266 rfl).2.1 (S.1 231 72)).trans (uF_a))))))))) ?_
                              refine r_imul hx hb dX12_ray_297 ?_
                              refine sBv (sSt (As := [.ref (G.2.2.1 + 264), .int (iv 0), .ref (G.2.2.1 + 281), .int (iv (8 * (S.2.1 266 (S.1 231 72))))]) (rest := []) Cx (s_X12_copy l G S161 (ka := 264) (po := 0) (kb := 281) (qo := 8 * (S.2.1 266 (S.1 231 72))) (Nka := 8) (Nkb := 104) (La := 6) hI161 ⟨rfl, by decide, by decide, by decide, rfl⟩ ⟨rfl, by decide, by decide, by decide, rfl⟩ (show (281 : Nat) ≠ 264 by decide) (by omega) (by rw [show S161.2.1 264 = S.2.1 264 from (funext fun j => ((hL161_ 264 rfl).2.1 j).trans (((hL135_ 264 rfl).2.1 j).trans (((fu_26 264 rfl).2.1 j).trans (((fu_21 264 rfl).2.1 j).trans (((fu_15 264 rfl).2.1 j).trans (((fu_9 264 rfl).2.1 j).trans (((hL33_ 264 rfl).2.1 j).trans (((hL7_ 264 rfl).2.1 j).trans (uF_a)))))))))]; exact hD.2.2.1)) (c_X12_233 Cx rfl rfl (rmk_ok (by omega) (by decide))) hW rfl hl.1 rfl (Nat.le_of_ble_eq_true rfl) dX12_ray_298 ⟨Nat.le_of_ble_eq_true rfl, Nat.le_of_ble_eq_true rfl⟩) hL (fun u_82 H locs k_83 hW hL => ?_)
                              obtain ⟨iu_82, fu_82, xu_82⟩ := k_83
                              have F_84 := hFm161.trans (fu_82.to (p1_sub rfl))
                              have F_85 := hL161_.trans (fu_82.to (p1_sub rfl))
                              have F_86 := (Fr.rf : Fr S161 S161 (pl [281])).trans (fu_82.to (p1_sub rfl))
                              have g_87 : FF S u_82 (fl [6, 61, 86]) := FF.fr hGm161 fu_82 rfl
                              have g_88 : FF S135 u_82 (fl []) := FF.fr gL161_ fu_82 rfl
                              have g_89 : FF S161 u_82 (fl []) := FF.fr (FF.rf : FF S161 S161 (fl [])) fu_82 rfl
                              exact join_301 u_82  _ _ _ iu_82 F_84 F_85 F_86 g_87 g_88 g_89 (fun t a b => if e : t = S.2.1 266 (S.1 231 72) then (by rw [e]; exact xu_82.1.1) else ((hz161 t a b).same (fun x x0 x1 => xu_82.2 x (c8_far e ⟨x0, x1⟩))).1) (fun b b0 b1 => by have hos : S.2.1 266 (S.1 231 72) = d.2.2.2.1 (S.1 231 72) := hRd.2.2.2.1 _ (by omega) (by omega); by_cases e : b = S.2.1 266 (S.1 231 72); (rw [e, xu_82.1.2.1, ray_o hxi (by omega) (by omega) hos.symm, show S161.2.1 264 = S.2.1 264 from (funext fun j => ((hL161_ 264 rfl).2.1 j).trans (((hL135_ 264 rfl).2.1 j).trans (((fu_26 264 rfl).2.1 j).trans (((fu_21 264 rfl).2.1 j).trans (((fu_15 264 rfl).2.1 j).trans (((fu_9 264 rfl).2.1 j).trans (((hL33_ 264 rfl).2.1 j).trans (((hL7_ 264 rfl).2.1 j).trans (uF_a)))))))))]; exact hRd.1); (rw [ray_n (fun z => e (by omega)), ((hz161 b b0 b1).same (fun x x0 x1 => xu_82.2 x (c8_far e ⟨x0, x1⟩))).2]; have y := hv161 b b0 b1; rw [show i - 1 = d.2.2.2.2.1 by omega] at y; exact y)) hW hL (lv_sub hl [0, 1] rfl)
                        · have join_242 : ∀ (S242 : sS)  (H : Heap) (locs : List Loc) (ls : Array Slot), (dX G S242) → (Fr S S242 (pl [231, 233, 234, 235, 236, 237, 239, 240, 241, 242, 276, 280, 281])) → (Fr S135 S242 (pl [281])) → (Fr S161 S242 (pl [281])) → (FF S S242 (fl [6, 61, 86])) → (FF S135 S242 (fl [])) → (FF S161 S242 (fl [])) → (∀ j, 1 ≤ j → j ≤ S.1 231 46 → NO (S242.2.1 281) (8 * j) 6) → (Hd (∀ b, 1 ≤ b → b ≤ S.1 231 46 → nv (S242.2.1 281) (8 * b) = rpV (fun i => -(d.2.1 i (S.1 231 72))) d b ((i + 1) - 1).toNat)) → sW G 294 S242 H → sL G locs → lv_has ls 2 [(1, .int (iv i)), (0, .ref (G.2.2.1 + 231))] → W p l e (rmk 8 0 0) s m args below meth c H locs 0 0 (MQ below (sQv G 294 (fun u => dX G u ∧ Fr S u (pl [231, 233, 234, 235, 236, 237, 239, 240, 241, 242, 276, 280, 281]) ∧ FF S u (fl [6, 61, 86]) ∧ ((u.1 231 61 = 4 ∧ 0 ≤ u.1 231 86 ∧ u.1 231 86 ≤ 3000) ∧ Hd (LSr u 86 276 (hdU n d (S.1 231 72)))))) args s 0 0 (sF G)) (F0 m 242 ls []) := by
                            intro S242  H locs ls hI242 hFm242 hFL161242 hL242_ hGm242 hGL161242 gL242_ hz242 hv242 hW hL hl
                            refine lv_iinc (v := iv (i + 1)) (lv' := [(1, .int (iv (i + 1))), (0, .ref (G.2.2.1 + 231))]) hx hb dX12_ray_242 hl (k := 0) rfl ((Int32.ofInt_add _ _).symm) (by decide) rfl (fun ls hl => ?_)
                            refine lv_goto (tgt := 161) hx hb dX12_ray_245 (by decide) ?_
                            exact ih_161 S242 (i + 1) _ _ _ (by omega) hI242 hFm242 hFL161242 hGm242 hGL161242 (by omega) hz242 hv242 hW hL (lv_sub hl [0, 1] rfl)
                          refine lv_aload_n hx hb dX12_ray_169 rfl (lv_at hl 1 rfl) ?_
                          refine g_X12_112 Cx hW (k := 231) (by decide) rfl (v := .ref (G.2.2.1 + 265)) (rd_56 hI161) dX12_ray_170 ?_
                          refine lv_iload_n hx hb dX12_ray_173 rfl (lv_at hl 0 rfl) ?_
                          refine rIald Cx hW (k := 265) (by decide) rfl (by decide) (by omega) (by omega) dX12_ray_174 ?_
                          have q_90 : (-2147483648) ≤ S.2.1 265 i ∧ S.2.1 265 i ≤ 2147483647 := hI.ai 265 i
                          refine r_i (b := S.2.1 265 i) (((hL161_ 265 rfl).2.1 i).trans (((hL135_ 265 rfl).2.1 i).trans (((fu_26 265 rfl).2.1 i).trans (((fu_21 265 rfl).2.1 i).trans (((fu_15 265 rfl).2.1 i).trans (((fu_9 265 rfl).2.1 i).trans (((hL33_ 265 rfl).2.1 i).trans (((hL7_ 265 rfl).2.1 i).trans (uF_a))))))))) ?_
                          refine lv_iconst (v := iv 1) hx hb dX12_ray_175 (by decide) ?_
                          refine r_icmp_lt (tgt := 242) hx hb ⟨(by omega), (by omega)⟩ ⟨(by omega), (by omega)⟩ dX12_ray_176 (by decide) (fun c_91 => ?_) (fun c_91 => ?_)
                          · exact join_242 S161  _ _ _ hI161 hFm161 hL161_ (Fr.rf : Fr S161 S161 (pl [281])) hGm161 gL161_ (FF.rf : FF S161 S161 (fl [])) hz161 (fun b b0 b1 => by have hbi : S.2.1 265 i = d.2.2.1 i := hRd.2.2.1 i (by omega) (by omega); rw [rpV_n (by omega) (fun z => by omega)]; exact hv161 b b0 b1) hW hL (lv_sub hl [0, 1] rfl)
                          · refine lv_aload_n hx hb dX12_ray_179 rfl (lv_at hl 1 rfl) ?_
                            refine g_X12_112 Cx hW (k := 231) (by decide) rfl (v := .ref (G.2.2.1 + 265)) (rd_56 hI161) dX12_ray_180 ?_
                            refine lv_iload_n hx hb dX12_ray_183 rfl (lv_at hl 0 rfl) ?_
                            refine rIald Cx hW (k := 265) (by decide) rfl (by decide) (by omega) (by omega) dX12_ray_184 ?_
                            refine r_i (b := S.2.1 265 i) (((hL161_ 265 rfl).2.1 i).trans (((hL135_ 265 rfl).2.1 i).trans (((fu_26 265 rfl).2.1 i).trans (((fu_21 265 rfl).2.1 i).trans (((fu_15 265 rfl).2.1 i).trans (((fu_9 265 rfl).2.1 i).trans (((hL33_ 265 rfl).2.1 i).trans (((hL7_ 265 rfl).2.1 i).trans (uF_a))))))))) ?_
                            refine lv_aload_n hx hb dX12_ray_185 rfl (lv_at hl 1 rfl) ?_
                            refine g_X12_465 Cx hW (k := 231) (by decide) rfl (v := S.1 231 46) ((gL161_ 46 rfl).trans ((gL135_ 46 rfl).trans ((gu_26 46 rfl).trans ((gu_21 46 rfl).trans ((gu_15 46 rfl).trans ((gu_9 46 rfl).trans ((gL33_ 46 rfl).trans ((gL7_ 46 rfl).trans (uF_ne (fun h => absurd h.2 (by decide))))))))))) dX12_ray_186 ?_
                            refine r_icmp_le (tgt := 195) hx hb ⟨(by omega), (by omega)⟩ ⟨(by omega), (by omega)⟩ dX12_ray_189 (by decide) (fun c_92 => ?_) (fun c_92 => ?_)
                            · refine lv_aload_n hx hb dX12_ray_195 rfl (lv_at hl 1 rfl) ?_
                              refine g_X12_103 Cx hW (k := 231) (by decide) rfl (v := .ref (G.2.2.1 + 262)) (rd_53 hI161) dX12_ray_196 ?_
                              refine lv_aload_n hx hb dX12_ray_199 rfl (lv_at hl 1 rfl) ?_
                              refine lv_iload_n hx hb dX12_ray_200 rfl (lv_at hl 0 rfl) ?_
                              refine lv_iconst (v := iv 1) hx hb dX12_ray_201 (by decide) ?_
                              refine r_iadd hx hb dX12_ray_202 ?_
                              refine lv_aload_n hx hb dX12_ray_203 rfl (lv_at hl 1 rfl) ?_
                              have q_93 : (-2147483648) ≤ S.1 231 72 ∧ S.1 231 72 ≤ 2147483647 := hI.fi 72
                              refine g_X12_555 Cx hW (k := 231) (by decide) rfl (v := S.1 231 72) ((gL161_ 72 rfl).trans ((gL135_ 72 rfl).trans ((gu_26 72 rfl).trans ((gu_21 72 rfl).trans ((gu_15 72 rfl).trans ((gu_9 72 rfl).trans ((gL33_ 72 rfl).trans ((gL7_ 72 rfl).trans (uF_ne (fun h => absurd h.2 (by decide))))))))))) dX12_ray_204 ?_
                              refine sBi (sV (As := [.int (iv (i + 1)), .int (iv (S.1 231 72))]) (rest := [.ref (G.2.2.1 + 262)]) (k := 231) Cx (s_X12_cell l G S161 (i := i + 1) (j := S.1 231 72) (by omega) (by omega)) (c_X12_529 Cx rfl rfl (rmk_ok (by omega) (by decide))) hW (by decide) rfl rfl rfl hl.1 rfl (Nat.le_of_ble_eq_true rfl) dX12_ray_207 ⟨Nat.le_of_ble_eq_true rfl, Nat.le_of_ble_eq_true rfl⟩) hL (fun r_96 u_94 H locs k_95 hW hL => ?_)
                              obtain ⟨eu_94, xu_94⟩ := k_95
                              rw [eu_94] at hW
                              refine lv_aload_n hx hb dX12_ray_210 rfl (lv_at hl 1 rfl) ?_
                              refine g_X12_163 Cx hW (k := 231) (by decide) rfl (v := .ref (G.2.2.1 + 281)) (rd_91 hI161) dX12_ray_211 ?_
                              refine lv_bipush (v := iv 8) hx hb dX12_ray_214 (by decide) ?_
                              refine lv_aload_n hx hb dX12_ray_216 rfl (lv_at hl 1 rfl) ?_
                              refine g_X12_112 Cx hW (k := 231) (by decide) rfl (v := .ref (G.2.2.1 + 265)) (rd_56 hI161) dX12_ray_217 ?_
                              refine lv_iload_n hx hb dX12_ray_220 rfl (lv_at hl 0 rfl) ?_
                              refine rIald Cx hW (k := 265) (by decide) rfl (by decide) (by omega) (by omega) dX12_ray_221 ?_
                              refine r_i (b := S.2.1 265 i) (((hL161_ 265 rfl).2.1 i).trans (((hL135_ 265 rfl).2.1 i).trans (((fu_26 265 rfl).2.1 i).trans (((fu_21 265 rfl).2.1 i).trans (((fu_15 265 rfl).2.1 i).trans (((fu_9 265 rfl).2.1 i).trans (((hL33_ 265 rfl).2.1 i).trans (((hL7_ 265 rfl).2.1 i).trans (uF_a))))))))) ?_
                              refine r_imul hx hb dX12_ray_222 ?_
                              refine sBv (sSt (As := [.ref (G.2.2.1 + 262), .int (iv r_96), .ref (G.2.2.1 + 281), .int (iv (8 * (S.2.1 265 i)))]) (rest := []) Cx (s_X12_copy l G S161 (ka := 262) (po := r_96) (kb := 281) (qo := 8 * (S.2.1 265 i)) (Nka := 5280) (Nkb := 104) (La := 6) hI161 ⟨rfl, by decide, by decide, by decide, rfl⟩ ⟨rfl, by decide, by decide, by decide, rfl⟩ (show (281 : Nat) ≠ 262 by decide) (by omega) (by rw [show S161.2.1 262 = S.2.1 262 from (funext fun j => ((hL161_ 262 rfl).2.1 j).trans (((hL135_ 262 rfl).2.1 j).trans (((fu_26 262 rfl).2.1 j).trans (((fu_21 262 rfl).2.1 j).trans (((fu_15 262 rfl).2.1 j).trans (((fu_9 262 rfl).2.1 j).trans (((hL33_ 262 rfl).2.1 j).trans (((hL7_ 262 rfl).2.1 j).trans (uF_a)))))))))]; exact hD.at (i := i + 1) (j := S.1 231 72) (by omega) (by omega) (by omega) (by omega))) (c_X12_233 Cx rfl rfl (rmk_ok (by omega) (by decide))) hW rfl hl.1 rfl (Nat.le_of_ble_eq_true rfl) dX12_ray_223 ⟨Nat.le_of_ble_eq_true rfl, Nat.le_of_ble_eq_true rfl⟩) hL (fun u_97 H locs k_98 hW hL => ?_)
                              obtain ⟨iu_97, fu_97, xu_97⟩ := k_98
                              have F_99 := hFm161.trans (fu_97.to (p1_sub rfl))
                              have F_100 := hL161_.trans (fu_97.to (p1_sub rfl))
                              have F_101 := (Fr.rf : Fr S161 S161 (pl [281])).trans (fu_97.to (p1_sub rfl))
                              have g_102 : FF S u_97 (fl [6, 61, 86]) := FF.fr hGm161 fu_97 rfl
                              have g_103 : FF S135 u_97 (fl []) := FF.fr gL161_ fu_97 rfl
                              have g_104 : FF S161 u_97 (fl []) := FF.fr (FF.rf : FF S161 S161 (fl [])) fu_97 rfl
                              refine lv_aload_n hx hb dX12_ray_226 rfl (lv_at hl 1 rfl) ?_
                              refine g_X12_163 Cx hW (k := 231) (by decide) rfl (v := .ref (G.2.2.1 + 281)) (rd_91 iu_97) dX12_ray_227 ?_
                              refine lv_bipush (v := iv 8) hx hb dX12_ray_230 (by decide) ?_
                              refine lv_aload_n hx hb dX12_ray_232 rfl (lv_at hl 1 rfl) ?_
                              refine g_X12_112 Cx hW (k := 231) (by decide) rfl (v := .ref (G.2.2.1 + 265)) (rd_56 iu_97) dX12_ray_233 ?_
                              refine lv_iload_n hx hb dX12_ray_236 rfl (lv_at hl 0 rfl) ?_
                              refine rIald Cx hW (k := 265) (by decide) rfl (by decide) (by omega) (by omega) dX12_ray_237 ?_
                              refine r_i (b := S.2.1 265 i) (((fu_97 265 rfl).2.1 i).trans (((hL161_ 265 rfl).2.1 i).trans (((hL135_ 265 rfl).2.1 i).trans (((fu_26 265 rfl).2.1 i).trans (((fu_21 265 rfl).2.1 i).trans (((fu_15 265 rfl).2.1 i).trans (((fu_9 265 rfl).2.1 i).trans (((hL33_ 265 rfl).2.1 i).trans (((hL7_ 265 rfl).2.1 i).trans (uF_a)))))))))) ?_
                              refine r_imul hx hb dX12_ray_238 ?_
                              refine sBv (sSt (As := [.ref (G.2.2.1 + 281), .int (iv (8 * (S.2.1 265 i)))]) (rest := []) Cx (s_X12_negate l G u_97 (ka := 281) (po := 8 * (S.2.1 265 i)) (Nka := 104) (La := 6) iu_97 ⟨rfl, by decide, by decide, by decide, rfl⟩ (by omega) xu_97.1.1) (c_X12_540 Cx rfl rfl (rmk_ok (by omega) (by decide))) hW rfl hl.1 rfl (Nat.le_of_ble_eq_true rfl) dX12_ray_239 ⟨Nat.le_of_ble_eq_true rfl, Nat.le_of_ble_eq_true rfl⟩) hL (fun u_105 H locs k_106 hW hL => ?_)
                              obtain ⟨iu_105, fu_105, xu_105⟩ := k_106
                              have F_107 := F_99.trans (fu_105.to (p1_sub rfl))
                              have F_108 := F_100.trans (fu_105.to (p1_sub rfl))
                              have F_109 := F_101.trans (fu_105.to (p1_sub rfl))
                              have g_110 : FF S u_105 (fl [6, 61, 86]) := FF.fr g_102 fu_105 rfl
                              have g_111 : FF S135 u_105 (fl []) := FF.fr g_103 fu_105 rfl
                              have g_112 : FF S161 u_105 (fl []) := FF.fr g_104 fu_105 rfl
                              exact join_242 u_105  _ _ _ iu_105 F_107 F_108 F_109 g_110 g_111 g_112 (fun t a b => if e : t = S.2.1 265 i then (by rw [e]; exact xu_105.1) else ((hz161 t a b).same (fun x x0 x1 => by rw [xu_105.2.2, uA_ne (fun h => by have h2 := h.2; have := c8_far e ⟨x0, x1⟩; omega)]; exact xu_97.2 x (c8_far e ⟨x0, x1⟩))).1) (fun b b0 b1 => by have hbi : S.2.1 265 i = d.2.2.1 i := hRd.2.2.1 i (by omega) (by omega); by_cases e : b = S.2.1 265 i; (rw [e, xu_105.2.1, xu_97.1.2.1, rpV_y hxi (by omega) hbi.symm, show S161.2.1 262 = S.2.1 262 from (funext fun j => ((hL161_ 262 rfl).2.1 j).trans (((hL135_ 262 rfl).2.1 j).trans (((fu_26 262 rfl).2.1 j).trans (((fu_21 262 rfl).2.1 j).trans (((fu_15 262 rfl).2.1 j).trans (((fu_9 262 rfl).2.1 j).trans (((hL33_ 262 rfl).2.1 j).trans (((hL7_ 262 rfl).2.1 j).trans (uF_a)))))))))]; exact congrArg Neg.neg (hRd.vv (i := i) (j := S.1 231 72) (by omega) (by omega) (by omega) (by rw [rI_p (by omega)]; omega))); (rw [rpV_n (by omega) (fun z => e (by omega)), ((hz161 b b0 b1).same (g := u_105.2.1 281) (fun x x0 x1 => by rw [xu_105.2.2, uA_ne (fun h => by have h2 := h.2; have := c8_far e ⟨x0, x1⟩; omega)]; exact xu_97.2 x (c8_far e ⟨x0, x1⟩))).2]; exact hv161 b b0 b1)) hW hL (lv_sub hl [0, 1] rfl)
                            · refine lv_goto (tgt := 242) hx hb dX12_ray_192 (by decide) ?_
                              exact join_242 S161  _ _ _ hI161 hFm161 hL161_ (Fr.rf : Fr S161 S161 (pl [281])) hGm161 gL161_ (FF.rf : FF S161 S161 (fl [])) hz161 (fun b b0 b1 => by have hbi : S.2.1 265 i = d.2.2.1 i := hRd.2.2.1 i (by omega) (by omega); rw [rpV_n (by omega) (fun z => by omega)]; exact hv161 b b0 b1) hW hL (lv_sub hl [0, 1] rfl)
                    exact loop_161 (_ + 1) S135 1 _ _ _ (Nat.lt_succ_self _) hI135 hFm135 Fr.rf hGm135 FF.rf (by omega) (fun t a b => NO_z (hz135 t a (by omega)) (by omega)) (fun b b0 b1 => by rw [nv_z (hz135 b (by omega) (by omega))]; exact rpV_0.symm) hW hL (lv_sub hl [0, 1] rfl)
                  · refine lv_aload_n hx hb dX12_ray_143 rfl (lv_at hl 1 rfl) ?_
                    refine g_X12_163 Cx hW (k := 231) (by decide) rfl (v := .ref (G.2.2.1 + 281)) (rd_91 hI135) dX12_ray_144 ?_
                    refine lv_bipush (v := iv 8) hx hb dX12_ray_147 (by decide) ?_
                    refine lv_iload_n hx hb dX12_ray_149 rfl (lv_at hl 0 rfl) ?_
                    refine r_imul hx hb dX12_ray_150 ?_
                    refine lv_iconst (v := iv 0) hx hb dX12_ray_151 (by decide) ?_
                    refine rIast Cx hW hL (k := 281) (by decide) rfl (by decide) (by omega) (by omega) dX12_ray_152 (fun H locs hW hL => ?_)
                    have F_113 : Fr S (uA S135 281 (8 * j) 0) (pl [231, 233, 234, 235, 236, 237, 239, 240, 241, 242, 276, 280, 281]) := hFm135.A rfl
                    have F_114 : Fr u_26 (uA S135 281 (8 * j) 0) (pl [281]) := hL135_.A rfl
                    have i_115 : dX G (uA S135 281 (8 * j) 0) := hI135.A (k := 281) (show (-2147483648) ≤ 0 ∧ 0 ≤ 2147483647 from ⟨by omega, by omega⟩)
                    refine lv_iinc (v := iv (j + 1)) (lv' := [(1, .int (iv (j + 1))), (0, .ref (G.2.2.1 + 231))]) hx hb dX12_ray_153 hl (k := 0) rfl ((Int32.ofInt_add _ _).symm) (by decide) rfl (fun ls hl => ?_)
                    refine lv_goto (tgt := 135) hx hb dX12_ray_156 (by decide) ?_
                    exact ih_135 (uA S135 281 (8 * j) 0) (j + 1) _ _ _ (by omega) i_115 F_113 F_114 hGm135 gL135_ (by omega) (fun t a b => by rw [uA_get]; split; rfl; rename_i z; exact hz135 t a (by omega)) hW hL (lv_sub hl [0, 1] rfl)
              exact loop_135 (_ + 1) u_26 1 _ _ _ (Nat.lt_succ_self _) iu_26 F_28 Fr.rf g_29 FF.rf (by omega) (fun t a b => absurd b (by omega)) hW hL (lv_sub hl [0, 1] rfl)
            · have join_92 : ∀ (S92 : sS)  (H : Heap) (locs : List Loc) (ls : Array Slot), (dX G S92) → (Fr S S92 (pl [231, 233, 234, 235, 236, 237, 239, 240, 241, 242, 276, 280, 281])) → (Fr S7 S92 (pl [281])) → (Fr S33 S92 (pl [281])) → (FF S S92 (fl [6, 61, 86])) → (FF S7 S92 (fl [])) → (FF S33 S92 (fl [])) → (∀ j, 0 ≤ j → j ≤ S.1 231 46 → NO (S92.2.1 281) (8 * j) 6) → (Hd (∀ b, 1 ≤ b → b ≤ S.1 231 46 → nv (S92.2.1 281) (8 * b) = rpV (fun i => d.2.1 i 0) d b ((i + 1) - 1).toNat)) → sW G 294 S92 H → sL G locs → lv_has ls 2 [(1, .int (iv i)), (0, .ref (G.2.2.1 + 231))] → W p l e (rmk 8 0 0) s m args below meth c H locs 0 0 (MQ below (sQv G 294 (fun u => dX G u ∧ Fr S u (pl [231, 233, 234, 235, 236, 237, 239, 240, 241, 242, 276, 280, 281]) ∧ FF S u (fl [6, 61, 86]) ∧ ((u.1 231 61 = 4 ∧ 0 ≤ u.1 231 86 ∧ u.1 231 86 ≤ 3000) ∧ Hd (LSr u 86 276 (hdU n d (S.1 231 72)))))) args s 0 0 (sF G)) (F0 m 92 ls []) := by
                intro S92  H locs ls hI92 hFm92 hFL3392 hL92_ hGm92 hGL3392 gL92_ hz92 hv92 hW hL hl
                refine lv_iinc (v := iv (i + 1)) (lv' := [(1, .int (iv (i + 1))), (0, .ref (G.2.2.1 + 231))]) hx hb dX12_ray_92 hl (k := 0) rfl ((Int32.ofInt_add _ _).symm) (by decide) rfl (fun ls hl => ?_)
                refine lv_goto (tgt := 33) hx hb dX12_ray_95 (by decide) ?_
                exact ih_33 S92 (i + 1) _ _ _ (by omega) hI92 hFm92 hFL3392 hGm92 hGL3392 (by omega) hz92 hv92 hW hL (lv_sub hl [0, 1] rfl)
              refine lv_aload_n hx hb dX12_ray_41 rfl (lv_at hl 1 rfl) ?_
              refine g_X12_112 Cx hW (k := 231) (by decide) rfl (v := .ref (G.2.2.1 + 265)) (rd_56 hI33) dX12_ray_42 ?_
              refine lv_iload_n hx hb dX12_ray_45 rfl (lv_at hl 0 rfl) ?_
              refine rIald Cx hW (k := 265) (by decide) rfl (by decide) (by omega) (by omega) dX12_ray_46 ?_
              have q_116 : (-2147483648) ≤ S.2.1 265 i ∧ S.2.1 265 i ≤ 2147483647 := hI.ai 265 i
              refine r_i (b := S.2.1 265 i) (((hL33_ 265 rfl).2.1 i).trans (((hL7_ 265 rfl).2.1 i).trans (uF_a))) ?_
              refine lv_iconst (v := iv 1) hx hb dX12_ray_47 (by decide) ?_
              refine r_icmp_lt (tgt := 92) hx hb ⟨(by omega), (by omega)⟩ ⟨(by omega), (by omega)⟩ dX12_ray_48 (by decide) (fun c_117 => ?_) (fun c_117 => ?_)
              · exact join_92 S33  _ _ _ hI33 hFm33 hL33_ (Fr.rf : Fr S33 S33 (pl [281])) hGm33 gL33_ (FF.rf : FF S33 S33 (fl [])) hz33 (fun b b0 b1 => by have hbi : S.2.1 265 i = d.2.2.1 i := hRd.2.2.1 i (by omega) (by omega); rw [rpV_n (by omega) (fun z => by omega)]; exact hv33 b b0 b1) hW hL (lv_sub hl [0, 1] rfl)
              · refine lv_aload_n hx hb dX12_ray_51 rfl (lv_at hl 1 rfl) ?_
                refine g_X12_112 Cx hW (k := 231) (by decide) rfl (v := .ref (G.2.2.1 + 265)) (rd_56 hI33) dX12_ray_52 ?_
                refine lv_iload_n hx hb dX12_ray_55 rfl (lv_at hl 0 rfl) ?_
                refine rIald Cx hW (k := 265) (by decide) rfl (by decide) (by omega) (by omega) dX12_ray_56 ?_
                refine r_i (b := S.2.1 265 i) (((hL33_ 265 rfl).2.1 i).trans (((hL7_ 265 rfl).2.1 i).trans (uF_a))) ?_
                refine lv_aload_n hx hb dX12_ray_57 rfl (lv_at hl 1 rfl) ?_
                refine g_X12_465 Cx hW (k := 231) (by decide) rfl (v := S.1 231 46) ((gL33_ 46 rfl).trans ((gL7_ 46 rfl).trans (uF_ne (fun h => absurd h.2 (by decide))))) dX12_ray_58 ?_
                refine r_icmp_gt (tgt := 92) hx hb ⟨(by omega), (by omega)⟩ ⟨(by omega), (by omega)⟩ dX12_ray_61 (by decide) (fun c_118 => ?_) (fun c_118 => ?_)
                · exact join_92 S33  _ _ _ hI33 hFm33 hL33_ (Fr.rf : Fr S33 S33 (pl [281])) hGm33 gL33_ (FF.rf : FF S33 S33 (fl [])) hz33 (fun b b0 b1 => by have hbi : S.2.1 265 i = d.2.2.1 i := hRd.2.2.1 i (by omega) (by omega); rw [rpV_n (by omega) (fun z => by omega)]; exact hv33 b b0 b1) hW hL (lv_sub hl [0, 1] rfl)
                · refine lv_aload_n hx hb dX12_ray_64 rfl (lv_at hl 1 rfl) ?_
                  refine g_X12_103 Cx hW (k := 231) (by decide) rfl (v := .ref (G.2.2.1 + 262)) (rd_53 hI33) dX12_ray_65 ?_
                  refine lv_aload_n hx hb dX12_ray_68 rfl (lv_at hl 1 rfl) ?_
                  refine lv_iload_n hx hb dX12_ray_69 rfl (lv_at hl 0 rfl) ?_
                  refine lv_iconst (v := iv 1) hx hb dX12_ray_70 (by decide) ?_
                  refine r_iadd hx hb dX12_ray_71 ?_
                  refine lv_iconst (v := iv 0) hx hb dX12_ray_72 (by decide) ?_
                  refine sBi (sV (As := [.int (iv (i + 1)), .int (iv 0)]) (rest := [.ref (G.2.2.1 + 262)]) (k := 231) Cx (s_X12_cell l G S33 (i := i + 1) (j := 0) (by omega) (by omega)) (c_X12_529 Cx rfl rfl (rmk_ok (by omega) (by decide))) hW (by decide) rfl rfl rfl hl.1 rfl (Nat.le_of_ble_eq_true rfl) dX12_ray_73 ⟨Nat.le_of_ble_eq_true rfl, Nat.le_of_ble_eq_true rfl⟩) hL (fun r_121 u_119 H locs k_120 hW hL => ?_)
                  obtain ⟨eu_119, xu_119⟩ := k_120
                  rw [eu_119] at hW
                  refine lv_aload_n hx hb dX12_ray_76 rfl (lv_at hl 1 rfl) ?_
                  refine g_X12_163 Cx hW (k := 231) (by decide) rfl (v := .ref (G.2.2.1 + 281)) (rd_91 hI33) dX12_ray_77 ?_
                  refine lv_bipush (v := iv 8) hx hb dX12_ray_80 (by decide) ?_
                  refine lv_aload_n hx hb dX12_ray_82 rfl (lv_at hl 1 rfl) ?_
                  refine g_X12_112 Cx hW (k := 231) (by decide) rfl (v := .ref (G.2.2.1 + 265)) (rd_56 hI33) dX12_ray_83 ?_
                  refine lv_iload_n hx hb dX12_ray_86 rfl (lv_at hl 0 rfl) ?_
                  refine rIald Cx hW (k := 265) (by decide) rfl (by decide) (by omega) (by omega) dX12_ray_87 ?_
                  refine r_i (b := S.2.1 265 i) (((hL33_ 265 rfl).2.1 i).trans (((hL7_ 265 rfl).2.1 i).trans (uF_a))) ?_
                  refine r_imul hx hb dX12_ray_88 ?_
                  refine sBv (sSt (As := [.ref (G.2.2.1 + 262), .int (iv r_121), .ref (G.2.2.1 + 281), .int (iv (8 * (S.2.1 265 i)))]) (rest := []) Cx (s_X12_copy l G S33 (ka := 262) (po := r_121) (kb := 281) (qo := 8 * (S.2.1 265 i)) (Nka := 5280) (Nkb := 104) (La := 6) hI33 ⟨rfl, by decide, by decide, by decide, rfl⟩ ⟨rfl, by decide, by decide, by decide, rfl⟩ (show (281 : Nat) ≠ 262 by decide) (by omega) (by rw [show S33.2.1 262 = S.2.1 262 from (funext fun j => ((hL33_ 262 rfl).2.1 j).trans (((hL7_ 262 rfl).2.1 j).trans (uF_a)))]; exact hD.at (i := i + 1) (j := 0) (by omega) (by omega) (by omega) (by omega))) (c_X12_233 Cx rfl rfl (rmk_ok (by omega) (by decide))) hW rfl hl.1 rfl (Nat.le_of_ble_eq_true rfl) dX12_ray_89 ⟨Nat.le_of_ble_eq_true rfl, Nat.le_of_ble_eq_true rfl⟩) hL (fun u_122 H locs k_123 hW hL => ?_)
                  obtain ⟨iu_122, fu_122, xu_122⟩ := k_123
                  have F_124 := hFm33.trans (fu_122.to (p1_sub rfl))
                  have F_125 := hL33_.trans (fu_122.to (p1_sub rfl))
                  have F_126 := (Fr.rf : Fr S33 S33 (pl [281])).trans (fu_122.to (p1_sub rfl))
                  have g_127 : FF S u_122 (fl [6, 61, 86]) := FF.fr hGm33 fu_122 rfl
                  have g_128 : FF S7 u_122 (fl []) := FF.fr gL33_ fu_122 rfl
                  have g_129 : FF S33 u_122 (fl []) := FF.fr (FF.rf : FF S33 S33 (fl [])) fu_122 rfl
                  exact join_92 u_122  _ _ _ iu_122 F_124 F_125 F_126 g_127 g_128 g_129 (fun t a b => if e : t = S.2.1 265 i then (by rw [e]; exact xu_122.1.1) else ((hz33 t a b).same (fun x x0 x1 => xu_122.2 x (c8_far e ⟨x0, x1⟩))).1) (fun b b0 b1 => by have hbi : S.2.1 265 i = d.2.2.1 i := hRd.2.2.1 i (by omega) (by omega); by_cases e : b = S.2.1 265 i; (rw [e, xu_122.1.2.1, rpV_y hxi (by omega) hbi.symm, show S33.2.1 262 = S.2.1 262 from (funext fun j => ((hL33_ 262 rfl).2.1 j).trans (((hL7_ 262 rfl).2.1 j).trans (uF_a)))]; exact hRd.vv (i := i) (j := 0) (by omega) (by omega) (by omega) (by rw [rI_p (by omega)]; omega)); (rw [rpV_n (by omega) (fun z => e (by omega)), ((hz33 b (by omega) b1).same (fun x x0 x1 => xu_122.2 x (c8_far e ⟨x0, x1⟩))).2]; exact hv33 b b0 b1)) hW hL (lv_sub hl [0, 1] rfl)
        exact loop_33 (_ + 1) S7 1 _ _ _ (Nat.lt_succ_self _) hI7 hFm7 Fr.rf hGm7 FF.rf (by omega) (fun t a b => NO_z (hz7 t a (by omega)) (by omega)) (fun b b0 b1 => by rw [nv_z (hz7 b (by omega) (by omega))]; exact rpV_0.symm) hW hL (lv_sub hl [0, 1] rfl)
      · refine lv_aload_n hx hb dX12_ray_15 rfl (lv_at hl 1 rfl) ?_
        refine g_X12_163 Cx hW (k := 231) (by decide) rfl (v := .ref (G.2.2.1 + 281)) (rd_91 hI7) dX12_ray_16 ?_
        refine lv_bipush (v := iv 8) hx hb dX12_ray_19 (by decide) ?_
        refine lv_iload_n hx hb dX12_ray_21 rfl (lv_at hl 0 rfl) ?_
        refine r_imul hx hb dX12_ray_22 ?_
        refine lv_iconst (v := iv 0) hx hb dX12_ray_23 (by decide) ?_
        refine rIast Cx hW hL (k := 281) (by decide) rfl (by decide) (by omega) (by omega) dX12_ray_24 (fun H locs hW hL => ?_)
        have F_130 : Fr S (uA S7 281 (8 * j) 0) (pl [231, 233, 234, 235, 236, 237, 239, 240, 241, 242, 276, 280, 281]) := hFm7.A rfl
        have F_131 : Fr ((uF S 231 86 0)) (uA S7 281 (8 * j) 0) (pl [281]) := hL7_.A rfl
        have i_132 : dX G (uA S7 281 (8 * j) 0) := hI7.A (k := 281) (show (-2147483648) ≤ 0 ∧ 0 ≤ 2147483647 from ⟨by omega, by omega⟩)
        refine lv_iinc (v := iv (j + 1)) (lv' := [(1, .int (iv (j + 1))), (0, .ref (G.2.2.1 + 231))]) hx hb dX12_ray_25 hl (k := 0) rfl ((Int32.ofInt_add _ _).symm) (by decide) rfl (fun ls hl => ?_)
        refine lv_goto (tgt := 7) hx hb dX12_ray_28 (by decide) ?_
        exact ih_7 (uA S7 281 (8 * j) 0) (j + 1) _ _ _ (by omega) i_132 F_130 F_131 hGm7 gL7_ (by omega) (fun t a b => by rw [uA_get]; split; rfl; rename_i z; exact hz7 t a (by omega)) hW hL (lv_sub hl [0, 1] rfl)
  exact loop_7 (_ + 1) (uF S 231 86 0) 0 _ _ _ (Nat.lt_succ_self _) i_3 F_1 Fr.rf g_2 FF.rf (by omega) (fun t a b => absurd b (by omega)) hW hL (lv_sub hl [0, 1] rfl)

set_option maxRecDepth 100000 in
set_option maxHeartbeats 4000000 in
theorem rb_X12_takeBest (l : Launch) (G : sG) (S : sS) {n hw : Int} {d : dT} (hI : dX G S) (hD : DOK S) (hM : MD S) (hRd : Hd (DRr S hw d)) (hxi : Hd (dIx n hw d)) : Met l yX12_takeBest (.code yX12_takeBest cX12_takeBest 2 none :: tb) (rmk 4 0 0) (sPc G 294 S [.ref (G.2.2.1 + 231)]) (sQv G 294 (fun u => dX G u ∧ Fr S u (pl [231, 272, 273, 274]) ∧ FF S u (fl [66, 79]) ∧ (BS u ∧ u.1 231 79 = 1 ∧ Hd (nv (u.2.1 272) 0 = nv (S.2.1 262) 0 ∧ nv (u.2.1 273) 0 = nv (S.2.1 264) 0 ∧ ∀ b, 1 ≤ b → b ≤ S.1 231 46 → nv (u.2.1 274) (8 * b) = ptB d b)))) 0 0 (sF G) := by
  refine sEnter (by decide) (Nat.le_of_ble_eq_true rfl) ?_
  intro p e s m args below meth c Cx hr hlk hnm hW ls hl
  have Cx : sC G p m c cX12_takeBest 2 s args RX12 := Cx
  obtain ⟨hx, hb, hml, hown, hts⟩ := id Cx.1
  have hL : sL G [] := sL_nil
  have hl : lv_has ls 2 [(0, .ref (G.2.2.1 + 231))] := hl
  have hW0 := hW
  have hd1 := hD.1
  have hm1 : (0 ≤ S.1 231 46 ∧ S.1 231 46 ≤ 12) ∧ (0 ≤ S.1 231 47 ∧ S.1 231 47 ≤ 16) ∧ 0 ≤ S.1 231 63 ∧ S.1 231 63 ≤ 40 := hM
  have hr58 : S.1 231 58 = d.2.2.2.2.1 := hRd.2.2.2.2.1; have hr59 : S.1 231 59 = d.2.2.2.2.2 := hRd.2.2.2.2.2.1
  refine lv_aload_n hx hb dX12_takeBest_0 rfl (lv_at hl 0 rfl) ?_
  refine lv_iconst (v := iv 1) hx hb dX12_takeBest_1 (by decide) ?_
  refine p_X12_514 Cx hW hL (k := 231) (by decide) rfl (by omega) dX12_takeBest_2 (fun H locs hW hL => ?_)
  have F_1 : Fr S (uF S 231 79 1) (pl [231, 272, 273, 274]) := (Fr.rf : Fr S S (pl [231, 272, 273, 274])).F rfl
  have g_2 : FF S (uF S 231 79 1) (fl [66, 79]) := FF.F FF.rf rfl
  have i_3 : dX G (uF S 231 79 1) := hI.F (i := 79) (show 0 ≤ 1 ∧ 1 ≤ 1 from ⟨by omega, by omega⟩)
  refine lv_aload_n hx hb dX12_takeBest_5 rfl (lv_at hl 0 rfl) ?_
  refine lv_dup hx hb dX12_takeBest_6 rfl ?_
  have q_4 : (-2147483648) ≤ S.1 231 66 ∧ S.1 231 66 ≤ 2147483647 := hI.fi 66
  refine g_X12_502 Cx hW (k := 231) (by decide) rfl (v := S.1 231 66) (uF_ne (fun h => absurd h.2 (by decide))) dX12_takeBest_7 ?_
  refine lv_iconst (v := iv 1) hx hb dX12_takeBest_10 (by decide) ?_
  refine r_iadd hx hb dX12_takeBest_11 ?_
  obtain ⟨z_5, ez_5, hz_5, kz_5⟩ := iv_of (iv ((S.1 231 66) + 1))
  rw [ez_5]
  refine p_X12_502 Cx hW hL (k := 231) (by decide) rfl dX12_takeBest_12 (fun H locs hW hL => ?_)
  have F_6 : Fr S (uF (uF S 231 79 1) 231 66 z_5) (pl [231, 272, 273, 274]) := F_1.F rfl
  have g_7 : FF S (uF (uF S 231 79 1) 231 66 z_5) (fl [66, 79]) := FF.F g_2 rfl
  have i_8 : dX G (uF (uF S 231 79 1) 231 66 z_5) := i_3.F (i := 66) (show (-2147483648) ≤ z_5 ∧ z_5 ≤ 2147483647 from ⟨by omega, by omega⟩)
  refine lv_aload_n hx hb dX12_takeBest_15 rfl (lv_at hl 0 rfl) ?_
  refine g_X12_103 Cx hW (k := 231) (by decide) rfl (v := .ref (G.2.2.1 + 262)) (rd_53 i_8) dX12_takeBest_16 ?_
  refine lv_iconst (v := iv 0) hx hb dX12_takeBest_19 (by decide) ?_
  refine lv_aload_n hx hb dX12_takeBest_20 rfl (lv_at hl 0 rfl) ?_
  refine g_X12_134 Cx hW (k := 231) (by decide) rfl (v := .ref (G.2.2.1 + 272)) (rd_80 i_8) dX12_takeBest_21 ?_
  refine lv_iconst (v := iv 0) hx hb dX12_takeBest_24 (by decide) ?_
  refine sBv (sSt (As := [.ref (G.2.2.1 + 262), .int (iv 0), .ref (G.2.2.1 + 272), .int (iv 0)]) (rest := []) Cx (s_X12_copy l G (uF (uF S 231 79 1) 231 66 z_5) (ka := 262) (po := 0) (kb := 272) (qo := 0) (Nka := 5280) (Nkb := 8) (La := 6) i_8 ⟨rfl, by decide, by decide, by decide, rfl⟩ ⟨rfl, by decide, by decide, by decide, rfl⟩ (show (272 : Nat) ≠ 262 by decide) (by omega) (by rw [show (uF (uF S 231 79 1) 231 66 z_5).2.1 262 = S.2.1 262 from (funext fun j => (uF_a).trans (uF_a))]; exact hD.at (i := 0) (j := 0) (by omega) (by omega) (by omega) rfl)) (c_X12_233 Cx rfl rfl (rmk_ok (by omega) (by decide))) hW rfl hl.1 rfl (Nat.le_of_ble_eq_true rfl) dX12_takeBest_25 ⟨Nat.le_of_ble_eq_true rfl, Nat.le_of_ble_eq_true rfl⟩) hL (fun u_9 H locs k_10 hW hL => ?_)
  obtain ⟨iu_9, fu_9, xu_9⟩ := k_10
  have F_11 := F_6.trans (fu_9.to (p1_sub rfl))
  have g_12 : FF S u_9 (fl [66, 79]) := FF.fr g_7 fu_9 rfl
  refine lv_aload_n hx hb dX12_takeBest_28 rfl (lv_at hl 0 rfl) ?_
  refine g_X12_109 Cx hW (k := 231) (by decide) rfl (v := .ref (G.2.2.1 + 264)) (rd_55 iu_9) dX12_takeBest_29 ?_
  refine lv_iconst (v := iv 0) hx hb dX12_takeBest_32 (by decide) ?_
  refine lv_aload_n hx hb dX12_takeBest_33 rfl (lv_at hl 0 rfl) ?_
  refine g_X12_137 Cx hW (k := 231) (by decide) rfl (v := .ref (G.2.2.1 + 273)) (rd_81 iu_9) dX12_takeBest_34 ?_
  refine lv_iconst (v := iv 0) hx hb dX12_takeBest_37 (by decide) ?_
  refine sBv (sSt (As := [.ref (G.2.2.1 + 264), .int (iv 0), .ref (G.2.2.1 + 273), .int (iv 0)]) (rest := []) Cx (s_X12_copy l G u_9 (ka := 264) (po := 0) (kb := 273) (qo := 0) (Nka := 8) (Nkb := 8) (La := 6) iu_9 ⟨rfl, by decide, by decide, by decide, rfl⟩ ⟨rfl, by decide, by decide, by decide, rfl⟩ (show (273 : Nat) ≠ 264 by decide) (by omega) (by rw [show u_9.2.1 264 = S.2.1 264 from (funext fun j => ((fu_9 264 rfl).2.1 j).trans ((uF_a).trans (uF_a)))]; exact hD.2.2.1)) (c_X12_233 Cx rfl rfl (rmk_ok (by omega) (by decide))) hW rfl hl.1 rfl (Nat.le_of_ble_eq_true rfl) dX12_takeBest_38 ⟨Nat.le_of_ble_eq_true rfl, Nat.le_of_ble_eq_true rfl⟩) hL (fun u_13 H locs k_14 hW hL => ?_)
  obtain ⟨iu_13, fu_13, xu_13⟩ := k_14
  have F_15 := F_11.trans (fu_13.to (p1_sub rfl))
  have g_16 : FF S u_13 (fl [66, 79]) := FF.fr g_12 fu_13 rfl
  refine lv_iconst (v := iv 1) hx hb dX12_takeBest_41 (by decide) ?_
  refine lv_istore_n (lv' := [(1, .int (iv 1)), (0, .ref (G.2.2.1 + 231))]) hx hb dX12_takeBest_42 rfl hl (by decide) rfl (fun ls hl => ?_)
  have loop_43 : ∀ (fuel : Nat) (S43 : sS) (j : Int) (H : Heap) (locs : List Loc) (ls : Array Slot), (13 - j).toNat < fuel → (dX G S43) → (Fr S S43 (pl [231, 272, 273, 274])) → (Fr u_13 S43 (pl [274])) → (FF S S43 (fl [66, 79])) → (FF u_13 S43 (fl [])) → (1 ≤ j ∧ j ≤ 13) → (∀ t, 1 ≤ t → t < j → S43.2.1 274 (8 * t) = 0) → sW G 294 S43 H → sL G locs → lv_has ls 2 [(1, .int (iv j)), (0, .ref (G.2.2.1 + 231))] → W p l e (rmk 4 0 0) s m args below meth c H locs 0 0 (MQ below (sQv G 294 (fun u => dX G u ∧ Fr S u (pl [231, 272, 273, 274]) ∧ FF S u (fl [66, 79]) ∧ (BS u ∧ u.1 231 79 = 1 ∧ Hd (nv (u.2.1 272) 0 = nv (S.2.1 262) 0 ∧ nv (u.2.1 273) 0 = nv (S.2.1 264) 0 ∧ ∀ b, 1 ≤ b → b ≤ S.1 231 46 → nv (u.2.1 274) (8 * b) = ptB d b)))) args s 0 0 (sF G)) (F0 m 43 ls []) := by
    intro fuel
    induction fuel with
    | zero => intro S43 j H locs ls hmeas hI43 hFm43 hL43_ hGm43 gL43_ hj hz43 hW hL hl; exact absurd hmeas (Nat.not_lt_zero _)
    | succ fuel ih_43 =>
      intro S43 j H locs ls hmeas hI43 hFm43 hL43_ hGm43 gL43_ hj hz43 hW hL hl
      refine lv_iload_n hx hb dX12_takeBest_43 rfl (lv_at hl 0 rfl) ?_
      refine lv_aload_n hx hb dX12_takeBest_44 rfl (lv_at hl 1 rfl) ?_
      have q_17 : (-2147483648) ≤ S.1 231 46 ∧ S.1 231 46 ≤ 2147483647 := hI.fi 46
      refine g_X12_465 Cx hW (k := 231) (by decide) rfl (v := S.1 231 46) ((gL43_ 46 rfl).trans (((fu_13 231 rfl).1 46).trans (((fu_9 231 rfl).1 46).trans ((uF_ne (fun h => absurd h.2 (by decide))).trans (uF_ne (fun h => absurd h.2 (by decide))))))) dX12_takeBest_45 ?_
      refine r_icmp_gt (tgt := 67) hx hb ⟨(by omega), (by omega)⟩ ⟨(by omega), (by omega)⟩ dX12_takeBest_48 (by decide) (fun c_18 => ?_) (fun c_18 => ?_)
      · refine lv_iconst (v := iv 1) hx hb dX12_takeBest_67 (by decide) ?_
        refine lv_istore_n (lv' := [(1, .int (iv 1)), (0, .ref (G.2.2.1 + 231))]) hx hb dX12_takeBest_68 rfl hl (by decide) rfl (fun ls hl => ?_)
        have loop_69 : ∀ (fuel : Nat) (S69 : sS) (i : Int) (H : Heap) (locs : List Loc) (ls : Array Slot), (S.1 231 58 + 1 - i).toNat < fuel → (dX G S69) → (Fr S S69 (pl [231, 272, 273, 274])) → (Fr S43 S69 (pl [274])) → (FF S S69 (fl [66, 79])) → (FF S43 S69 (fl [])) → (1 ≤ i ∧ i ≤ S.1 231 58 + 1) → (∀ j, 1 ≤ j → j ≤ S.1 231 46 → NO (S69.2.1 274) (8 * j) 6) → (Hd (∀ b, 1 ≤ b → b ≤ S.1 231 46 → nv (S69.2.1 274) (8 * b) = rpV (fun i => d.2.1 i 0) d b (i - 1).toNat)) → sW G 294 S69 H → sL G locs → lv_has ls 2 [(1, .int (iv i)), (0, .ref (G.2.2.1 + 231))] → W p l e (rmk 4 0 0) s m args below meth c H locs 0 0 (MQ below (sQv G 294 (fun u => dX G u ∧ Fr S u (pl [231, 272, 273, 274]) ∧ FF S u (fl [66, 79]) ∧ (BS u ∧ u.1 231 79 = 1 ∧ Hd (nv (u.2.1 272) 0 = nv (S.2.1 262) 0 ∧ nv (u.2.1 273) 0 = nv (S.2.1 264) 0 ∧ ∀ b, 1 ≤ b → b ≤ S.1 231 46 → nv (u.2.1 274) (8 * b) = ptB d b)))) args s 0 0 (sF G)) (F0 m 69 ls []) := by
          intro fuel
          induction fuel with
          | zero => intro S69 i H locs ls hmeas hI69 hFm69 hL69_ hGm69 gL69_ hi hz69 hv69 hW hL hl; exact absurd hmeas (Nat.not_lt_zero _)
          | succ fuel ih_69 =>
            intro S69 i H locs ls hmeas hI69 hFm69 hL69_ hGm69 gL69_ hi hz69 hv69 hW hL hl
            refine lv_iload_n hx hb dX12_takeBest_69 rfl (lv_at hl 0 rfl) ?_
            refine lv_aload_n hx hb dX12_takeBest_70 rfl (lv_at hl 1 rfl) ?_
            have q_19 : (-2147483648) ≤ S.1 231 58 ∧ S.1 231 58 ≤ 2147483647 := hI.fi 58
            refine g_X12_483 Cx hW (k := 231) (by decide) rfl (v := S.1 231 58) ((gL69_ 58 rfl).trans ((gL43_ 58 rfl).trans (((fu_13 231 rfl).1 58).trans (((fu_9 231 rfl).1 58).trans ((uF_ne (fun h => absurd h.2 (by decide))).trans (uF_ne (fun h => absurd h.2 (by decide)))))))) dX12_takeBest_71 ?_
            refine r_icmp_gt (tgt := 134) hx hb ⟨(by omega), (by omega)⟩ ⟨(by omega), (by omega)⟩ dX12_takeBest_74 (by decide) (fun c_20 => ?_) (fun c_20 => ?_)
            · have lk_21 : S69.1 231 79 = 1 := (gL69_ 79 rfl).trans ((gL43_ 79 rfl).trans (((fu_13 231 rfl).1 79).trans (((fu_9 231 rfl).1 79).trans ((uF_ne (fun h => absurd h.2 (by decide))).trans (uF_on)))))
              exact sVret Cx hr hlk hW hL ⟨hI69, hFm69, hGm69, ⟨⟨(by rw [show S69.2.1 272 = u_9.2.1 272 from (funext fun j => ((hL69_ 272 rfl).2.1 j).trans (((hL43_ 272 rfl).2.1 j).trans ((fu_13 272 rfl).2.1 j)))]; exact xu_9.1.1), (by rw [show S69.2.1 273 = u_13.2.1 273 from (funext fun j => ((hL69_ 273 rfl).2.1 j).trans ((hL43_ 273 rfl).2.1 j))]; exact xu_13.1.1), (by rw [show S69.2.1 273 = u_13.2.1 273 from (funext fun j => ((hL69_ 273 rfl).2.1 j).trans ((hL43_ 273 rfl).2.1 j)), xu_13.1.2.1, show u_9.2.1 264 = S.2.1 264 from (funext fun j => ((fu_9 264 rfl).2.1 j).trans ((uF_a).trans (uF_a)) : u_9.2.1 264 = S.2.1 264)]; exact hD.2.2.2), (by have e6 : S69.1 231 46 = S.1 231 46 := (gL69_ 46 rfl).trans ((gL43_ 46 rfl).trans (((fu_13 231 rfl).1 46).trans (((fu_9 231 rfl).1 46).trans ((uF_ne (fun h => absurd h.2 (by decide))).trans (uF_ne (fun h => absurd h.2 (by decide))))))); rw [e6]; exact fun j a b => hz69 j a (by omega))⟩, (gL69_ 79 rfl).trans ((gL43_ 79 rfl).trans (((fu_13 231 rfl).1 79).trans (((fu_9 231 rfl).1 79).trans ((uF_ne (fun h => absurd h.2 (by decide))).trans (uF_on))))), (by rw [show S69.2.1 272 = u_9.2.1 272 from (funext fun j => ((hL69_ 272 rfl).2.1 j).trans (((hL43_ 272 rfl).2.1 j).trans ((fu_13 272 rfl).2.1 j))), xu_9.1.2.1, show (uF (uF S 231 79 1) 231 66 z_5).2.1 262 = S.2.1 262 from (funext fun j => (uF_a).trans (uF_a) : (uF (uF S 231 79 1) 231 66 z_5).2.1 262 = S.2.1 262)]), (by rw [show S69.2.1 273 = u_13.2.1 273 from (funext fun j => ((hL69_ 273 rfl).2.1 j).trans ((hL43_ 273 rfl).2.1 j)), xu_13.1.2.1, show u_9.2.1 264 = S.2.1 264 from (funext fun j => ((fu_9 264 rfl).2.1 j).trans ((uF_a).trans (uF_a)) : u_9.2.1 264 = S.2.1 264)]), (fun b b0 b1 => by have y := hv69 b b0 b1; rw [show i - 1 = d.2.2.2.2.1 by omega] at y; exact y)⟩⟩ dX12_takeBest_134
            · have join_128 : ∀ (S128 : sS)  (H : Heap) (locs : List Loc) (ls : Array Slot), (dX G S128) → (Fr S S128 (pl [231, 272, 273, 274])) → (Fr S43 S128 (pl [274])) → (Fr S69 S128 (pl [274])) → (FF S S128 (fl [66, 79])) → (FF S43 S128 (fl [])) → (FF S69 S128 (fl [])) → (∀ j, 1 ≤ j → j ≤ S.1 231 46 → NO (S128.2.1 274) (8 * j) 6) → (Hd (∀ b, 1 ≤ b → b ≤ S.1 231 46 → nv (S128.2.1 274) (8 * b) = rpV (fun i => d.2.1 i 0) d b ((i + 1) - 1).toNat)) → sW G 294 S128 H → sL G locs → lv_has ls 2 [(1, .int (iv i)), (0, .ref (G.2.2.1 + 231))] → W p l e (rmk 4 0 0) s m args below meth c H locs 0 0 (MQ below (sQv G 294 (fun u => dX G u ∧ Fr S u (pl [231, 272, 273, 274]) ∧ FF S u (fl [66, 79]) ∧ (BS u ∧ u.1 231 79 = 1 ∧ Hd (nv (u.2.1 272) 0 = nv (S.2.1 262) 0 ∧ nv (u.2.1 273) 0 = nv (S.2.1 264) 0 ∧ ∀ b, 1 ≤ b → b ≤ S.1 231 46 → nv (u.2.1 274) (8 * b) = ptB d b)))) args s 0 0 (sF G)) (F0 m 128 ls []) := by
                intro S128  H locs ls hI128 hFm128 hFL69128 hL128_ hGm128 hGL69128 gL128_ hz128 hv128 hW hL hl
                refine lv_iinc (v := iv (i + 1)) (lv' := [(1, .int (iv (i + 1))), (0, .ref (G.2.2.1 + 231))]) hx hb dX12_takeBest_128 hl (k := 0) rfl ((Int32.ofInt_add _ _).symm) (by decide) rfl (fun ls hl => ?_)
                refine lv_goto (tgt := 69) hx hb dX12_takeBest_131 (by decide) ?_
                exact ih_69 S128 (i + 1) _ _ _ (by omega) hI128 hFm128 hFL69128 hGm128 hGL69128 (by omega) hz128 hv128 hW hL (lv_sub hl [0, 1] rfl)
              refine lv_aload_n hx hb dX12_takeBest_77 rfl (lv_at hl 1 rfl) ?_
              refine g_X12_112 Cx hW (k := 231) (by decide) rfl (v := .ref (G.2.2.1 + 265)) (rd_56 hI69) dX12_takeBest_78 ?_
              refine lv_iload_n hx hb dX12_takeBest_81 rfl (lv_at hl 0 rfl) ?_
              refine rIald Cx hW (k := 265) (by decide) rfl (by decide) (by omega) (by omega) dX12_takeBest_82 ?_
              have q_22 : (-2147483648) ≤ S.2.1 265 i ∧ S.2.1 265 i ≤ 2147483647 := hI.ai 265 i
              refine r_i (b := S.2.1 265 i) (((hL69_ 265 rfl).2.1 i).trans (((hL43_ 265 rfl).2.1 i).trans (((fu_13 265 rfl).2.1 i).trans (((fu_9 265 rfl).2.1 i).trans ((uF_a).trans (uF_a)))))) ?_
              refine lv_iconst (v := iv 1) hx hb dX12_takeBest_83 (by decide) ?_
              refine r_icmp_lt (tgt := 128) hx hb ⟨(by omega), (by omega)⟩ ⟨(by omega), (by omega)⟩ dX12_takeBest_84 (by decide) (fun c_23 => ?_) (fun c_23 => ?_)
              · exact join_128 S69  _ _ _ hI69 hFm69 hL69_ (Fr.rf : Fr S69 S69 (pl [274])) hGm69 gL69_ (FF.rf : FF S69 S69 (fl [])) hz69 (fun b b0 b1 => by have hbi : S.2.1 265 i = d.2.2.1 i := hRd.2.2.1 i (by omega) (by omega); rw [rpV_n (by omega) (fun z => by omega)]; exact hv69 b b0 b1) hW hL (lv_sub hl [0, 1] rfl)
              · refine lv_aload_n hx hb dX12_takeBest_87 rfl (lv_at hl 1 rfl) ?_
                refine g_X12_112 Cx hW (k := 231) (by decide) rfl (v := .ref (G.2.2.1 + 265)) (rd_56 hI69) dX12_takeBest_88 ?_
                refine lv_iload_n hx hb dX12_takeBest_91 rfl (lv_at hl 0 rfl) ?_
                refine rIald Cx hW (k := 265) (by decide) rfl (by decide) (by omega) (by omega) dX12_takeBest_92 ?_
                refine r_i (b := S.2.1 265 i) (((hL69_ 265 rfl).2.1 i).trans (((hL43_ 265 rfl).2.1 i).trans (((fu_13 265 rfl).2.1 i).trans (((fu_9 265 rfl).2.1 i).trans ((uF_a).trans (uF_a)))))) ?_
                refine lv_aload_n hx hb dX12_takeBest_93 rfl (lv_at hl 1 rfl) ?_
                refine g_X12_465 Cx hW (k := 231) (by decide) rfl (v := S.1 231 46) ((gL69_ 46 rfl).trans ((gL43_ 46 rfl).trans (((fu_13 231 rfl).1 46).trans (((fu_9 231 rfl).1 46).trans ((uF_ne (fun h => absurd h.2 (by decide))).trans (uF_ne (fun h => absurd h.2 (by decide)))))))) dX12_takeBest_94 ?_
                refine r_icmp_gt (tgt := 128) hx hb ⟨(by omega), (by omega)⟩ ⟨(by omega), (by omega)⟩ dX12_takeBest_97 (by decide) (fun c_24 => ?_) (fun c_24 => ?_)
                · exact join_128 S69  _ _ _ hI69 hFm69 hL69_ (Fr.rf : Fr S69 S69 (pl [274])) hGm69 gL69_ (FF.rf : FF S69 S69 (fl [])) hz69 (fun b b0 b1 => by have hbi : S.2.1 265 i = d.2.2.1 i := hRd.2.2.1 i (by omega) (by omega); rw [rpV_n (by omega) (fun z => by omega)]; exact hv69 b b0 b1) hW hL (lv_sub hl [0, 1] rfl)
                · refine lv_aload_n hx hb dX12_takeBest_100 rfl (lv_at hl 1 rfl) ?_
                  refine g_X12_103 Cx hW (k := 231) (by decide) rfl (v := .ref (G.2.2.1 + 262)) (rd_53 hI69) dX12_takeBest_101 ?_
                  refine lv_aload_n hx hb dX12_takeBest_104 rfl (lv_at hl 1 rfl) ?_
                  refine lv_iload_n hx hb dX12_takeBest_105 rfl (lv_at hl 0 rfl) ?_
                  refine lv_iconst (v := iv 1) hx hb dX12_takeBest_106 (by decide) ?_
                  refine r_iadd hx hb dX12_takeBest_107 ?_
                  refine lv_iconst (v := iv 0) hx hb dX12_takeBest_108 (by decide) ?_
                  refine sBi (sV (As := [.int (iv (i + 1)), .int (iv 0)]) (rest := [.ref (G.2.2.1 + 262)]) (k := 231) Cx (s_X12_cell l G S69 (i := i + 1) (j := 0) (by omega) (by omega)) (c_X12_529 Cx rfl rfl (rmk_ok (by omega) (by decide))) hW (by decide) rfl rfl rfl hl.1 rfl (Nat.le_of_ble_eq_true rfl) dX12_takeBest_109 ⟨Nat.le_of_ble_eq_true rfl, Nat.le_of_ble_eq_true rfl⟩) hL (fun r_27 u_25 H locs k_26 hW hL => ?_)
                  obtain ⟨eu_25, xu_25⟩ := k_26
                  rw [eu_25] at hW
                  refine lv_aload_n hx hb dX12_takeBest_112 rfl (lv_at hl 1 rfl) ?_
                  refine g_X12_140 Cx hW (k := 231) (by decide) rfl (v := .ref (G.2.2.1 + 274)) (rd_82 hI69) dX12_takeBest_113 ?_
                  refine lv_bipush (v := iv 8) hx hb dX12_takeBest_116 (by decide) ?_
                  refine lv_aload_n hx hb dX12_takeBest_118 rfl (lv_at hl 1 rfl) ?_
                  refine g_X12_112 Cx hW (k := 231) (by decide) rfl (v := .ref (G.2.2.1 + 265)) (rd_56 hI69) dX12_takeBest_119 ?_
                  refine lv_iload_n hx hb dX12_takeBest_122 rfl (lv_at hl 0 rfl) ?_
                  refine rIald Cx hW (k := 265) (by decide) rfl (by decide) (by omega) (by omega) dX12_takeBest_123 ?_
                  refine r_i (b := S.2.1 265 i) (((hL69_ 265 rfl).2.1 i).trans (((hL43_ 265 rfl).2.1 i).trans (((fu_13 265 rfl).2.1 i).trans (((fu_9 265 rfl).2.1 i).trans ((uF_a).trans (uF_a)))))) ?_
                  refine r_imul hx hb dX12_takeBest_124 ?_
                  refine sBv (sSt (As := [.ref (G.2.2.1 + 262), .int (iv r_27), .ref (G.2.2.1 + 274), .int (iv (8 * (S.2.1 265 i)))]) (rest := []) Cx (s_X12_copy l G S69 (ka := 262) (po := r_27) (kb := 274) (qo := 8 * (S.2.1 265 i)) (Nka := 5280) (Nkb := 104) (La := 6) hI69 ⟨rfl, by decide, by decide, by decide, rfl⟩ ⟨rfl, by decide, by decide, by decide, rfl⟩ (show (274 : Nat) ≠ 262 by decide) (by omega) (by rw [show S69.2.1 262 = S.2.1 262 from (funext fun j => ((hL69_ 262 rfl).2.1 j).trans (((hL43_ 262 rfl).2.1 j).trans (((fu_13 262 rfl).2.1 j).trans (((fu_9 262 rfl).2.1 j).trans ((uF_a).trans (uF_a))))))]; exact hD.at (i := i + 1) (j := 0) (by omega) (by omega) (by omega) (by omega))) (c_X12_233 Cx rfl rfl (rmk_ok (by omega) (by decide))) hW rfl hl.1 rfl (Nat.le_of_ble_eq_true rfl) dX12_takeBest_125 ⟨Nat.le_of_ble_eq_true rfl, Nat.le_of_ble_eq_true rfl⟩) hL (fun u_28 H locs k_29 hW hL => ?_)
                  obtain ⟨iu_28, fu_28, xu_28⟩ := k_29
                  have F_30 := hFm69.trans (fu_28.to (p1_sub rfl))
                  have F_31 := hL69_.trans (fu_28.to (p1_sub rfl))
                  have F_32 := (Fr.rf : Fr S69 S69 (pl [274])).trans (fu_28.to (p1_sub rfl))
                  have g_33 : FF S u_28 (fl [66, 79]) := FF.fr hGm69 fu_28 rfl
                  have g_34 : FF S43 u_28 (fl []) := FF.fr gL69_ fu_28 rfl
                  have g_35 : FF S69 u_28 (fl []) := FF.fr (FF.rf : FF S69 S69 (fl [])) fu_28 rfl
                  exact join_128 u_28  _ _ _ iu_28 F_30 F_31 F_32 g_33 g_34 g_35 (fun k a b => if e : k = S.2.1 265 i then (by rw [e]; exact xu_28.1.1) else ((hz69 k a b).same (fun x x0 x1 => xu_28.2 x (c8_far e ⟨x0, x1⟩))).1) (fun b b0 b1 => by have hbi : S.2.1 265 i = d.2.2.1 i := hRd.2.2.1 i (by omega) (by omega); by_cases e : b = S.2.1 265 i; (rw [e, xu_28.1.2.1, rpV_y hxi (by omega) hbi.symm, show S69.2.1 262 = S.2.1 262 from (funext fun j => ((hL69_ 262 rfl).2.1 j).trans (((hL43_ 262 rfl).2.1 j).trans (((fu_13 262 rfl).2.1 j).trans (((fu_9 262 rfl).2.1 j).trans ((uF_a).trans (uF_a))))))]; exact hRd.vv (i := i) (j := 0) (by omega) (by omega) (by omega) (by rw [rI_p (by omega)]; omega)); (rw [rpV_n (by omega) (fun z => e (by omega)), ((hz69 b b0 b1).same (fun x x0 x1 => xu_28.2 x (c8_far e ⟨x0, x1⟩))).2]; exact hv69 b b0 b1)) hW hL (lv_sub hl [0, 1] rfl)
        exact loop_69 (_ + 1) S43 1 _ _ _ (Nat.lt_succ_self _) hI43 hFm43 Fr.rf hGm43 FF.rf (by omega) (fun t a b => NO_z (hz43 t a (by omega)) (by omega)) (fun b b0 b1 => by rw [nv_z (hz43 b b0 (by omega))]; exact rpV_0.symm) hW hL (lv_sub hl [0, 1] rfl)
      · refine lv_aload_n hx hb dX12_takeBest_51 rfl (lv_at hl 1 rfl) ?_
        refine g_X12_140 Cx hW (k := 231) (by decide) rfl (v := .ref (G.2.2.1 + 274)) (rd_82 hI43) dX12_takeBest_52 ?_
        refine lv_bipush (v := iv 8) hx hb dX12_takeBest_55 (by decide) ?_
        refine lv_iload_n hx hb dX12_takeBest_57 rfl (lv_at hl 0 rfl) ?_
        refine r_imul hx hb dX12_takeBest_58 ?_
        refine lv_iconst (v := iv 0) hx hb dX12_takeBest_59 (by decide) ?_
        refine rIast Cx hW hL (k := 274) (by decide) rfl (by decide) (by omega) (by omega) dX12_takeBest_60 (fun H locs hW hL => ?_)
        have F_36 : Fr S (uA S43 274 (8 * j) 0) (pl [231, 272, 273, 274]) := hFm43.A rfl
        have F_37 : Fr u_13 (uA S43 274 (8 * j) 0) (pl [274]) := hL43_.A rfl
        have i_38 : dX G (uA S43 274 (8 * j) 0) := hI43.A (k := 274) (show (-2147483648) ≤ 0 ∧ 0 ≤ 2147483647 from ⟨by omega, by omega⟩)
        refine lv_iinc (v := iv (j + 1)) (lv' := [(1, .int (iv (j + 1))), (0, .ref (G.2.2.1 + 231))]) hx hb dX12_takeBest_61 hl (k := 0) rfl ((Int32.ofInt_add _ _).symm) (by decide) rfl (fun ls hl => ?_)
        refine lv_goto (tgt := 43) hx hb dX12_takeBest_64 (by decide) ?_
        exact ih_43 (uA S43 274 (8 * j) 0) (j + 1) _ _ _ (by omega) i_38 F_36 F_37 hGm43 gL43_ (by omega) (fun t a b => by rw [uA_get]; split; rfl; rename_i q; exact hz43 t a (by omega)) hW hL (lv_sub hl [0, 1] rfl)
  exact loop_43 (_ + 1) u_13 1 _ _ _ (Nat.lt_succ_self _) iu_13 F_15 Fr.rf g_16 FF.rf (by omega) (fun t a b => absurd b (by omega)) hW hL (lv_sub hl [0, 1] rfl)
