/-! The reference's rows of a child -/
def crv (sec D : Int) (t : Int → Int) (b : Int) : Int := if b = 0 then (if sec = 0 then -(t 0 % D) else t 0 % D - D) else (if sec = 0 then -t b else t b)
theorem crv_e {sec D t x : Int} (hs : 0 ≤ sec ∧ sec ≤ 1) (h : x = (if sec = 0 then -t else t) + asn sec ((t / D + sec) * D)) : x = if sec = 0 then -(t % D) else t % D - D := by
  have e := Int.mul_ediv_add_emod t D
  rcases (by omega : sec = 0 ∨ sec = 1) with q | q
  · subst q
    rw [if_pos rfl] at h ⊢
    rw [h, asn_0, Int.add_zero, Int.mul_comm]; omega
  · subst q
    rw [if_neg (by decide)] at h ⊢
    rw [h, asn_1, Int.add_mul, Int.one_mul, Int.mul_comm]; omega
theorem crv_b {sec D t : Int} (hD : 0 < D) : -D ≤ (if sec = 0 then -(t % D) else t % D - D) ∧ (if sec = 0 then -(t % D) else t % D - D) ≤ 0 := by
  have a := Int.emod_nonneg t (show D ≠ 0 by omega)
  have b := Int.emod_lt_of_pos t hD
  split <;> omega
def RVp (f g : Int → Int) (m j : Int) (v : Int → Int) : Prop := (∀ x, x < cl (m + 2) 0 → f x = g x) ∧ ∀ b, 0 ≤ b → b < j → nv f (cl (m + 2) b) = v b
theorem RVp.old {f g v : Int → Int} {m j a b : Int} (h : RVp f g m j v) (hN : NO g (cl a b) 6) (ha : 0 ≤ a ∧ a ≤ m + 1) (hb : 0 ≤ b ∧ b ≤ 14) : nv f (cl a b) = nv g (cl a b) := (hN.same (fun x x0 x1 => h.1 x (by unfold cl at x0 x1 ⊢; omega))).2
theorem RVp.put {f f' g v : Int → Int} {m ps hw j p : Int} (h : RVp f g m j v) (hD : DKp f m ps hw j) (hp : p = cl (m + 2) j) (hj : 0 ≤ j ∧ j ≤ 14) (ho : ∀ x, x < p ∨ p + 6 < x → f' x = f x) (hv : nv f' p = v j) : RVp f' g m (j + 1) v := by
  subst hp
  refine ⟨fun x hx => (ho x (.inl (by unfold cl at hx ⊢; omega))).trans (h.1 x hx), fun b b0 b1 => ?_⟩
  by_cases e : b = j
  · rw [e]; exact hv
  · exact ((hD.2 b b0 (by omega)).same (g := f') (fun x x0 x1 => ho x (by unfold cl at x0 x1 ⊢; omega))).2.trans (h.2 b b0 (by omega))
theorem RVp.fin {f f' g v : Int → Int} {m ps hw j p : Int} (h : RVp f g m j v) (hD : DKp f m ps hw j) (hj : ps < j) (hps : ps ≤ 14) (hp : p = cl (m + 2) 0) (ho : ∀ x, x < p ∨ p + 6 < x → f' x = f x) : (∀ x, x < cl (m + 2) 0 → f' x = g x) ∧ ∀ b, 1 ≤ b → b ≤ ps → nv f' (cl (m + 2) b) = v b := by
  subst hp
  refine ⟨fun x hx => (ho x (.inl hx)).trans (h.1 x hx), fun b b0 b1 => ?_⟩
  exact ((hD.2 b (by omega) (by omega)).same (g := f') (fun x x0 x1 => ho x (by unfold cl at x0 x1 ⊢; omega))).2.trans (h.2 b (by omega) (by omega))
set_option maxRecDepth 100000 in
set_option maxHeartbeats 4000000 in
theorem r_X12_childRow (l : Launch) (G : sG) (S : sS) {rr sec : Int} (hI : dX G S) (hK : DKo (S.2.1 262) (S.1 231 58 - 1) (S.1 231 59) (S.1 231 60)) (hN64 : NO (S.2.1 264) 0 6 ∧ 0 < nv (S.2.1 264) 0) (hRW : RW S) (hbd : (1 ≤ S.1 231 58 ∧ S.1 231 58 ≤ 40) ∧ (0 ≤ S.1 231 59 ∧ S.1 231 59 ≤ 13) ∧ (1 ≤ S.1 231 63 ∧ S.1 231 63 ≤ 40) ∧ 0 ≤ S.1 231 46 ∧ S.1 231 46 ≤ 12) (hr0 : 1 ≤ rr ∧ rr ≤ S.1 231 58 - 1) (hb0 : 1 ≤ S.2.1 265 rr ∧ S.2.1 265 rr ≤ S.1 231 46) (hsec : 0 ≤ sec ∧ sec ≤ 1) : Met l yX12_childRow (.code yX12_childRow cX12_childRow 6 none :: tb) (rmk 6 0 0) (sPc G 294 S [.ref (G.2.2.1 + 231), .int (iv rr), .int (iv sec)]) (sQv G 294 (fun u => dX G u ∧ Fr S u (pl [233, 234, 235, 237, 238, 240, 261, 262, 277]) ∧ FF S u (fl []) ∧ (DOK u ∧ RW u ∧ (∀ x, x < 104 * S.1 231 63 ∨ 104 * S.1 231 63 + 104 ≤ x → u.2.1 261 x = S.2.1 261 x) ∧ Hd (∀ b, 0 ≤ b → b ≤ S.1 231 59 → TV u (S.1 231 58 + 1) b = crv sec (nv (S.2.1 264) 0) (fun b => TV S (rr + 1) b) b) ∧ Hd (∀ x, x < cl (S.1 231 58 + 1) 0 → u.2.1 262 x = S.2.1 262 x)))) 0 0 (sF G) := by
  refine sEnter (by decide) (Nat.le_of_ble_eq_true rfl) ?_
  intro p e s m args below meth c Cx hr hlk hnm hW ls hl
  have Cx : sC G p m c cX12_childRow 6 s args RX12 := Cx
  obtain ⟨hx, hb, hml, hown, hts⟩ := id Cx.1
  have hL : sL G [] := sL_nil
  have hl : lv_has ls 6 [(0, .ref (G.2.2.1 + 231)), (1, .int (iv rr)), (2, .int (iv sec))] := hl
  have hW0 := hW
  refine lv_aload_n hx hb dX12_childRow_0 rfl (lv_at hl 0 rfl) ?_
  refine g_X12_112 Cx hW (k := 231) (by decide) rfl (v := .ref (G.2.2.1 + 265)) (rd_56 hI) dX12_childRow_1 ?_
  refine lv_iload_n hx hb dX12_childRow_4 rfl (lv_at hl 1 rfl) ?_
  refine rIald Cx hW (k := 265) (by decide) rfl (by decide) (by omega) (by omega) dX12_childRow_5 ?_
  have q_1 : (-2147483648) ≤ S.2.1 265 rr ∧ S.2.1 265 rr ≤ 2147483647 := hI.ai 265 rr
  refine r_i (b := S.2.1 265 rr) rfl ?_
  refine lv_istore_n (lv' := [(3, .int (iv (S.2.1 265 rr))), (0, .ref (G.2.2.1 + 231)), (1, .int (iv rr)), (2, .int (iv sec))]) hx hb dX12_childRow_6 rfl hl (by decide) rfl (fun ls hl => ?_)
  refine lv_iconst (v := iv 0) hx hb dX12_childRow_7 (by decide) ?_
  refine lv_istore (lv' := [(4, .int (iv 0)), (3, .int (iv (S.2.1 265 rr))), (0, .ref (G.2.2.1 + 231)), (1, .int (iv rr)), (2, .int (iv sec))]) hx hb dX12_childRow_8 hl (by decide) rfl (fun ls hl => ?_)
  have loop_10 : ∀ (fuel : Nat) (S10 : sS) (j : Int) (H : Heap) (locs : List Loc) (ls : Array Slot), (S.1 231 46 + 1 - j).toNat < fuel → (dX G S10) → (Fr S S10 (pl [233, 234, 235, 237, 238, 240, 261, 262, 277])) → (Fr S S10 (pl [261])) → (FF S S10 (fl [])) → (FF S S10 (fl [])) → (0 ≤ j ∧ j ≤ S.1 231 46 + 1) → (RWf (S10.2.1 261)) → (∀ x, x < 104 * S.1 231 63 ∨ 104 * S.1 231 63 + 104 ≤ x → S10.2.1 261 x = S.2.1 261 x) → sW G 294 S10 H → sL G locs → lv_has ls 6 [(4, .int (iv j)), (3, .int (iv (S.2.1 265 rr))), (0, .ref (G.2.2.1 + 231)), (1, .int (iv rr)), (2, .int (iv sec))] → W p l e (rmk 6 0 0) s m args below meth c H locs 0 0 (MQ below (sQv G 294 (fun u => dX G u ∧ Fr S u (pl [233, 234, 235, 237, 238, 240, 261, 262, 277]) ∧ FF S u (fl []) ∧ (DOK u ∧ RW u ∧ (∀ x, x < 104 * S.1 231 63 ∨ 104 * S.1 231 63 + 104 ≤ x → u.2.1 261 x = S.2.1 261 x) ∧ Hd (∀ b, 0 ≤ b → b ≤ S.1 231 59 → TV u (S.1 231 58 + 1) b = crv sec (nv (S.2.1 264) 0) (fun b => TV S (rr + 1) b) b) ∧ Hd (∀ x, x < cl (S.1 231 58 + 1) 0 → u.2.1 262 x = S.2.1 262 x)))) args s 0 0 (sF G)) (F0 m 10 ls []) := by
    intro fuel
    induction fuel with
    | zero => intro S10 j H locs ls hmeas hI10 hFm10 hL10_ hGm10 gL10_ hj hR10 hO10 hW hL hl; exact absurd hmeas (Nat.not_lt_zero _)
    | succ fuel ih_10 =>
      intro S10 j H locs ls hmeas hI10 hFm10 hL10_ hGm10 gL10_ hj hR10 hO10 hW hL hl
      refine lv_iload hx hb dX12_childRow_10 (lv_at hl 0 rfl) ?_
      refine lv_aload_n hx hb dX12_childRow_12 rfl (lv_at hl 2 rfl) ?_
      have q_2 : (-2147483648) ≤ S.1 231 46 ∧ S.1 231 46 ≤ 2147483647 := hI.fi 46
      refine g_X12_465 Cx hW (k := 231) (by decide) rfl (v := S.1 231 46) (gL10_ 46 rfl) dX12_childRow_13 ?_
      refine r_icmp_gt (tgt := 40) hx hb ⟨(by omega), (by omega)⟩ ⟨(by omega), (by omega)⟩ dX12_childRow_16 (by decide) (fun c_3 => ?_) (fun c_3 => ?_)
      · refine lv_aload_n hx hb dX12_childRow_40 rfl (lv_at hl 2 rfl) ?_
        refine g_X12_100 Cx hW (k := 231) (by decide) rfl (v := .ref (G.2.2.1 + 261)) (rd_52 hI10) dX12_childRow_41 ?_
        refine lv_aload_n hx hb dX12_childRow_44 rfl (lv_at hl 2 rfl) ?_
        have q_4 : (-2147483648) ≤ S.1 231 63 ∧ S.1 231 63 ≤ 2147483647 := hI.fi 63
        refine g_X12_480 Cx hW (k := 231) (by decide) rfl (v := S.1 231 63) (gL10_ 63 rfl) dX12_childRow_45 ?_
        refine lv_iload_n hx hb dX12_childRow_48 rfl (lv_at hl 1 rfl) ?_
        refine sBi (sSt (As := [.int (iv (S.1 231 63)), .int (iv (S.2.1 265 rr))]) (rest := [.ref (G.2.2.1 + 261)]) Cx (s_X12_rowCell l G S10 (i := S.1 231 63) (j := S.2.1 265 rr) (by omega) (by omega)) (c_X12_486 Cx rfl rfl (rmk_ok (by omega) (by decide))) hW rfl hl.1 rfl (Nat.le_of_ble_eq_true rfl) dX12_childRow_49 ⟨Nat.le_of_ble_eq_true rfl, Nat.le_of_ble_eq_true rfl⟩) hL (fun q1 u_5 H locs k_6 hW hL => ?_)
        obtain ⟨eu_5, xu_5⟩ := k_6
        rw [eu_5] at hW
        have join_63 : ∀ (v1 : Int) (H : Heap) (locs : List Loc) (ls : Array Slot), (-1 ≤ v1 ∧ v1 ≤ 1) → sW G 294 S10 H → sL G locs → lv_has ls 6 [(4, .int (iv j)), (3, .int (iv (S.2.1 265 rr))), (0, .ref (G.2.2.1 + 231)), (1, .int (iv rr)), (2, .int (iv sec))] → W p l e (rmk 6 0 0) s m args below meth c H locs 0 0 (MQ below (sQv G 294 (fun u => dX G u ∧ Fr S u (pl [233, 234, 235, 237, 238, 240, 261, 262, 277]) ∧ FF S u (fl []) ∧ (DOK u ∧ RW u ∧ (∀ x, x < 104 * S.1 231 63 ∨ 104 * S.1 231 63 + 104 ≤ x → u.2.1 261 x = S.2.1 261 x) ∧ Hd (∀ b, 0 ≤ b → b ≤ S.1 231 59 → TV u (S.1 231 58 + 1) b = crv sec (nv (S.2.1 264) 0) (fun b => TV S (rr + 1) b) b) ∧ Hd (∀ x, x < cl (S.1 231 58 + 1) 0 → u.2.1 262 x = S.2.1 262 x)))) args s 0 0 (sF G)) (F0 m 63 ls [.long (jv v1), .int (iv q1), .ref (G.2.2.1 + 261)]) := by
          intro v1 H locs ls hv1 hW hL hl
          refine sBv (sSt (As := [.ref (G.2.2.1 + 261), .int (iv q1), .long (jv v1)]) (rest := []) Cx (s_X12_put l G S10 (ka := 261) (po := q1) (v := v1) (Nka := 4368) hI10 ⟨rfl, by decide, by decide, by decide, rfl⟩ (by omega) (by omega)) (c_X12_241 Cx rfl rfl (rmk_ok (by omega) (by decide))) hW rfl hl.1 rfl (Nat.le_of_ble_eq_true rfl) dX12_childRow_63 ⟨Nat.le_of_ble_eq_true rfl, Nat.le_of_ble_eq_true rfl⟩) hL (fun u_7 H locs k_8 hW hL => ?_)
          obtain ⟨iu_7, fu_7, xu_7⟩ := k_8
          have F_9 := hFm10.trans (fu_7.to (p1_sub rfl))
          have F_10 := hL10_.trans (fu_7.to (p1_sub rfl))
          have g_11 : FF S u_7 (fl []) := FF.fr hGm10 fu_7 rfl
          have g_12 : FF S u_7 (fl []) := FF.fr gL10_ fu_7 rfl
          have hR63 : RWf (u_7.2.1 261) := hR10.put (f' := u_7.2.1 261) (k := S.1 231 63) (j := S.2.1 265 rr) (p := q1) (by omega) (by omega) (xu_7.1.mono (by decide)) (fun x a => xu_7.2.2 x (by omega))
          have hO63 : ∀ x, x < 104 * S.1 231 63 ∨ 104 * S.1 231 63 + 104 ≤ x → u_7.2.1 261 x = S.2.1 261 x := fun x a => (xu_7.2.2 x (by omega)).trans (hO10 x a)
          refine lv_aload_n hx hb dX12_childRow_66 rfl (lv_at hl 2 rfl) ?_
          refine lv_aload_n hx hb dX12_childRow_67 rfl (lv_at hl 2 rfl) ?_
          refine g_X12_103 Cx hW (k := 231) (by decide) rfl (v := .ref (G.2.2.1 + 262)) (rd_53 iu_7) dX12_childRow_68 ?_
          refine lv_aload_n hx hb dX12_childRow_71 rfl (lv_at hl 2 rfl) ?_
          refine lv_iload_n hx hb dX12_childRow_72 rfl (lv_at hl 3 rfl) ?_
          refine lv_iconst (v := iv 1) hx hb dX12_childRow_73 (by decide) ?_
          refine r_iadd hx hb dX12_childRow_74 ?_
          refine lv_iconst (v := iv 0) hx hb dX12_childRow_75 (by decide) ?_
          refine sBi (sV (As := [.int (iv (rr + 1)), .int (iv 0)]) (rest := [.ref (G.2.2.1 + 262), .ref (G.2.2.1 + 231)]) (k := 231) Cx (s_X12_cell l G u_7 (i := rr + 1) (j := 0) (by omega) (by omega)) (c_X12_529 Cx rfl rfl (rmk_ok (by omega) (by decide))) hW (by decide) rfl rfl rfl hl.1 rfl (Nat.le_of_ble_eq_true rfl) dX12_childRow_76 ⟨Nat.le_of_ble_eq_true rfl, Nat.le_of_ble_eq_true rfl⟩) hL (fun qd u_13 H locs k_14 hW hL => ?_)
          obtain ⟨eu_13, xu_13⟩ := k_14
          rw [eu_13] at hW
          refine lv_aload_n hx hb dX12_childRow_79 rfl (lv_at hl 2 rfl) ?_
          refine g_X12_109 Cx hW (k := 231) (by decide) rfl (v := .ref (G.2.2.1 + 264)) (rd_55 iu_7) dX12_childRow_80 ?_
          refine lv_iconst (v := iv 0) hx hb dX12_childRow_83 (by decide) ?_
          refine lv_aload_n hx hb dX12_childRow_84 rfl (lv_at hl 2 rfl) ?_
          refine g_X12_26 Cx hW (k := 231) (by decide) rfl (v := .ref (G.2.2.1 + 237)) (rd_7 iu_7) dX12_childRow_85 ?_
          refine lv_iconst (v := iv 0) hx hb dX12_childRow_88 (by decide) ?_
          refine lv_aload_n hx hb dX12_childRow_89 rfl (lv_at hl 2 rfl) ?_
          refine g_X12_35 Cx hW (k := 231) (by decide) rfl (v := .ref (G.2.2.1 + 240)) (rd_10 iu_7) dX12_childRow_90 ?_
          refine lv_iconst (v := iv 0) hx hb dX12_childRow_93 (by decide) ?_
          have hsd2 : u_7.2.1 262 = S.2.1 262 := (show u_7.2.1 262 = S.2.1 262 from (funext fun j => ((fu_7 262 rfl).2.1 j).trans ((hL10_ 262 rfl).2.1 j)))
          have hsd4 : u_7.2.1 264 = S.2.1 264 := (show u_7.2.1 264 = S.2.1 264 from (funext fun j => ((fu_7 264 rfl).2.1 j).trans ((hL10_ 264 rfl).2.1 j)))
          have hfd : NO (u_7.2.1 262) qd 6 := by rw [show u_7.2.1 262 = S.2.1 262 from (funext fun j => ((fu_7 262 rfl).2.1 j).trans ((hL10_ 262 rfl).2.1 j)), show qd = cl (rr + 1) 0 by unfold cl; omega]; exact hK (rr + 1) 0 (by omega) (by omega) (by omega) (by omega) (by omega)
          have hpd : 0 < nv (u_7.2.1 264) 0 := by rw [show u_7.2.1 264 = S.2.1 264 from (funext fun j => ((fu_7 264 rfl).2.1 j).trans ((hL10_ 264 rfl).2.1 j))]; exact hN64.2
          have hbp94 : 0 < u_7.2.1 264 0 := by rw [show u_7.2.1 264 = S.2.1 264 from (funext fun j => ((fu_7 264 rfl).2.1 j).trans ((hL10_ 264 rfl).2.1 j))]; exact hN64.1.sgn.2.1.mp hN64.2
          refine sBv (sV (As := [.ref (G.2.2.1 + 262), .int (iv qd), .ref (G.2.2.1 + 264), .int (iv 0), .ref (G.2.2.1 + 237), .int (iv 0), .ref (G.2.2.1 + 240), .int (iv 0)]) (rest := []) (k := 231) Cx (s_X12_divide l G u_7 (ka := 262) (po := qd) (kb := 264) (qo := 0) (kc := 237) (ro := 0) (kd := 240) (eo := 0) (Nka := 5280) (Nkb := 8) (Nkc := 68) (Nkd := 68) (La := 6) (Lb := 6) (Ld := 7) iu_7 ⟨rfl, by decide, by decide, by decide, rfl⟩ ⟨rfl, by decide, by decide, by decide, rfl⟩ ⟨rfl, by decide, by decide, by decide, rfl⟩ ⟨rfl, by decide, by decide, by decide, rfl⟩ (show (237 : Nat) ≠ 262 by decide) (show (240 : Nat) ≠ 262 by decide) (show (237 : Nat) ≠ 264 by decide) (show (240 : Nat) ≠ 264 by decide) (show (237 : Nat) ≠ 240 by decide) (show (262 : Nat) ≠ 233 by decide) (show (264 : Nat) ≠ 233 by decide) (show (264 : Nat) ≠ 234 by decide) (show (264 : Nat) ≠ 235 by decide) (show (237 : Nat) ≠ 233 by decide) (show (237 : Nat) ≠ 234 by decide) (show (237 : Nat) ≠ 235 by decide) (show (240 : Nat) ≠ 233 by decide) (show (240 : Nat) ≠ 234 by decide) (show (240 : Nat) ≠ 235 by decide) (by omega) (by omega) hfd (by rw [show u_7.2.1 264 = S.2.1 264 from (funext fun j => ((fu_7 264 rfl).2.1 j).trans ((hL10_ 264 rfl).2.1 j))]; exact hN64.1)) (c_X12_266 Cx rfl rfl (rmk_ok (by omega) (by decide))) hW (by decide) rfl rfl rfl hl.1 rfl (Nat.le_of_ble_eq_true rfl) dX12_childRow_94 ⟨Nat.le_of_ble_eq_true rfl, Nat.le_of_ble_eq_true rfl⟩) hL (fun u_15 H locs k_16 hW hL => ?_)
          obtain ⟨iu_15, fu_15, xu_15⟩ := k_16
          have F_17 := F_9.trans (fu_15.to (pl_sub (by decide)))
          have g_18 : FF S u_15 (fl []) := FF.fr g_11 fu_15 rfl
          have g_19 : FF S u_15 (fl []) := FF.fr g_12 fu_15 rfl
          have hfl : nv (u_15.2.1 237) 0 = TV S (rr + 1) 0 / nv (S.2.1 264) 0 := (ediv_u (a := TV S (rr + 1) 0) (b := nv (S.2.1 264) 0) (q := nv (u_15.2.1 237) 0) (r := nv (u_15.2.1 240) 0) (by have e := xu_15.2.2.1.1; rw [hsd2, hsd4, show qd = cl (rr + 1) 0 by unfold cl; omega, Int.mul_comm] at e; exact e) xu_15.2.2.1.2.1 (by have e := xu_15.2.2.1.2.2; rw [hsd4] at e; exact e)).1
          have join_129 : ∀ (S129 : sS)  (H : Heap) (locs : List Loc) (ls : Array Slot), (dX G S129) → (Fr S S129 (pl [233, 234, 235, 237, 238, 240, 261, 262, 277])) → (Fr u_15 S129 (pl [237, 277])) → (FF S S129 (fl [])) → (FF u_15 S129 (fl [])) → (NO (S129.2.1 237) 0 7) → (nv (S129.2.1 237) 0 = TV S (rr + 1) 0 / nv (S.2.1 264) 0 + sec) → sW G 294 S129 H → sL G locs → lv_has ls 6 [(4, .int (iv j)), (3, .int (iv (S.2.1 265 rr))), (0, .ref (G.2.2.1 + 231)), (1, .int (iv rr)), (2, .int (iv sec))] → W p l e (rmk 6 0 0) s m args below meth c H locs 0 0 (MQ below (sQv G 294 (fun u => dX G u ∧ Fr S u (pl [233, 234, 235, 237, 238, 240, 261, 262, 277]) ∧ FF S u (fl []) ∧ (DOK u ∧ RW u ∧ (∀ x, x < 104 * S.1 231 63 ∨ 104 * S.1 231 63 + 104 ≤ x → u.2.1 261 x = S.2.1 261 x) ∧ Hd (∀ b, 0 ≤ b → b ≤ S.1 231 59 → TV u (S.1 231 58 + 1) b = crv sec (nv (S.2.1 264) 0) (fun b => TV S (rr + 1) b) b) ∧ Hd (∀ x, x < cl (S.1 231 58 + 1) 0 → u.2.1 262 x = S.2.1 262 x)))) args s 0 0 (sF G)) (F0 m 129 ls []) := by
            intro S129  H locs ls hI129 hFm129 hL129_ hGm129 gL129_ hN129 hv129 hW hL hl
            refine lv_aload_n hx hb dX12_childRow_129 rfl (lv_at hl 2 rfl) ?_
            refine g_X12_26 Cx hW (k := 231) (by decide) rfl (v := .ref (G.2.2.1 + 237)) (rd_7 hI129) dX12_childRow_130 ?_
            refine lv_iconst (v := iv 0) hx hb dX12_childRow_133 (by decide) ?_
            refine lv_aload_n hx hb dX12_childRow_134 rfl (lv_at hl 2 rfl) ?_
            refine g_X12_100 Cx hW (k := 231) (by decide) rfl (v := .ref (G.2.2.1 + 261)) (rd_52 hI129) dX12_childRow_135 ?_
            refine lv_aload_n hx hb dX12_childRow_138 rfl (lv_at hl 2 rfl) ?_
            refine g_X12_480 Cx hW (k := 231) (by decide) rfl (v := S.1 231 63) ((gL129_ 63 rfl).trans (((fu_15 231 rfl).1 63).trans (((fu_7 231 rfl).1 63).trans (gL10_ 63 rfl)))) dX12_childRow_139 ?_
            refine lv_iconst (v := iv 0) hx hb dX12_childRow_142 (by decide) ?_
            refine sBi (sSt (As := [.int (iv (S.1 231 63)), .int (iv 0)]) (rest := [.ref (G.2.2.1 + 261), .int (iv 0), .ref (G.2.2.1 + 237)]) Cx (s_X12_rowCell l G S129 (i := S.1 231 63) (j := 0) (by omega) (by omega)) (c_X12_486 Cx rfl rfl (rmk_ok (by omega) (by decide))) hW rfl hl.1 rfl (Nat.le_of_ble_eq_true rfl) dX12_childRow_143 ⟨Nat.le_of_ble_eq_true rfl, Nat.le_of_ble_eq_true rfl⟩) hL (fun q2 u_20 H locs k_21 hW hL => ?_)
            obtain ⟨eu_20, xu_20⟩ := k_21
            rw [eu_20] at hW
            refine sBv (sSt (As := [.ref (G.2.2.1 + 237), .int (iv 0), .ref (G.2.2.1 + 261), .int (iv q2)]) (rest := []) Cx (s_X12_copy l G S129 (ka := 237) (po := 0) (kb := 261) (qo := q2) (Nka := 68) (Nkb := 4368) (La := 7) hI129 ⟨rfl, by decide, by decide, by decide, rfl⟩ ⟨rfl, by decide, by decide, by decide, rfl⟩ (show (261 : Nat) ≠ 237 by decide) (by omega) hN129) (c_X12_233 Cx rfl rfl (rmk_ok (by omega) (by decide))) hW rfl hl.1 rfl (Nat.le_of_ble_eq_true rfl) dX12_childRow_146 ⟨Nat.le_of_ble_eq_true rfl, Nat.le_of_ble_eq_true rfl⟩) hL (fun u_22 H locs k_23 hW hL => ?_)
            obtain ⟨iu_22, fu_22, xu_22⟩ := k_23
            have F_24 := hFm129.trans (fu_22.to (p1_sub rfl))
            have g_25 : FF S u_22 (fl []) := FF.fr hGm129 fu_22 rfl
            have g_26 : FF u_15 u_22 (fl []) := FF.fr gL129_ fu_22 rfl
            have hR146 : RWf (u_22.2.1 261) := RWf.put (f := S129.2.1 261) (k := S.1 231 63) (j := 0) (p := q2) (by rw [show S129.2.1 261 = u_7.2.1 261 from (funext fun j => ((hL129_ 261 rfl).2.1 j).trans ((fu_15 261 rfl).2.1 j))]; exact hR63) (by omega) (by omega) xu_22.1.1 (fun x a => xu_22.2 x (by omega))
            have hO146 : ∀ x, x < 104 * S.1 231 63 ∨ 104 * S.1 231 63 + 104 ≤ x → u_22.2.1 261 x = S.2.1 261 x := fun x a => (xu_22.2 x (by omega)).trans (by rw [show S129.2.1 261 = u_7.2.1 261 from (funext fun j => ((hL129_ 261 rfl).2.1 j).trans ((fu_15 261 rfl).2.1 j))]; exact hO63 x a)
            have join_168 : ∀ (S168 : sS)  (H : Heap) (locs : List Loc) (ls : Array Slot), (dX G S168) → (Fr S S168 (pl [233, 234, 235, 237, 238, 240, 261, 262, 277])) → (Fr u_22 S168 (pl [261])) → (FF S S168 (fl [])) → (FF u_22 S168 (fl [])) → (RWf (S168.2.1 261)) → (∀ x, x < 104 * S.1 231 63 ∨ 104 * S.1 231 63 + 104 ≤ x → S168.2.1 261 x = S.2.1 261 x) → sW G 294 S168 H → sL G locs → lv_has ls 6 [(4, .int (iv j)), (3, .int (iv (S.2.1 265 rr))), (0, .ref (G.2.2.1 + 231)), (1, .int (iv rr)), (2, .int (iv sec))] → W p l e (rmk 6 0 0) s m args below meth c H locs 0 0 (MQ below (sQv G 294 (fun u => dX G u ∧ Fr S u (pl [233, 234, 235, 237, 238, 240, 261, 262, 277]) ∧ FF S u (fl []) ∧ (DOK u ∧ RW u ∧ (∀ x, x < 104 * S.1 231 63 ∨ 104 * S.1 231 63 + 104 ≤ x → u.2.1 261 x = S.2.1 261 x) ∧ Hd (∀ b, 0 ≤ b → b ≤ S.1 231 59 → TV u (S.1 231 58 + 1) b = crv sec (nv (S.2.1 264) 0) (fun b => TV S (rr + 1) b) b) ∧ Hd (∀ x, x < cl (S.1 231 58 + 1) 0 → u.2.1 262 x = S.2.1 262 x)))) args s 0 0 (sF G)) (F0 m 168 ls []) := by
              intro S168  H locs ls hI168 hFm168 hL168_ hGm168 gL168_ hR168 hO168 hW hL hl
              refine lv_aload_n hx hb dX12_childRow_168 rfl (lv_at hl 2 rfl) ?_
              refine g_X12_26 Cx hW (k := 231) (by decide) rfl (v := .ref (G.2.2.1 + 237)) (rd_7 hI168) dX12_childRow_169 ?_
              refine lv_iconst (v := iv 0) hx hb dX12_childRow_172 (by decide) ?_
              refine lv_aload_n hx hb dX12_childRow_173 rfl (lv_at hl 2 rfl) ?_
              refine g_X12_109 Cx hW (k := 231) (by decide) rfl (v := .ref (G.2.2.1 + 264)) (rd_55 hI168) dX12_childRow_174 ?_
              refine lv_iconst (v := iv 0) hx hb dX12_childRow_177 (by decide) ?_
              refine lv_aload_n hx hb dX12_childRow_178 rfl (lv_at hl 2 rfl) ?_
              refine g_X12_29 Cx hW (k := 231) (by decide) rfl (v := .ref (G.2.2.1 + 238)) (rd_8 hI168) dX12_childRow_179 ?_
              refine lv_iconst (v := iv 0) hx hb dX12_childRow_182 (by decide) ?_
              refine sBv (sSt (As := [.ref (G.2.2.1 + 237), .int (iv 0), .ref (G.2.2.1 + 264), .int (iv 0), .ref (G.2.2.1 + 238), .int (iv 0)]) (rest := []) Cx (s_X12_multiply l G S168 (ka := 237) (po := 0) (kb := 264) (qo := 0) (kc := 238) (ro := 0) (Nka := 68) (Nkb := 8) (Nkc := 68) (La := 7) (Lb := 6) hI168 ⟨rfl, by decide, by decide, by decide, rfl⟩ ⟨rfl, by decide, by decide, by decide, rfl⟩ ⟨rfl, by decide, by decide, by decide, rfl⟩ (show (238 : Nat) ≠ 264 by decide) (show (238 : Nat) ≠ 237 by decide) (by omega) (by rw [show S168.2.1 237 = S129.2.1 237 from (funext fun j => ((hL168_ 237 rfl).2.1 j).trans ((fu_22 237 rfl).2.1 j))]; exact hN129) (by rw [show S168.2.1 264 = S.2.1 264 from (funext fun j => ((hL168_ 264 rfl).2.1 j).trans (((fu_22 264 rfl).2.1 j).trans (((hL129_ 264 rfl).2.1 j).trans (((fu_15 264 rfl).2.1 j).trans (((fu_7 264 rfl).2.1 j).trans ((hL10_ 264 rfl).2.1 j))))))]; exact hN64.1)) (c_X12_548 Cx rfl rfl (rmk_ok (by omega) (by decide))) hW rfl hl.1 rfl (Nat.le_of_ble_eq_true rfl) dX12_childRow_183 ⟨Nat.le_of_ble_eq_true rfl, Nat.le_of_ble_eq_true rfl⟩) hL (fun u_27 H locs k_28 hW hL => ?_)
              obtain ⟨iu_27, fu_27, xu_27⟩ := k_28
              have F_29 := hFm168.trans (fu_27.to (p1_sub rfl))
              have g_30 : FF S u_27 (fl []) := FF.fr hGm168 fu_27 rfl
              have g_31 : FF u_22 u_27 (fl []) := FF.fr gL168_ fu_27 rfl
              refine lv_iconst (v := iv 0) hx hb dX12_childRow_186 (by decide) ?_
              refine lv_istore (lv' := [(4, .int (iv 0)), (3, .int (iv (S.2.1 265 rr))), (0, .ref (G.2.2.1 + 231)), (1, .int (iv rr)), (2, .int (iv sec))]) hx hb dX12_childRow_187 hl (by decide) rfl (fun ls hl => ?_)
              have loop_189 : ∀ (fuel : Nat) (S189 : sS) (j : Int) (H : Heap) (locs : List Loc) (ls : Array Slot), (S.1 231 59 + 1 - j).toNat < fuel → (dX G S189) → (Fr S S189 (pl [233, 234, 235, 237, 238, 240, 261, 262, 277])) → (Fr u_27 S189 (pl [262])) → (FF S S189 (fl [])) → (FF u_27 S189 (fl [])) → (0 ≤ j ∧ j ≤ S.1 231 59 + 1) → (DKp (S189.2.1 262) (S.1 231 58 - 1) (S.1 231 59) (S.1 231 60) j) → (Hd (RVp (S189.2.1 262) (S.2.1 262) (S.1 231 58 - 1) j (fun b => if sec = 0 then -TV S (rr + 1) b else TV S (rr + 1) b))) → sW G 294 S189 H → sL G locs → lv_has ls 6 [(4, .int (iv j)), (3, .int (iv (S.2.1 265 rr))), (0, .ref (G.2.2.1 + 231)), (1, .int (iv rr)), (2, .int (iv sec))] → W p l e (rmk 6 0 0) s m args below meth c H locs 0 0 (MQ below (sQv G 294 (fun u => dX G u ∧ Fr S u (pl [233, 234, 235, 237, 238, 240, 261, 262, 277]) ∧ FF S u (fl []) ∧ (DOK u ∧ RW u ∧ (∀ x, x < 104 * S.1 231 63 ∨ 104 * S.1 231 63 + 104 ≤ x → u.2.1 261 x = S.2.1 261 x) ∧ Hd (∀ b, 0 ≤ b → b ≤ S.1 231 59 → TV u (S.1 231 58 + 1) b = crv sec (nv (S.2.1 264) 0) (fun b => TV S (rr + 1) b) b) ∧ Hd (∀ x, x < cl (S.1 231 58 + 1) 0 → u.2.1 262 x = S.2.1 262 x)))) args s 0 0 (sF G)) (F0 m 189 ls []) := by
                intro fuel
                induction fuel with
                | zero => intro S189 j H locs ls hmeas hI189 hFm189 hL189_ hGm189 gL189_ hj hP hV hW hL hl; exact absurd hmeas (Nat.not_lt_zero _)
                | succ fuel ih_189 =>
                  intro S189 j H locs ls hmeas hI189 hFm189 hL189_ hGm189 gL189_ hj hP hV hW hL hl
                  refine lv_iload hx hb dX12_childRow_189 (lv_at hl 0 rfl) ?_
                  refine lv_aload_n hx hb dX12_childRow_191 rfl (lv_at hl 2 rfl) ?_
                  have q_32 : (-2147483648) ≤ S.1 231 59 ∧ S.1 231 59 ≤ 2147483647 := hI.fi 59
                  refine g_X12_526 Cx hW (k := 231) (by decide) rfl (v := S.1 231 59) ((gL189_ 59 rfl).trans (((fu_27 231 rfl).1 59).trans ((gL168_ 59 rfl).trans (((fu_22 231 rfl).1 59).trans ((gL129_ 59 rfl).trans (((fu_15 231 rfl).1 59).trans (((fu_7 231 rfl).1 59).trans (gL10_ 59 rfl)))))))) dX12_childRow_192 ?_
                  refine r_icmp_gt (tgt := 253) hx hb ⟨(by omega), (by omega)⟩ ⟨(by omega), (by omega)⟩ dX12_childRow_195 (by decide) (fun c_33 => ?_) (fun c_33 => ?_)
                  · refine lv_aload_n hx hb dX12_childRow_253 rfl (lv_at hl 2 rfl) ?_
                    refine lv_aload_n hx hb dX12_childRow_254 rfl (lv_at hl 2 rfl) ?_
                    have q_34 : (-2147483648) ≤ S.1 231 58 ∧ S.1 231 58 ≤ 2147483647 := hI.fi 58
                    refine g_X12_483 Cx hW (k := 231) (by decide) rfl (v := S.1 231 58) ((gL189_ 58 rfl).trans (((fu_27 231 rfl).1 58).trans ((gL168_ 58 rfl).trans (((fu_22 231 rfl).1 58).trans ((gL129_ 58 rfl).trans (((fu_15 231 rfl).1 58).trans (((fu_7 231 rfl).1 58).trans (gL10_ 58 rfl)))))))) dX12_childRow_255 ?_
                    refine lv_iconst (v := iv 1) hx hb dX12_childRow_258 (by decide) ?_
                    refine r_iadd hx hb dX12_childRow_259 ?_
                    refine lv_iconst (v := iv 0) hx hb dX12_childRow_260 (by decide) ?_
                    refine sBi (sV (As := [.int (iv ((S.1 231 58) + 1)), .int (iv 0)]) (rest := []) (k := 231) Cx (s_X12_cell l G S189 (i := (S.1 231 58) + 1) (j := 0) (by omega) (by omega)) (c_X12_529 Cx rfl rfl (rmk_ok (by omega) (by decide))) hW (by decide) rfl rfl rfl hl.1 rfl (Nat.le_of_ble_eq_true rfl) dX12_childRow_261 ⟨Nat.le_of_ble_eq_true rfl, Nat.le_of_ble_eq_true rfl⟩) hL (fun q6 u_35 H locs k_36 hW hL => ?_)
                    obtain ⟨eu_35, xu_35⟩ := k_36
                    rw [eu_35] at hW
                    refine lv_istore (lv' := [(4, .int (iv q6)), (3, .int (iv (S.2.1 265 rr))), (0, .ref (G.2.2.1 + 231)), (1, .int (iv rr)), (2, .int (iv sec))]) hx hb dX12_childRow_264 hl (by decide) rfl (fun ls hl => ?_)
                    refine lv_aload_n hx hb dX12_childRow_266 rfl (lv_at hl 2 rfl) ?_
                    refine g_X12_103 Cx hW (k := 231) (by decide) rfl (v := .ref (G.2.2.1 + 262)) (rd_53 hI189) dX12_childRow_267 ?_
                    refine lv_iload hx hb dX12_childRow_270 (lv_at hl 0 rfl) ?_
                    refine lv_aload_n hx hb dX12_childRow_272 rfl (lv_at hl 2 rfl) ?_
                    refine g_X12_29 Cx hW (k := 231) (by decide) rfl (v := .ref (G.2.2.1 + 238)) (rd_8 hI189) dX12_childRow_273 ?_
                    refine lv_iconst (v := iv 0) hx hb dX12_childRow_276 (by decide) ?_
                    refine lv_iload_n hx hb dX12_childRow_277 rfl (lv_at hl 4 rfl) ?_
                    refine lv_aload_n hx hb dX12_childRow_278 rfl (lv_at hl 2 rfl) ?_
                    refine g_X12_26 Cx hW (k := 231) (by decide) rfl (v := .ref (G.2.2.1 + 237)) (rd_7 hI189) dX12_childRow_279 ?_
                    refine lv_iconst (v := iv 0) hx hb dX12_childRow_282 (by decide) ?_
                    refine sBv (sSt (As := [.ref (G.2.2.1 + 262), .int (iv q6), .ref (G.2.2.1 + 238), .int (iv 0), .int (iv sec), .ref (G.2.2.1 + 237), .int (iv 0)]) (rest := []) Cx (s_X12_add l G S189 (ka := 262) (po := q6) (kb := 238) (qo := 0) (lz := sec) (kc := 237) (ro := 0) (Nka := 5280) (Nkb := 68) (Nkc := 68) (La := 6) (Lb := 13) (Lc := 14) hI189 ⟨rfl, by decide, by decide, by decide, rfl⟩ ⟨rfl, by decide, by decide, by decide, rfl⟩ ⟨rfl, by decide, by decide, by decide, rfl⟩ (show (237 : Nat) ≠ 238 by decide) (fun q => absurd q (by decide)) (by omega) (by omega) (by rw [show q6 = cl (S.1 231 58 - 1 + 2) 0 by unfold cl; omega]; exact hP.2 0 (by omega) (by omega)) (by rw [show S189.2.1 238 = u_27.2.1 238 from (funext fun j => (hL189_ 238 rfl).2.1 j)]; exact xu_27.1)) (c_X12_249 Cx rfl rfl (rmk_ok (by omega) (by decide))) hW rfl hl.1 rfl (Nat.le_of_ble_eq_true rfl) dX12_childRow_283 ⟨Nat.le_of_ble_eq_true rfl, Nat.le_of_ble_eq_true rfl⟩) hL (fun u_37 H locs k_38 hW hL => ?_)
                    obtain ⟨iu_37, fu_37, xu_37⟩ := k_38
                    have F_39 := hFm189.trans (fu_37.to (p1_sub rfl))
                    have g_40 : FF S u_37 (fl []) := FF.fr hGm189 fu_37 rfl
                    have g_41 : FF u_27 u_37 (fl []) := FF.fr gL189_ fu_37 rfl
                    refine lv_aload_n hx hb dX12_childRow_286 rfl (lv_at hl 2 rfl) ?_
                    refine g_X12_26 Cx hW (k := 231) (by decide) rfl (v := .ref (G.2.2.1 + 237)) (rd_7 iu_37) dX12_childRow_287 ?_
                    refine lv_iconst (v := iv 0) hx hb dX12_childRow_290 (by decide) ?_
                    have hab := xu_37.1.b
                    have hx0 : nv (u_37.2.1 237) 0 = (if sec = 0 then -(TV S (rr + 1) 0 % nv (S.2.1 264) 0) else TV S (rr + 1) 0 % nv (S.2.1 264) 0 - nv (S.2.1 264) 0) := crv_e hsec (by rw [xu_37.2.1, show q6 = cl (S.1 231 58 - 1 + 2) 0 by unfold cl; omega, hV.2 0 (by omega) (by omega), show S189.2.1 238 = u_27.2.1 238 from (funext fun j => (hL189_ 238 rfl).2.1 j), xu_27.2.1, show S168.2.1 237 = S129.2.1 237 from (funext fun j => ((hL168_ 237 rfl).2.1 j).trans ((fu_22 237 rfl).2.1 j)), hv129, show S168.2.1 264 = S.2.1 264 from (funext fun j => ((hL168_ 264 rfl).2.1 j).trans (((fu_22 264 rfl).2.1 j).trans (((hL129_ 264 rfl).2.1 j).trans (((fu_15 264 rfl).2.1 j).trans (((fu_7 264 rfl).2.1 j).trans ((hL10_ 264 rfl).2.1 j))))))])
                    have hn6 := (NO.of (n := 6) xu_37.1 (by rw [hx0]; have b1 := crv_b (sec := sec) (t := TV S (rr + 1) 0) hN64.2; have b2 := (NO.bd (n := 6) hN64.1).2; omega)).1
                    refine sBi (sSt (As := [.ref (G.2.2.1 + 237), .int (iv 0)]) (rest := []) Cx (s_X12_limbs l G u_37 (ka := 237) (po := 0) (Nka := 68) iu_37 ⟨rfl, by decide, by decide, by decide, rfl⟩ (by omega) (by omega)) (c_X12_221 Cx rfl rfl (rmk_ok (by omega) (by decide))) hW rfl hl.1 rfl (Nat.le_of_ble_eq_true rfl) dX12_childRow_291 ⟨Nat.le_of_ble_eq_true rfl, Nat.le_of_ble_eq_true rfl⟩) hL (fun nl u_42 H locs k_43 hW hL => ?_)
                    obtain ⟨eu_42, xu_42⟩ := k_43
                    rw [eu_42] at hW
                    refine lv_bipush (v := iv 6) hx hb dX12_childRow_294 (by decide) ?_
                    refine r_icmp_gt (tgt := 313) hx hb ⟨(by omega), (by omega)⟩ ⟨(by omega), (by omega)⟩ dX12_childRow_296 (by decide) (fun c_44 => ?_) (fun c_44 => ?_)
                    · exact sVret Cx hr hlk hW hL ⟨iu_37, F_39, g_40, (by exfalso; omega)⟩ dX12_childRow_313
                    · refine lv_aload_n hx hb dX12_childRow_299 rfl (lv_at hl 2 rfl) ?_
                      refine g_X12_26 Cx hW (k := 231) (by decide) rfl (v := .ref (G.2.2.1 + 237)) (rd_7 iu_37) dX12_childRow_300 ?_
                      refine lv_iconst (v := iv 0) hx hb dX12_childRow_303 (by decide) ?_
                      refine lv_aload_n hx hb dX12_childRow_304 rfl (lv_at hl 2 rfl) ?_
                      refine g_X12_103 Cx hW (k := 231) (by decide) rfl (v := .ref (G.2.2.1 + 262)) (rd_53 iu_37) dX12_childRow_305 ?_
                      refine lv_iload hx hb dX12_childRow_308 (lv_at hl 0 rfl) ?_
                      refine sBv (sSt (As := [.ref (G.2.2.1 + 237), .int (iv 0), .ref (G.2.2.1 + 262), .int (iv q6)]) (rest := []) Cx (s_X12_copy l G u_37 (ka := 237) (po := 0) (kb := 262) (qo := q6) (Nka := 68) (Nkb := 5280) (La := 6) iu_37 ⟨rfl, by decide, by decide, by decide, rfl⟩ ⟨rfl, by decide, by decide, by decide, rfl⟩ (show (262 : Nat) ≠ 237 by decide) (by omega) ⟨(by omega), xu_37.1.2⟩) (c_X12_233 Cx rfl rfl (rmk_ok (by omega) (by decide))) hW rfl hl.1 rfl (Nat.le_of_ble_eq_true rfl) dX12_childRow_310 ⟨Nat.le_of_ble_eq_true rfl, Nat.le_of_ble_eq_true rfl⟩) hL (fun u_45 H locs k_46 hW hL => ?_)
                      obtain ⟨iu_45, fu_45, xu_45⟩ := k_46
                      have F_47 := F_39.trans (fu_45.to (p1_sub rfl))
                      have g_48 : FF S u_45 (fl []) := FF.fr g_40 fu_45 rfl
                      have g_49 : FF u_27 u_45 (fl []) := FF.fr g_41 fu_45 rfl
                      exact sVret Cx hr hlk hW hL ⟨iu_45, F_47, g_48, ⟨DOK.mk' (show u_45.1 231 58 = S.1 231 58 from ((fu_45 231 rfl).1 58).trans (((fu_37 231 rfl).1 58).trans ((gL189_ 58 rfl).trans (((fu_27 231 rfl).1 58).trans ((gL168_ 58 rfl).trans (((fu_22 231 rfl).1 58).trans ((gL129_ 58 rfl).trans (((fu_15 231 rfl).1 58).trans (((fu_7 231 rfl).1 58).trans (gL10_ 58 rfl)))))))))) (show u_45.1 231 59 = S.1 231 59 from ((fu_45 231 rfl).1 59).trans (((fu_37 231 rfl).1 59).trans ((gL189_ 59 rfl).trans (((fu_27 231 rfl).1 59).trans ((gL168_ 59 rfl).trans (((fu_22 231 rfl).1 59).trans ((gL129_ 59 rfl).trans (((fu_15 231 rfl).1 59).trans (((fu_7 231 rfl).1 59).trans (gL10_ 59 rfl)))))))))) (show u_45.1 231 60 = S.1 231 60 from ((fu_45 231 rfl).1 60).trans (((fu_37 231 rfl).1 60).trans ((gL189_ 60 rfl).trans (((fu_27 231 rfl).1 60).trans ((gL168_ 60 rfl).trans (((fu_22 231 rfl).1 60).trans ((gL129_ 60 rfl).trans (((fu_15 231 rfl).1 60).trans (((fu_7 231 rfl).1 60).trans (gL10_ 60 rfl)))))))))) (by omega) (by have e8 := DKp.last (f' := u_45.2.1 262) (p := q6) hP (by omega) (by unfold cl; omega) (by omega) xu_45.1.1 (fun x a => by rw [xu_45.2 x a, show u_37.2.1 262 = S189.2.1 262 from (funext fun j => (fu_37 262 rfl).2.1 j)]); rw [show S.1 231 58 - 1 + 1 = S.1 231 58 by omega] at e8; exact e8) (by rw [show u_45.2.1 264 = S.2.1 264 from (funext fun j => ((fu_45 264 rfl).2.1 j).trans (((fu_37 264 rfl).2.1 j).trans (((hL189_ 264 rfl).2.1 j).trans (((fu_27 264 rfl).2.1 j).trans (((hL168_ 264 rfl).2.1 j).trans (((fu_22 264 rfl).2.1 j).trans (((hL129_ 264 rfl).2.1 j).trans (((fu_15 264 rfl).2.1 j).trans (((fu_7 264 rfl).2.1 j).trans ((hL10_ 264 rfl).2.1 j))))))))))]; exact hN64.1) (by rw [show u_45.2.1 264 = S.2.1 264 from (funext fun j => ((fu_45 264 rfl).2.1 j).trans (((fu_37 264 rfl).2.1 j).trans (((hL189_ 264 rfl).2.1 j).trans (((fu_27 264 rfl).2.1 j).trans (((hL168_ 264 rfl).2.1 j).trans (((fu_22 264 rfl).2.1 j).trans (((hL129_ 264 rfl).2.1 j).trans (((fu_15 264 rfl).2.1 j).trans (((fu_7 264 rfl).2.1 j).trans ((hL10_ 264 rfl).2.1 j))))))))))]; exact hN64.2), (by show RWf (u_45.2.1 261); rw [show u_45.2.1 261 = S168.2.1 261 from (funext fun j => ((fu_45 261 rfl).2.1 j).trans (((fu_37 261 rfl).2.1 j).trans (((hL189_ 261 rfl).2.1 j).trans ((fu_27 261 rfl).2.1 j))))]; exact hR168), (fun x a => by rw [show u_45.2.1 261 = S168.2.1 261 from (funext fun j => ((fu_45 261 rfl).2.1 j).trans (((fu_37 261 rfl).2.1 j).trans (((hL189_ 261 rfl).2.1 j).trans ((fu_27 261 rfl).2.1 j))))]; exact hO168 x a), (fun b b0 b1 => by unfold TV crv; rw [show S.1 231 58 + 1 = S.1 231 58 - 1 + 2 by omega]; by_cases z : b = 0; (rw [z, if_pos rfl, ← show q6 = cl (S.1 231 58 - 1 + 2) 0 by unfold cl; omega, xu_45.1.2.1]; exact hx0); (rw [if_neg z]; exact (hV.fin (f' := u_45.2.1 262) hP (p := q6) (by omega) (by omega) (by unfold cl; omega) (fun x a => by rw [xu_45.2 x a, show u_37.2.1 262 = S189.2.1 262 from (funext fun j => (fu_37 262 rfl).2.1 j)])).2 b (by omega) b1)), (fun x a => (hV.fin (f' := u_45.2.1 262) hP (p := q6) (by omega) (by omega) (by unfold cl; omega) (fun x a => by rw [xu_45.2 x a, show u_37.2.1 262 = S189.2.1 262 from (funext fun j => (fu_37 262 rfl).2.1 j)])).1 x (by rw [show S.1 231 58 - 1 + 2 = S.1 231 58 + 1 by omega]; exact a))⟩⟩ dX12_childRow_313
                  · refine lv_aload_n hx hb dX12_childRow_198 rfl (lv_at hl 2 rfl) ?_
                    refine lv_aload_n hx hb dX12_childRow_199 rfl (lv_at hl 2 rfl) ?_
                    have q_50 : (-2147483648) ≤ S.1 231 58 ∧ S.1 231 58 ≤ 2147483647 := hI.fi 58
                    refine g_X12_483 Cx hW (k := 231) (by decide) rfl (v := S.1 231 58) ((gL189_ 58 rfl).trans (((fu_27 231 rfl).1 58).trans ((gL168_ 58 rfl).trans (((fu_22 231 rfl).1 58).trans ((gL129_ 58 rfl).trans (((fu_15 231 rfl).1 58).trans (((fu_7 231 rfl).1 58).trans (gL10_ 58 rfl)))))))) dX12_childRow_200 ?_
                    refine lv_iconst (v := iv 1) hx hb dX12_childRow_203 (by decide) ?_
                    refine r_iadd hx hb dX12_childRow_204 ?_
                    refine lv_iload hx hb dX12_childRow_205 (lv_at hl 0 rfl) ?_
                    refine sBi (sV (As := [.int (iv ((S.1 231 58) + 1)), .int (iv j)]) (rest := []) (k := 231) Cx (s_X12_cell l G S189 (i := (S.1 231 58) + 1) (j := j) (by omega) (by omega)) (c_X12_529 Cx rfl rfl (rmk_ok (by omega) (by decide))) hW (by decide) rfl rfl rfl hl.1 rfl (Nat.le_of_ble_eq_true rfl) dX12_childRow_207 ⟨Nat.le_of_ble_eq_true rfl, Nat.le_of_ble_eq_true rfl⟩) hL (fun q4 u_51 H locs k_52 hW hL => ?_)
                    obtain ⟨eu_51, xu_51⟩ := k_52
                    rw [eu_51] at hW
                    refine lv_istore (lv' := [(5, .int (iv q4)), (4, .int (iv j)), (3, .int (iv (S.2.1 265 rr))), (0, .ref (G.2.2.1 + 231)), (1, .int (iv rr)), (2, .int (iv sec))]) hx hb dX12_childRow_210 hl (by decide) rfl (fun ls hl => ?_)
                    refine lv_aload_n hx hb dX12_childRow_212 rfl (lv_at hl 3 rfl) ?_
                    refine g_X12_103 Cx hW (k := 231) (by decide) rfl (v := .ref (G.2.2.1 + 262)) (rd_53 hI189) dX12_childRow_213 ?_
                    refine lv_aload_n hx hb dX12_childRow_216 rfl (lv_at hl 3 rfl) ?_
                    refine lv_iload_n hx hb dX12_childRow_217 rfl (lv_at hl 4 rfl) ?_
                    refine lv_iconst (v := iv 1) hx hb dX12_childRow_218 (by decide) ?_
                    refine r_iadd hx hb dX12_childRow_219 ?_
                    refine lv_iload hx hb dX12_childRow_220 (lv_at hl 1 rfl) ?_
                    refine sBi (sV (As := [.int (iv (rr + 1)), .int (iv j)]) (rest := [.ref (G.2.2.1 + 262)]) (k := 231) Cx (s_X12_cell l G S189 (i := rr + 1) (j := j) (by omega) (by omega)) (c_X12_529 Cx rfl rfl (rmk_ok (by omega) (by decide))) hW (by decide) rfl rfl rfl hl.1 rfl (Nat.le_of_ble_eq_true rfl) dX12_childRow_222 ⟨Nat.le_of_ble_eq_true rfl, Nat.le_of_ble_eq_true rfl⟩) hL (fun q5 u_53 H locs k_54 hW hL => ?_)
                    obtain ⟨eu_53, xu_53⟩ := k_54
                    rw [eu_53] at hW
                    refine lv_aload_n hx hb dX12_childRow_225 rfl (lv_at hl 3 rfl) ?_
                    refine g_X12_103 Cx hW (k := 231) (by decide) rfl (v := .ref (G.2.2.1 + 262)) (rd_53 hI189) dX12_childRow_226 ?_
                    refine lv_iload hx hb dX12_childRow_229 (lv_at hl 0 rfl) ?_
                    refine sBv (sSt (As := [.ref (G.2.2.1 + 262), .int (iv q5), .ref (G.2.2.1 + 262), .int (iv q4)]) (rest := []) Cx (s_X12_copy_s l G S189 (ka := 262) (po := q5) (qo := q4) (Nka := 5280) (La := 6) hI189 ⟨rfl, by decide, by decide, by decide, rfl⟩ (by omega) (by rw [show q5 = cl (rr + 1) j by unfold cl; omega]; exact hP.1 (rr + 1) j (by omega) (by omega) (by omega) (by omega) (by omega)) (by omega)) (c_X12_233 Cx rfl rfl (rmk_ok (by omega) (by decide))) hW rfl hl.1 rfl (Nat.le_of_ble_eq_true rfl) dX12_childRow_231 ⟨Nat.le_of_ble_eq_true rfl, Nat.le_of_ble_eq_true rfl⟩) hL (fun u_55 H locs k_56 hW hL => ?_)
                    obtain ⟨iu_55, fu_55, xu_55⟩ := k_56
                    have F_57 := hFm189.trans (fu_55.to (p1_sub rfl))
                    have F_58 := hL189_.trans (fu_55.to (p1_sub rfl))
                    have g_59 : FF S u_55 (fl []) := FF.fr hGm189 fu_55 rfl
                    have g_60 : FF u_27 u_55 (fl []) := FF.fr gL189_ fu_55 rfl
                    have join_247 : ∀ (S247 : sS)  (H : Heap) (locs : List Loc) (ls : Array Slot), (dX G S247) → (Fr S S247 (pl [233, 234, 235, 237, 238, 240, 261, 262, 277])) → (Fr u_27 S247 (pl [262])) → (Fr u_55 S247 (pl [262])) → (FF S S247 (fl [])) → (FF u_27 S247 (fl [])) → (FF u_55 S247 (fl [])) → (DKp (S247.2.1 262) (S.1 231 58 - 1) (S.1 231 59) (S.1 231 60) (j + 1)) → (Hd (RVp (S247.2.1 262) (S.2.1 262) (S.1 231 58 - 1) (j + 1) (fun b => if sec = 0 then -TV S (rr + 1) b else TV S (rr + 1) b))) → sW G 294 S247 H → sL G locs → lv_has ls 6 [(5, .int (iv q4)), (4, .int (iv j)), (3, .int (iv (S.2.1 265 rr))), (0, .ref (G.2.2.1 + 231)), (1, .int (iv rr)), (2, .int (iv sec))] → W p l e (rmk 6 0 0) s m args below meth c H locs 0 0 (MQ below (sQv G 294 (fun u => dX G u ∧ Fr S u (pl [233, 234, 235, 237, 238, 240, 261, 262, 277]) ∧ FF S u (fl []) ∧ (DOK u ∧ RW u ∧ (∀ x, x < 104 * S.1 231 63 ∨ 104 * S.1 231 63 + 104 ≤ x → u.2.1 261 x = S.2.1 261 x) ∧ Hd (∀ b, 0 ≤ b → b ≤ S.1 231 59 → TV u (S.1 231 58 + 1) b = crv sec (nv (S.2.1 264) 0) (fun b => TV S (rr + 1) b) b) ∧ Hd (∀ x, x < cl (S.1 231 58 + 1) 0 → u.2.1 262 x = S.2.1 262 x)))) args s 0 0 (sF G)) (F0 m 247 ls []) := by
                      intro S247  H locs ls hI247 hFm247 hFL189247 hL247_ hGm247 hGL189247 gL247_ hP247 hV247 hW hL hl
                      refine lv_iinc (v := iv (j + 1)) (lv' := [(4, .int (iv (j + 1))), (5, .int (iv q4)), (3, .int (iv (S.2.1 265 rr))), (0, .ref (G.2.2.1 + 231)), (1, .int (iv rr)), (2, .int (iv sec))]) hx hb dX12_childRow_247 hl (k := 1) rfl ((Int32.ofInt_add _ _).symm) (by decide) rfl (fun ls hl => ?_)
                      refine lv_goto (tgt := 189) hx hb dX12_childRow_250 (by decide) ?_
                      exact ih_189 S247 (j + 1) _ _ _ (by omega) hI247 hFm247 hFL189247 hGm247 hGL189247 (by omega) hP247 hV247 hW hL (lv_sub hl [0, 2, 3, 4, 5] rfl)
                    refine lv_iload_n hx hb dX12_childRow_234 rfl (lv_at hl 5 rfl) ?_
                    refine r_if_ne (tgt := 247) hx hb ⟨(by omega), (by omega)⟩ dX12_childRow_235 (by decide) (fun c_61 => ?_) (fun c_61 => ?_)
                    · exact join_247 u_55  _ _ _ iu_55 F_57 F_58 (Fr.rf : Fr u_55 u_55 (pl [262])) g_59 g_60 (FF.rf : FF u_55 u_55 (fl [])) (hP.put (f' := u_55.2.1 262) (p := q4) (by unfold cl; omega) (by omega) (by omega) xu_55.1.1 (fun x a => xu_55.2 x (by omega))) (hV.put (f' := u_55.2.1 262) hP (p := q4) (by unfold cl; omega) (by omega) (fun x a => xu_55.2 x (by omega)) (by show nv _ q4 = (if sec = 0 then -TV S (rr + 1) j else TV S (rr + 1) j); rw [if_neg (show ¬ sec = 0 by omega)]; exact (show nv (u_55.2.1 262) q4 = TV S (rr + 1) j from xu_55.1.2.1.trans (by rw [show q5 = cl (rr + 1) j by unfold cl; omega]; exact hV.old (hK (rr + 1) j (by omega) (by omega) (by omega) (by omega) (by omega)) (by omega) (by omega))))) hW hL (lv_sub hl [0, 1, 2, 3, 4, 5] rfl)
                    · refine lv_aload_n hx hb dX12_childRow_238 rfl (lv_at hl 3 rfl) ?_
                      refine g_X12_103 Cx hW (k := 231) (by decide) rfl (v := .ref (G.2.2.1 + 262)) (rd_53 iu_55) dX12_childRow_239 ?_
                      refine lv_iload hx hb dX12_childRow_242 (lv_at hl 0 rfl) ?_
                      refine sBv (sSt (As := [.ref (G.2.2.1 + 262), .int (iv q4)]) (rest := []) Cx (s_X12_negate l G u_55 (ka := 262) (po := q4) (Nka := 5280) (La := 6) iu_55 ⟨rfl, by decide, by decide, by decide, rfl⟩ (by omega) xu_55.1.1) (c_X12_540 Cx rfl rfl (rmk_ok (by omega) (by decide))) hW rfl hl.1 rfl (Nat.le_of_ble_eq_true rfl) dX12_childRow_244 ⟨Nat.le_of_ble_eq_true rfl, Nat.le_of_ble_eq_true rfl⟩) hL (fun u_62 H locs k_63 hW hL => ?_)
                      obtain ⟨iu_62, fu_62, xu_62⟩ := k_63
                      have F_64 := F_57.trans (fu_62.to (p1_sub rfl))
                      have F_65 := F_58.trans (fu_62.to (p1_sub rfl))
                      have F_66 := (Fr.rf : Fr u_55 u_55 (pl [262])).trans (fu_62.to (p1_sub rfl))
                      have g_67 : FF S u_62 (fl []) := FF.fr g_59 fu_62 rfl
                      have g_68 : FF u_27 u_62 (fl []) := FF.fr g_60 fu_62 rfl
                      have g_69 : FF u_55 u_62 (fl []) := FF.fr (FF.rf : FF u_55 u_55 (fl [])) fu_62 rfl
                      exact join_247 u_62  _ _ _ iu_62 F_64 F_65 F_66 g_67 g_68 g_69 (hP.put (f' := u_62.2.1 262) (p := q4) (by unfold cl; omega) (by omega) (by omega) xu_62.1 (fun x a => by rw [xu_62.2.2, uA_ne (fun h => by have := h.2; omega)]; exact xu_55.2 x (by omega))) (hV.put (f' := u_62.2.1 262) hP (p := q4) (by unfold cl; omega) (by omega) (fun x a => by rw [xu_62.2.2, uA_ne (fun h => by have := h.2; omega)]; exact xu_55.2 x (by omega)) (by show nv _ q4 = (if sec = 0 then -TV S (rr + 1) j else TV S (rr + 1) j); rw [if_pos (show sec = 0 by omega), xu_62.2.1, (show nv (u_55.2.1 262) q4 = TV S (rr + 1) j from xu_55.1.2.1.trans (by rw [show q5 = cl (rr + 1) j by unfold cl; omega]; exact hV.old (hK (rr + 1) j (by omega) (by omega) (by omega) (by omega) (by omega)) (by omega) (by omega)))])) hW hL (lv_sub hl [0, 1, 2, 3, 4, 5] rfl)
              exact loop_189 (_ + 1) u_27 0 _ _ _ (Nat.lt_succ_self _) iu_27 F_29 Fr.rf g_30 FF.rf (by omega) ⟨(by rw [show u_27.2.1 262 = S.2.1 262 from (funext fun j => ((fu_27 262 rfl).2.1 j).trans (((hL168_ 262 rfl).2.1 j).trans (((fu_22 262 rfl).2.1 j).trans (((hL129_ 262 rfl).2.1 j).trans (((fu_15 262 rfl).2.1 j).trans (((fu_7 262 rfl).2.1 j).trans ((hL10_ 262 rfl).2.1 j)))))))]; exact hK), (fun b b0 b1 => absurd b1 (by omega))⟩ ⟨fun x _ => congrFun (show u_27.2.1 262 = S.2.1 262 from (funext fun j => ((fu_27 262 rfl).2.1 j).trans (((hL168_ 262 rfl).2.1 j).trans (((fu_22 262 rfl).2.1 j).trans (((hL129_ 262 rfl).2.1 j).trans (((fu_15 262 rfl).2.1 j).trans (((fu_7 262 rfl).2.1 j).trans ((hL10_ 262 rfl).2.1 j)))))))) x, fun b b0 b1 => absurd b1 (by omega)⟩ hW hL (lv_sub hl [0, 1, 2, 3, 4] rfl)
            refine lv_iload_n hx hb dX12_childRow_149 rfl (lv_at hl 4 rfl) ?_
            refine r_if_eq (tgt := 168) hx hb ⟨(by omega), (by omega)⟩ dX12_childRow_150 (by decide) (fun c_70 => ?_) (fun c_70 => ?_)
            · exact join_168 u_22  _ _ _ iu_22 F_24 (Fr.rf : Fr u_22 u_22 (pl [261])) g_25 (FF.rf : FF u_22 u_22 (fl [])) hR146 hO146 hW hL (lv_sub hl [0, 1, 2, 3, 4] rfl)
            · refine lv_aload_n hx hb dX12_childRow_153 rfl (lv_at hl 2 rfl) ?_
              refine g_X12_100 Cx hW (k := 231) (by decide) rfl (v := .ref (G.2.2.1 + 261)) (rd_52 iu_22) dX12_childRow_154 ?_
              refine lv_aload_n hx hb dX12_childRow_157 rfl (lv_at hl 2 rfl) ?_
              refine g_X12_480 Cx hW (k := 231) (by decide) rfl (v := S.1 231 63) (((fu_22 231 rfl).1 63).trans ((gL129_ 63 rfl).trans (((fu_15 231 rfl).1 63).trans (((fu_7 231 rfl).1 63).trans (gL10_ 63 rfl))))) dX12_childRow_158 ?_
              refine lv_iconst (v := iv 0) hx hb dX12_childRow_161 (by decide) ?_
              refine sBi (sSt (As := [.int (iv (S.1 231 63)), .int (iv 0)]) (rest := [.ref (G.2.2.1 + 261)]) Cx (s_X12_rowCell l G u_22 (i := S.1 231 63) (j := 0) (by omega) (by omega)) (c_X12_486 Cx rfl rfl (rmk_ok (by omega) (by decide))) hW rfl hl.1 rfl (Nat.le_of_ble_eq_true rfl) dX12_childRow_162 ⟨Nat.le_of_ble_eq_true rfl, Nat.le_of_ble_eq_true rfl⟩) hL (fun q3 u_71 H locs k_72 hW hL => ?_)
              obtain ⟨eu_71, xu_71⟩ := k_72
              rw [eu_71] at hW
              refine sBv (sSt (As := [.ref (G.2.2.1 + 261), .int (iv q3)]) (rest := []) Cx (s_X12_negate l G u_22 (ka := 261) (po := q3) (Nka := 4368) (La := 7) iu_22 ⟨rfl, by decide, by decide, by decide, rfl⟩ (by omega) (by rw [show q3 = q2 by omega]; exact xu_22.1.1)) (c_X12_540 Cx rfl rfl (rmk_ok (by omega) (by decide))) hW rfl hl.1 rfl (Nat.le_of_ble_eq_true rfl) dX12_childRow_165 ⟨Nat.le_of_ble_eq_true rfl, Nat.le_of_ble_eq_true rfl⟩) hL (fun u_73 H locs k_74 hW hL => ?_)
              obtain ⟨iu_73, fu_73, xu_73⟩ := k_74
              have F_75 := F_24.trans (fu_73.to (p1_sub rfl))
              have F_76 := (Fr.rf : Fr u_22 u_22 (pl [261])).trans (fu_73.to (p1_sub rfl))
              have g_77 : FF S u_73 (fl []) := FF.fr g_25 fu_73 rfl
              have g_78 : FF u_15 u_73 (fl []) := FF.fr g_26 fu_73 rfl
              have g_79 : FF u_22 u_73 (fl []) := FF.fr (FF.rf : FF u_22 u_22 (fl [])) fu_73 rfl
              exact join_168 u_73  _ _ _ iu_73 F_75 F_76 g_77 g_79 (hR146.put (f' := u_73.2.1 261) (k := S.1 231 63) (j := 0) (p := q3) (by omega) (by omega) xu_73.1 (fun x a => by rw [xu_73.2.2]; exact uA_ne (fun h => by have := h.2; omega))) (fun x a => by rw [xu_73.2.2, uA_ne (fun h => by have := h.2; omega)]; exact hO146 x a) hW hL (lv_sub hl [0, 1, 2, 3, 4] rfl)
          refine lv_iload_n hx hb dX12_childRow_97 rfl (lv_at hl 4 rfl) ?_
          refine r_if_eq (tgt := 129) hx hb ⟨(by omega), (by omega)⟩ dX12_childRow_98 (by decide) (fun c_80 => ?_) (fun c_80 => ?_)
          · exact join_129 u_15  _ _ _ iu_15 F_17 (Fr.rf : Fr u_15 u_15 (pl [237, 277])) g_18 (FF.rf : FF u_15 u_15 (fl [])) xu_15.1 (by rw [hfl]; omega) hW hL (lv_sub hl [0, 1, 2, 3, 4] rfl)
          · refine lv_aload_n hx hb dX12_childRow_101 rfl (lv_at hl 2 rfl) ?_
            refine g_X12_151 Cx hW (k := 231) (by decide) rfl (v := .ref (G.2.2.1 + 277)) (rd_87 iu_15) dX12_childRow_102 ?_
            refine lv_iconst (v := iv 0) hx hb dX12_childRow_105 (by decide) ?_
            refine lv_lconst (v := jv 1) hx hb dX12_childRow_106 (by decide) ?_
            refine sBv (sSt (As := [.ref (G.2.2.1 + 277), .int (iv 0), .long (jv 1)]) (rest := []) Cx (s_X12_put l G u_15 (ka := 277) (po := 0) (v := 1) (Nka := 4) iu_15 ⟨rfl, by decide, by decide, by decide, rfl⟩ (by omega) (by omega)) (c_X12_241 Cx rfl rfl (rmk_ok (by omega) (by decide))) hW rfl hl.1 rfl (Nat.le_of_ble_eq_true rfl) dX12_childRow_107 ⟨Nat.le_of_ble_eq_true rfl, Nat.le_of_ble_eq_true rfl⟩) hL (fun u_81 H locs k_82 hW hL => ?_)
            obtain ⟨iu_81, fu_81, xu_81⟩ := k_82
            have F_83 := F_17.trans (fu_81.to (p1_sub rfl))
            have F_84 := (Fr.rf : Fr u_15 u_15 (pl [237, 277])).trans (fu_81.to (p1_sub rfl))
            have g_85 : FF S u_81 (fl []) := FF.fr g_18 fu_81 rfl
            have g_86 : FF S u_81 (fl []) := FF.fr g_19 fu_81 rfl
            have g_87 : FF u_15 u_81 (fl []) := FF.fr (FF.rf : FF u_15 u_15 (fl [])) fu_81 rfl
            refine lv_aload_n hx hb dX12_childRow_110 rfl (lv_at hl 2 rfl) ?_
            refine g_X12_26 Cx hW (k := 231) (by decide) rfl (v := .ref (G.2.2.1 + 237)) (rd_7 iu_81) dX12_childRow_111 ?_
            refine lv_iconst (v := iv 0) hx hb dX12_childRow_114 (by decide) ?_
            refine lv_aload_n hx hb dX12_childRow_115 rfl (lv_at hl 2 rfl) ?_
            refine g_X12_151 Cx hW (k := 231) (by decide) rfl (v := .ref (G.2.2.1 + 277)) (rd_87 iu_81) dX12_childRow_116 ?_
            refine lv_iconst (v := iv 0) hx hb dX12_childRow_119 (by decide) ?_
            refine lv_iconst (v := iv 0) hx hb dX12_childRow_120 (by decide) ?_
            refine lv_aload_n hx hb dX12_childRow_121 rfl (lv_at hl 2 rfl) ?_
            refine g_X12_26 Cx hW (k := 231) (by decide) rfl (v := .ref (G.2.2.1 + 237)) (rd_7 iu_81) dX12_childRow_122 ?_
            refine lv_iconst (v := iv 0) hx hb dX12_childRow_125 (by decide) ?_
            refine sBv (sSt (As := [.ref (G.2.2.1 + 237), .int (iv 0), .ref (G.2.2.1 + 277), .int (iv 0), .int (iv 0), .ref (G.2.2.1 + 237), .int (iv 0)]) (rest := []) Cx (s_X12_add l G u_81 (ka := 237) (po := 0) (kb := 277) (qo := 0) (lz := 0) (kc := 237) (ro := 0) (Nka := 68) (Nkb := 4) (Nkc := 68) (La := 7) (Lb := 3) (Lc := 8) iu_81 ⟨rfl, by decide, by decide, by decide, rfl⟩ ⟨rfl, by decide, by decide, by decide, rfl⟩ ⟨rfl, by decide, by decide, by decide, rfl⟩ (show (237 : Nat) ≠ 277 by decide) (fun _ => rfl) (by omega) (by omega) (by rw [show u_81.2.1 237 = u_15.2.1 237 from (funext fun j => (fu_81 237 rfl).2.1 j)]; exact xu_15.1) xu_81.1) (c_X12_249 Cx rfl rfl (rmk_ok (by omega) (by decide))) hW rfl hl.1 rfl (Nat.le_of_ble_eq_true rfl) dX12_childRow_126 ⟨Nat.le_of_ble_eq_true rfl, Nat.le_of_ble_eq_true rfl⟩) hL (fun u_88 H locs k_89 hW hL => ?_)
            obtain ⟨iu_88, fu_88, xu_88⟩ := k_89
            have F_90 := F_83.trans (fu_88.to (p1_sub rfl))
            have F_91 := F_84.trans (fu_88.to (p1_sub rfl))
            have g_92 : FF S u_88 (fl []) := FF.fr g_85 fu_88 rfl
            have g_93 : FF S u_88 (fl []) := FF.fr g_86 fu_88 rfl
            have g_94 : FF u_15 u_88 (fl []) := FF.fr g_87 fu_88 rfl
            exact join_129 u_88  _ _ _ iu_88 F_90 F_91 g_92 g_94 (NO.q1 (f := u_7.2.1 262) (p := qd) (d := u_7.2.1 264) (q := 0) (g := u_15.2.1 237) (t := 0) hfd hpd xu_15.2.2.1.1 xu_15.2.2.1.2 xu_88.1 (by rw [xu_88.2.1, asn_0, xu_81.2.1, show u_81.2.1 237 = u_15.2.1 237 from (funext fun j => (fu_81 237 rfl).2.1 j)])) (by rw [xu_88.2.1, asn_0, xu_81.2.1, show u_81.2.1 237 = u_15.2.1 237 from (funext fun j => (fu_81 237 rfl).2.1 j), hfl]; omega) hW hL (lv_sub hl [0, 1, 2, 3, 4] rfl)
        refine lv_iload_n hx hb dX12_childRow_52 rfl (lv_at hl 4 rfl) ?_
        refine r_if_eq (tgt := 62) hx hb ⟨(by omega), (by omega)⟩ dX12_childRow_53 (by decide) (fun c_95 => ?_) (fun c_95 => ?_)
        · refine lv_lconst (v := jv 1) hx hb dX12_childRow_62 (by decide) ?_
          exact join_63 1 _ _ _ (by omega) hW hL (lv_sub hl [0, 1, 2, 3, 4] rfl)
        · refine lv_ldc2 hx hb hown (hts _ w_2496) dX12_childRow_56 ?_
          refine lv_goto (tgt := 63) hx hb dX12_childRow_59 (by decide) ?_
          exact join_63 ((-1)) _ _ _ (by omega) hW hL (lv_sub hl [0, 1, 2, 3, 4] rfl)
      · refine lv_aload_n hx hb dX12_childRow_19 rfl (lv_at hl 2 rfl) ?_
        refine g_X12_100 Cx hW (k := 231) (by decide) rfl (v := .ref (G.2.2.1 + 261)) (rd_52 hI10) dX12_childRow_20 ?_
        refine lv_aload_n hx hb dX12_childRow_23 rfl (lv_at hl 2 rfl) ?_
        have q_96 : (-2147483648) ≤ S.1 231 63 ∧ S.1 231 63 ≤ 2147483647 := hI.fi 63
        refine g_X12_480 Cx hW (k := 231) (by decide) rfl (v := S.1 231 63) (gL10_ 63 rfl) dX12_childRow_24 ?_
        refine lv_iload hx hb dX12_childRow_27 (lv_at hl 0 rfl) ?_
        refine sBi (sSt (As := [.int (iv (S.1 231 63)), .int (iv j)]) (rest := [.ref (G.2.2.1 + 261)]) Cx (s_X12_rowCell l G S10 (i := S.1 231 63) (j := j) (by omega) (by omega)) (c_X12_486 Cx rfl rfl (rmk_ok (by omega) (by decide))) hW rfl hl.1 rfl (Nat.le_of_ble_eq_true rfl) dX12_childRow_29 ⟨Nat.le_of_ble_eq_true rfl, Nat.le_of_ble_eq_true rfl⟩) hL (fun q0 u_97 H locs k_98 hW hL => ?_)
        obtain ⟨eu_97, xu_97⟩ := k_98
        rw [eu_97] at hW
        refine lv_iconst (v := iv 0) hx hb dX12_childRow_32 (by decide) ?_
        refine rIast Cx hW hL (k := 261) (by decide) rfl (by decide) (by omega) (by omega) dX12_childRow_33 (fun H locs hW hL => ?_)
        have F_99 : Fr S (uA S10 261 q0 0) (pl [233, 234, 235, 237, 238, 240, 261, 262, 277]) := hFm10.A rfl
        have F_100 : Fr S (uA S10 261 q0 0) (pl [261]) := hL10_.A rfl
        have i_101 : dX G (uA S10 261 q0 0) := hI10.A (k := 261) (show (-2147483648) ≤ 0 ∧ 0 ≤ 2147483647 from ⟨by omega, by omega⟩)
        refine lv_iinc (v := iv (j + 1)) (lv' := [(4, .int (iv (j + 1))), (3, .int (iv (S.2.1 265 rr))), (0, .ref (G.2.2.1 + 231)), (1, .int (iv rr)), (2, .int (iv sec))]) hx hb dX12_childRow_34 hl (k := 0) rfl ((Int32.ofInt_add _ _).symm) (by decide) rfl (fun ls hl => ?_)
        refine lv_goto (tgt := 10) hx hb dX12_childRow_37 (by decide) ?_
        exact ih_10 (uA S10 261 q0 0) (j + 1) _ _ _ (by omega) i_101 F_99 F_100 hGm10 gL10_ (by omega) (hR10.put (k := S.1 231 63) (j := j) (p := q0) (by omega) (by omega) (NO_z uA_on (by decide)) (fun x a => uA_ne (fun h => by have := h.2; omega))) (fun x a => by rw [uA_ne (fun h => by have := h.2; omega)]; exact hO10 x a) hW hL (lv_sub hl [0, 1, 2, 3, 4] rfl)
  exact loop_10 (_ + 1) S 0 _ _ _ (Nat.lt_succ_self _) hI (Fr.rf : Fr S S (pl [233, 234, 235, 237, 238, 240, 261, 262, 277])) Fr.rf FF.rf FF.rf (by omega) hRW (fun x _ => rfl) hW hL (lv_sub hl [0, 1, 2, 3, 4] rfl)

set_option maxRecDepth 100000 in
set_option maxHeartbeats 4000000 in
theorem r_X12_mayBegin (l : Launch) (G : sG) (S : sS)  (hI : dX G S) (hM : MD S) (hpl : (0 ≤ S.1 231 58 ∧ S.1 231 58 ≤ S.1 231 63) ∧ 0 ≤ S.1 231 65 ∧ S.1 231 65 ≤ 1000) : Met l yX12_mayBegin (.code yX12_mayBegin cX12_mayBegin 1 (some .boolean) :: tb) (rmk 1 0 0) (sPc G 294 S [.ref (G.2.2.1 + 231)]) (sQi G 294 (fun r u => dX G u ∧ Fr S u (pl [231, 265]) ∧ FF S u (fl [58, 61, 62, 63, 65]) ∧ ((0 ≤ r ∧ r ≤ 1) ∧ (r = 0 → (S.1 231 63 = 40 ∨ S.1 231 65 = 1000) ∧ u.1 231 61 = 6 ∧ u.1 231 58 = S.1 231 58 ∧ u.1 231 63 = S.1 231 63 ∧ u.1 231 65 = S.1 231 65 ∧ u.1 231 62 = S.1 231 62) ∧ (r = 1 → S.1 231 63 ≤ 39 ∧ u.1 231 58 = S.1 231 58 + 1 ∧ u.1 231 63 = S.1 231 63 + 1 ∧ u.1 231 65 = S.1 231 65 + 1 ∧ u.1 231 65 ≤ 1000 ∧ u.1 231 62 = 4 ∧ u.1 231 61 = S.1 231 61) ∧ ∀ x, u.2.1 265 x = if r = 1 ∧ x = S.1 231 58 + 1 then S.1 231 46 + S.1 231 63 + 1 else S.2.1 265 x))) 0 0 (sF G) := by
  refine sEnter (by decide) (Nat.le_of_ble_eq_true rfl) ?_
  intro p e s m args below meth c Cx hr hlk hnm hW ls hl
  have Cx : sC G p m c cX12_mayBegin 1 s args RX12 := Cx
  obtain ⟨hx, hb, hml, hown, hts⟩ := id Cx.1
  have hL : sL G [] := sL_nil
  have hl : lv_has ls 1 [(0, .ref (G.2.2.1 + 231))] := hl
  have hW0 := hW
  have hm1 : (0 ≤ S.1 231 46 ∧ S.1 231 46 ≤ 12) ∧ (0 ≤ S.1 231 47 ∧ S.1 231 47 ≤ 16) ∧ 0 ≤ S.1 231 63 ∧ S.1 231 63 ≤ 40 := hM
  refine lv_aload_n hx hb dX12_mayBegin_0 rfl (lv_at hl 0 rfl) ?_
  have q_1 : (-2147483648) ≤ S.1 231 63 ∧ S.1 231 63 ≤ 2147483647 := hI.fi 63
  refine g_X12_480 Cx hW (k := 231) (by decide) rfl (v := S.1 231 63) rfl dX12_mayBegin_1 ?_
  refine lv_bipush (v := iv 40) hx hb dX12_mayBegin_4 (by decide) ?_
  refine r_icmp_eq (tgt := 19) hx hb ⟨(by omega), (by omega)⟩ ⟨(by omega), (by omega)⟩ dX12_mayBegin_6 (by decide) (fun c_2 => ?_) (fun c_2 => ?_)
  · refine lv_aload_n hx hb dX12_mayBegin_19 rfl (lv_at hl 0 rfl) ?_
    refine lv_bipush (v := iv 6) hx hb dX12_mayBegin_20 (by decide) ?_
    refine p_X12_477 Cx hW hL (k := 231) (by decide) rfl dX12_mayBegin_22 (fun H locs hW hL => ?_)
    have F_3 : Fr S (uF S 231 61 6) (pl [231, 265]) := (Fr.rf : Fr S S (pl [231, 265])).F rfl
    have g_4 : FF S (uF S 231 61 6) (fl [58, 61, 62, 63, 65]) := FF.F FF.rf rfl
    have i_5 : dX G (uF S 231 61 6) := hI.F (i := 61) (show (-2147483648) ≤ 6 ∧ 6 ≤ 2147483647 from ⟨by omega, by omega⟩)
    refine lv_iconst (v := iv 0) hx hb dX12_mayBegin_25 (by decide) ?_
    have lk_6 : (uF S 231 61 6).1 231 61 = 6 := uF_on
    have q_7 : (-2147483648) ≤ S.1 231 58 ∧ S.1 231 58 ≤ 2147483647 := hI.fi 58
    have lk_8 : (uF S 231 61 6).1 231 58 = S.1 231 58 := uF_ne (fun h => absurd h.2 (by decide))
    have lk_9 : (uF S 231 61 6).1 231 63 = S.1 231 63 := uF_ne (fun h => absurd h.2 (by decide))
    have q_10 : (-2147483648) ≤ S.1 231 65 ∧ S.1 231 65 ≤ 2147483647 := hI.fi 65
    have lk_11 : (uF S 231 61 6).1 231 65 = S.1 231 65 := uF_ne (fun h => absurd h.2 (by decide))
    have q_12 : (-2147483648) ≤ S.1 231 62 ∧ S.1 231 62 ≤ 2147483647 := hI.fi 62
    have lk_13 : (uF S 231 61 6).1 231 62 = S.1 231 62 := uF_ne (fun h => absurd h.2 (by decide))
    exact sZret Cx hr hlk hW hL (by omega) ⟨i_5, F_3, g_4, ⟨(by omega), (by omega), (by omega), (fun x => by rw [if_neg (by omega)]; rfl)⟩⟩ dX12_mayBegin_26
  · refine lv_aload_n hx hb dX12_mayBegin_9 rfl (lv_at hl 0 rfl) ?_
    have q_14 : (-2147483648) ≤ S.1 231 65 ∧ S.1 231 65 ≤ 2147483647 := hI.fi 65
    refine g_X12_499 Cx hW (k := 231) (by decide) rfl (v := S.1 231 65) rfl dX12_mayBegin_10 ?_
    refine lv_sipush (v := iv 1000) hx hb dX12_mayBegin_13 (by decide) ?_
    refine r_icmp_ne (tgt := 27) hx hb ⟨(by omega), (by omega)⟩ ⟨(by omega), (by omega)⟩ dX12_mayBegin_16 (by decide) (fun c_15 => ?_) (fun c_15 => ?_)
    · refine lv_aload_n hx hb dX12_mayBegin_27 rfl (lv_at hl 0 rfl) ?_
      refine lv_dup hx hb dX12_mayBegin_28 rfl ?_
      refine g_X12_499 Cx hW (k := 231) (by decide) rfl (v := S.1 231 65) rfl dX12_mayBegin_29 ?_
      refine lv_iconst (v := iv 1) hx hb dX12_mayBegin_32 (by decide) ?_
      refine r_iadd hx hb dX12_mayBegin_33 ?_
      refine p_X12_499 Cx hW hL (k := 231) (by decide) rfl dX12_mayBegin_34 (fun H locs hW hL => ?_)
      have F_16 : Fr S (uF S 231 65 ((S.1 231 65) + 1)) (pl [231, 265]) := (Fr.rf : Fr S S (pl [231, 265])).F rfl
      have g_17 : FF S (uF S 231 65 ((S.1 231 65) + 1)) (fl [58, 61, 62, 63, 65]) := FF.F FF.rf rfl
      have i_18 : dX G (uF S 231 65 ((S.1 231 65) + 1)) := hI.F (i := 65) (show (-2147483648) ≤ (S.1 231 65) + 1 ∧ (S.1 231 65) + 1 ≤ 2147483647 from ⟨by omega, by omega⟩)
      refine lv_aload_n hx hb dX12_mayBegin_37 rfl (lv_at hl 0 rfl) ?_
      refine lv_dup hx hb dX12_mayBegin_38 rfl ?_
      refine g_X12_480 Cx hW (k := 231) (by decide) rfl (v := S.1 231 63) (uF_ne (fun h => absurd h.2 (by decide))) dX12_mayBegin_39 ?_
      refine lv_iconst (v := iv 1) hx hb dX12_mayBegin_42 (by decide) ?_
      refine r_iadd hx hb dX12_mayBegin_43 ?_
      refine p_X12_480 Cx hW hL (k := 231) (by decide) rfl dX12_mayBegin_44 (fun H locs hW hL => ?_)
      have F_19 : Fr S (uF (uF S 231 65 ((S.1 231 65) + 1)) 231 63 ((S.1 231 63) + 1)) (pl [231, 265]) := F_16.F rfl
      have g_20 : FF S (uF (uF S 231 65 ((S.1 231 65) + 1)) 231 63 ((S.1 231 63) + 1)) (fl [58, 61, 62, 63, 65]) := FF.F g_17 rfl
      have i_21 : dX G (uF (uF S 231 65 ((S.1 231 65) + 1)) 231 63 ((S.1 231 63) + 1)) := i_18.F (i := 63) (show (-2147483648) ≤ (S.1 231 63) + 1 ∧ (S.1 231 63) + 1 ≤ 2147483647 from ⟨by omega, by omega⟩)
      refine lv_aload_n hx hb dX12_mayBegin_47 rfl (lv_at hl 0 rfl) ?_
      refine lv_dup hx hb dX12_mayBegin_48 rfl ?_
      have q_22 : (-2147483648) ≤ S.1 231 58 ∧ S.1 231 58 ≤ 2147483647 := hI.fi 58
      refine g_X12_483 Cx hW (k := 231) (by decide) rfl (v := S.1 231 58) ((uF_ne (fun h => absurd h.2 (by decide))).trans (uF_ne (fun h => absurd h.2 (by decide)))) dX12_mayBegin_49 ?_
      refine lv_iconst (v := iv 1) hx hb dX12_mayBegin_52 (by decide) ?_
      refine r_iadd hx hb dX12_mayBegin_53 ?_
      refine p_X12_483 Cx hW hL (k := 231) (by decide) rfl dX12_mayBegin_54 (fun H locs hW hL => ?_)
      have F_23 : Fr S (uF (uF (uF S 231 65 ((S.1 231 65) + 1)) 231 63 ((S.1 231 63) + 1)) 231 58 ((S.1 231 58) + 1)) (pl [231, 265]) := F_19.F rfl
      have g_24 : FF S (uF (uF (uF S 231 65 ((S.1 231 65) + 1)) 231 63 ((S.1 231 63) + 1)) 231 58 ((S.1 231 58) + 1)) (fl [58, 61, 62, 63, 65]) := FF.F g_20 rfl
      have i_25 : dX G (uF (uF (uF S 231 65 ((S.1 231 65) + 1)) 231 63 ((S.1 231 63) + 1)) 231 58 ((S.1 231 58) + 1)) := i_21.F (i := 58) (show (-2147483648) ≤ (S.1 231 58) + 1 ∧ (S.1 231 58) + 1 ≤ 2147483647 from ⟨by omega, by omega⟩)
      refine lv_aload_n hx hb dX12_mayBegin_57 rfl (lv_at hl 0 rfl) ?_
      refine g_X12_112 Cx hW (k := 231) (by decide) rfl (v := .ref (G.2.2.1 + 265)) (rd_56 i_25) dX12_mayBegin_58 ?_
      refine lv_aload_n hx hb dX12_mayBegin_61 rfl (lv_at hl 0 rfl) ?_
      refine g_X12_483 Cx hW (k := 231) (by decide) rfl (v := (S.1 231 58) + 1) uF_on dX12_mayBegin_62 ?_
      refine lv_aload_n hx hb dX12_mayBegin_65 rfl (lv_at hl 0 rfl) ?_
      have q_26 : (-2147483648) ≤ S.1 231 46 ∧ S.1 231 46 ≤ 2147483647 := hI.fi 46
      refine g_X12_465 Cx hW (k := 231) (by decide) rfl (v := S.1 231 46) ((uF_ne (fun h => absurd h.2 (by decide))).trans ((uF_ne (fun h => absurd h.2 (by decide))).trans (uF_ne (fun h => absurd h.2 (by decide))))) dX12_mayBegin_66 ?_
      refine lv_aload_n hx hb dX12_mayBegin_69 rfl (lv_at hl 0 rfl) ?_
      refine g_X12_480 Cx hW (k := 231) (by decide) rfl (v := (S.1 231 63) + 1) ((uF_ne (fun h => absurd h.2 (by decide))).trans (uF_on)) dX12_mayBegin_70 ?_
      refine r_iadd hx hb dX12_mayBegin_73 ?_
      refine rIast Cx hW hL (k := 265) (by decide) rfl (by decide) (by omega) (by omega) dX12_mayBegin_74 (fun H locs hW hL => ?_)
      have F_27 : Fr S (uA (uF (uF (uF S 231 65 ((S.1 231 65) + 1)) 231 63 ((S.1 231 63) + 1)) 231 58 ((S.1 231 58) + 1)) 265 ((S.1 231 58) + 1) ((S.1 231 46) + ((S.1 231 63) + 1))) (pl [231, 265]) := F_23.A rfl
      have i_28 : dX G (uA (uF (uF (uF S 231 65 ((S.1 231 65) + 1)) 231 63 ((S.1 231 63) + 1)) 231 58 ((S.1 231 58) + 1)) 265 ((S.1 231 58) + 1) ((S.1 231 46) + ((S.1 231 63) + 1))) := i_25.A (k := 265) (show (-2147483648) ≤ (S.1 231 46) + ((S.1 231 63) + 1) ∧ (S.1 231 46) + ((S.1 231 63) + 1) ≤ 2147483647 from ⟨by omega, by omega⟩)
      refine lv_aload_n hx hb dX12_mayBegin_75 rfl (lv_at hl 0 rfl) ?_
      refine lv_iconst (v := iv 4) hx hb dX12_mayBegin_76 (by decide) ?_
      refine p_X12_532 Cx hW hL (k := 231) (by decide) rfl dX12_mayBegin_77 (fun H locs hW hL => ?_)
      have F_29 : Fr S (uF (uA (uF (uF (uF S 231 65 ((S.1 231 65) + 1)) 231 63 ((S.1 231 63) + 1)) 231 58 ((S.1 231 58) + 1)) 265 ((S.1 231 58) + 1) ((S.1 231 46) + ((S.1 231 63) + 1))) 231 62 4) (pl [231, 265]) := F_27.F rfl
      have g_30 : FF S (uF (uA (uF (uF (uF S 231 65 ((S.1 231 65) + 1)) 231 63 ((S.1 231 63) + 1)) 231 58 ((S.1 231 58) + 1)) 265 ((S.1 231 58) + 1) ((S.1 231 46) + ((S.1 231 63) + 1))) 231 62 4) (fl [58, 61, 62, 63, 65]) := FF.F g_24 rfl
      have i_31 : dX G (uF (uA (uF (uF (uF S 231 65 ((S.1 231 65) + 1)) 231 63 ((S.1 231 63) + 1)) 231 58 ((S.1 231 58) + 1)) 265 ((S.1 231 58) + 1) ((S.1 231 46) + ((S.1 231 63) + 1))) 231 62 4) := i_28.F (i := 62) (show (-2147483648) ≤ 4 ∧ 4 ≤ 2147483647 from ⟨by omega, by omega⟩)
      refine lv_iconst (v := iv 1) hx hb dX12_mayBegin_80 (by decide) ?_
      have q_32 : (-2147483648) ≤ S.1 231 61 ∧ S.1 231 61 ≤ 2147483647 := hI.fi 61
      have lk_33 : (uF (uA (uF (uF (uF S 231 65 ((S.1 231 65) + 1)) 231 63 ((S.1 231 63) + 1)) 231 58 ((S.1 231 58) + 1)) 265 ((S.1 231 58) + 1) ((S.1 231 46) + ((S.1 231 63) + 1))) 231 62 4).1 231 61 = S.1 231 61 := (uF_ne (fun h => absurd h.2 (by decide))).trans ((uA_f).trans ((uF_ne (fun h => absurd h.2 (by decide))).trans ((uF_ne (fun h => absurd h.2 (by decide))).trans (uF_ne (fun h => absurd h.2 (by decide))))))
      have lk_34 : (uF (uA (uF (uF (uF S 231 65 ((S.1 231 65) + 1)) 231 63 ((S.1 231 63) + 1)) 231 58 ((S.1 231 58) + 1)) 265 ((S.1 231 58) + 1) ((S.1 231 46) + ((S.1 231 63) + 1))) 231 62 4).1 231 58 = (S.1 231 58) + 1 := (uF_ne (fun h => absurd h.2 (by decide))).trans ((uA_f).trans (uF_on))
      have lk_35 : (uF (uA (uF (uF (uF S 231 65 ((S.1 231 65) + 1)) 231 63 ((S.1 231 63) + 1)) 231 58 ((S.1 231 58) + 1)) 265 ((S.1 231 58) + 1) ((S.1 231 46) + ((S.1 231 63) + 1))) 231 62 4).1 231 63 = (S.1 231 63) + 1 := (uF_ne (fun h => absurd h.2 (by decide))).trans ((uA_f).trans ((uF_ne (fun h => absurd h.2 (by decide))).trans (uF_on)))
      have lk_36 : (uF (uA (uF (uF (uF S 231 65 ((S.1 231 65) + 1)) 231 63 ((S.1 231 63) + 1)) 231 58 ((S.1 231 58) + 1)) 265 ((S.1 231 58) + 1) ((S.1 231 46) + ((S.1 231 63) + 1))) 231 62 4).1 231 65 = (S.1 231 65) + 1 := (uF_ne (fun h => absurd h.2 (by decide))).trans ((uA_f).trans ((uF_ne (fun h => absurd h.2 (by decide))).trans ((uF_ne (fun h => absurd h.2 (by decide))).trans (uF_on))))
      have lk_37 : (uF (uA (uF (uF (uF S 231 65 ((S.1 231 65) + 1)) 231 63 ((S.1 231 63) + 1)) 231 58 ((S.1 231 58) + 1)) 265 ((S.1 231 58) + 1) ((S.1 231 46) + ((S.1 231 63) + 1))) 231 62 4).1 231 62 = 4 := uF_on
      exact sZret Cx hr hlk hW hL (by omega) ⟨i_31, F_29, g_30, ⟨(by omega), (by omega), (by omega), (fun x => by show (uA _ _ _ _).2.1 265 x = _; rw [uA_get]; by_cases z : x = S.1 231 58 + 1; (rw [if_pos ⟨rfl, z⟩, if_pos ⟨rfl, z⟩]; omega); rw [if_neg (fun h => z h.2), if_neg (fun h => z h.2)]; rfl)⟩⟩ dX12_mayBegin_81
    · refine lv_aload_n hx hb dX12_mayBegin_19 rfl (lv_at hl 0 rfl) ?_
      refine lv_bipush (v := iv 6) hx hb dX12_mayBegin_20 (by decide) ?_
      refine p_X12_477 Cx hW hL (k := 231) (by decide) rfl dX12_mayBegin_22 (fun H locs hW hL => ?_)
      have F_38 : Fr S (uF S 231 61 6) (pl [231, 265]) := (Fr.rf : Fr S S (pl [231, 265])).F rfl
      have g_39 : FF S (uF S 231 61 6) (fl [58, 61, 62, 63, 65]) := FF.F FF.rf rfl
      have i_40 : dX G (uF S 231 61 6) := hI.F (i := 61) (show (-2147483648) ≤ 6 ∧ 6 ≤ 2147483647 from ⟨by omega, by omega⟩)
      refine lv_iconst (v := iv 0) hx hb dX12_mayBegin_25 (by decide) ?_
      have lk_41 : (uF S 231 61 6).1 231 61 = 6 := uF_on
      have q_42 : (-2147483648) ≤ S.1 231 58 ∧ S.1 231 58 ≤ 2147483647 := hI.fi 58
      have lk_43 : (uF S 231 61 6).1 231 58 = S.1 231 58 := uF_ne (fun h => absurd h.2 (by decide))
      have lk_44 : (uF S 231 61 6).1 231 63 = S.1 231 63 := uF_ne (fun h => absurd h.2 (by decide))
      have lk_45 : (uF S 231 61 6).1 231 65 = S.1 231 65 := uF_ne (fun h => absurd h.2 (by decide))
      have q_46 : (-2147483648) ≤ S.1 231 62 ∧ S.1 231 62 ≤ 2147483647 := hI.fi 62
      have lk_47 : (uF S 231 61 6).1 231 62 = S.1 231 62 := uF_ne (fun h => absurd h.2 (by decide))
      exact sZret Cx hr hlk hW hL (by omega) ⟨i_40, F_38, g_39, ⟨(by omega), (by omega), (by omega), (fun x => by rw [if_neg (by omega)]; rfl)⟩⟩ dX12_mayBegin_26

set_option maxRecDepth 100000 in
set_option maxHeartbeats 4000000 in
theorem r_X12_dropPlace (l : Launch) (G : sG) (S : sS) {n : Int} {d : dT} (hI : dX G S) (hD : DOK S) (hw1 : S.1 231 60 = 1 ∧ 1 ≤ S.1 231 59) (hR : Hd (DRr S 1 d)) (hxi : Hd (dIx n 1 d)) (hgo : pOf d 0 ≠ 0) : Met l yX12_dropPlace (.code yX12_dropPlace cX12_dropPlace 3 none :: tb) (rmk 4 0 0) (sPc G 294 S [.ref (G.2.2.1 + 231)]) (sQv G 294 (fun u => dX G u ∧ Fr S u (pl [231, 262, 266]) ∧ FF S u (fl [59, 60]) ∧ (DOK u ∧ u.1 231 59 = S.1 231 59 - 1 ∧ u.1 231 60 = 0 ∧ Hd (∃ s, (0 ≤ s ∧ s ≤ S.1 231 59) ∧ ∀ x, u.2.1 266 x = if x = s then S.2.1 266 (S.1 231 59) else S.2.1 266 x) ∧ Hd (DRr u 0 (dpD d))))) 0 0 (sF G) := by
  refine sEnter (by decide) (Nat.le_of_ble_eq_true rfl) ?_
  intro p e s m args below meth c Cx hr hlk hnm hW ls hl
  have Cx : sC G p m c cX12_dropPlace 3 s args RX12 := Cx
  obtain ⟨hx, hb, hml, hown, hts⟩ := id Cx.1
  have hL : sL G [] := sL_nil
  have hl : lv_has ls 3 [(0, .ref (G.2.2.1 + 231))] := hl
  have hW0 := hW
  have hd1 := hD.1
  have hr58 := hR.2.2.2.2.1; have hr59 := hR.2.2.2.2.2.1; have hgi := pOf_i hgo (by omega); have hgi1 := hgi.1
  refine lv_iconst (v := iv 0) hx hb dX12_dropPlace_0 (by decide) ?_
  refine lv_istore_n (lv' := [(1, .int (iv 0)), (0, .ref (G.2.2.1 + 231))]) hx hb dX12_dropPlace_1 rfl hl (by decide) rfl (fun ls hl => ?_)
  refine lv_iconst (v := iv 1) hx hb dX12_dropPlace_2 (by decide) ?_
  refine lv_istore_n (lv' := [(2, .int (iv 1)), (1, .int (iv 0)), (0, .ref (G.2.2.1 + 231))]) hx hb dX12_dropPlace_3 rfl hl (by decide) rfl (fun ls hl => ?_)
  have loop_4 : ∀ (fuel : Nat) (j : Int) (s1 : Int) (H : Heap) (locs : List Loc) (ls : Array Slot), (S.1 231 59 + 1 - j).toNat < fuel → (1 ≤ j ∧ j ≤ S.1 231 59 + 1) → (0 ≤ s1 ∧ s1 ≤ S.1 231 59) → (Hd (1 ≤ s1 → S.2.1 266 s1 = 0)) → (Hd (s1 = 0 → ∀ t, 1 ≤ t → t < j → S.2.1 266 t ≠ 0)) → sW G 294 S H → sL G locs → lv_has ls 3 [(2, .int (iv j)), (1, .int (iv s1)), (0, .ref (G.2.2.1 + 231))] → W p l e (rmk 4 0 0) s m args below meth c H locs 0 0 (MQ below (sQv G 294 (fun u => dX G u ∧ Fr S u (pl [231, 262, 266]) ∧ FF S u (fl [59, 60]) ∧ (DOK u ∧ u.1 231 59 = S.1 231 59 - 1 ∧ u.1 231 60 = 0 ∧ Hd (∃ s, (0 ≤ s ∧ s ≤ S.1 231 59) ∧ ∀ x, u.2.1 266 x = if x = s then S.2.1 266 (S.1 231 59) else S.2.1 266 x) ∧ Hd (DRr u 0 (dpD d))))) args s 0 0 (sF G)) (F0 m 4 ls []) := by
    intro fuel
    induction fuel with
    | zero => intro j s1 H locs ls hmeas hj hs1 hz1 hn1 hW hL hl; exact absurd hmeas (Nat.not_lt_zero _)
    | succ fuel ih_4 =>
      intro j s1 H locs ls hmeas hj hs1 hz1 hn1 hW hL hl
      refine lv_iload_n hx hb dX12_dropPlace_4 rfl (lv_at hl 0 rfl) ?_
      refine lv_aload_n hx hb dX12_dropPlace_5 rfl (lv_at hl 2 rfl) ?_
      have q_1 : (-2147483648) ≤ S.1 231 59 ∧ S.1 231 59 ≤ 2147483647 := hI.fi 59
      refine g_X12_526 Cx hW (k := 231) (by decide) rfl (v := S.1 231 59) rfl dX12_dropPlace_6 ?_
      refine r_icmp_gt (tgt := 29) hx hb ⟨(by omega), (by omega)⟩ ⟨(by omega), (by omega)⟩ dX12_dropPlace_9 (by decide) (fun c_2 => ?_) (fun c_2 => ?_)
      · have hs1p : 1 ≤ s1 := by by_cases z : s1 = 0; (exfalso; have y := hn1 z (pOf d 0) hgi1.1 (by omega); rw [hR.2.2.2.1 _ hgi1.1 (by omega)] at y; exact y hgi.2); omega
        have hsP : pOf d 0 = s1 := by have e : d.2.2.2.1 s1 = 0 := (by rw [← hR.2.2.2.1 s1 (by omega) (by omega)]; exact hz1 hs1p); rw [← e]; exact pOf_u hxi (by omega)
        refine lv_aload_n hx hb dX12_dropPlace_29 rfl (lv_at hl 2 rfl) ?_
        refine g_X12_115 Cx hW (k := 231) (by decide) rfl (v := .ref (G.2.2.1 + 266)) (rd_57 hI) dX12_dropPlace_30 ?_
        refine lv_iload_n hx hb dX12_dropPlace_33 rfl (lv_at hl 1 rfl) ?_
        refine lv_aload_n hx hb dX12_dropPlace_34 rfl (lv_at hl 2 rfl) ?_
        refine g_X12_115 Cx hW (k := 231) (by decide) rfl (v := .ref (G.2.2.1 + 266)) (rd_57 hI) dX12_dropPlace_35 ?_
        refine lv_aload_n hx hb dX12_dropPlace_38 rfl (lv_at hl 2 rfl) ?_
        refine g_X12_526 Cx hW (k := 231) (by decide) rfl (v := S.1 231 59) rfl dX12_dropPlace_39 ?_
        refine rIald Cx hW (k := 266) (by decide) rfl (by decide) (by omega) (by omega) dX12_dropPlace_42 ?_
        have q_3 : (-2147483648) ≤ S.2.1 266 (S.1 231 59) ∧ S.2.1 266 (S.1 231 59) ≤ 2147483647 := hI.ai 266 (S.1 231 59)
        refine r_i (b := S.2.1 266 (S.1 231 59)) rfl ?_
        refine rIast Cx hW hL (k := 266) (by decide) rfl (by decide) (by omega) (by omega) dX12_dropPlace_43 (fun H locs hW hL => ?_)
        have F_4 : Fr S (uA S 266 s1 (S.2.1 266 (S.1 231 59))) (pl [231, 262, 266]) := (Fr.rf : Fr S S (pl [231, 262, 266])).A rfl
        have i_5 : dX G (uA S 266 s1 (S.2.1 266 (S.1 231 59))) := hI.A (k := 266) (show (-2147483648) ≤ S.2.1 266 (S.1 231 59) ∧ S.2.1 266 (S.1 231 59) ≤ 2147483647 from ⟨by omega, by omega⟩)
        refine lv_iconst (v := iv 0) hx hb dX12_dropPlace_44 (by decide) ?_
        refine lv_istore_n (lv' := [(2, .int (iv 0)), (1, .int (iv s1)), (0, .ref (G.2.2.1 + 231))]) hx hb dX12_dropPlace_45 rfl hl (by decide) rfl (fun ls hl => ?_)
        have loop_46 : ∀ (fuel : Nat) (S46 : sS) (i : Int) (H : Heap) (locs : List Loc) (ls : Array Slot), (S.1 231 58 + 2 - i).toNat < fuel → (dX G S46) → (Fr S S46 (pl [231, 262, 266])) → (Fr ((uA S 266 s1 (S.2.1 266 (S.1 231 59)))) S46 (pl [262])) → (FF S S46 (fl [59, 60])) → (FF ((uA S 266 s1 (S.2.1 266 (S.1 231 59)))) S46 (fl [])) → (0 ≤ i ∧ i ≤ S.1 231 58 + 2) → (DKo (S46.2.1 262) (S.1 231 58) (S.1 231 59) 1) → (Hd (∀ a b, 0 ≤ a → a ≤ S.1 231 58 + 1 → 0 ≤ b → b ≤ S.1 231 59 → nv (S46.2.1 262) (cl a b) = if b = s1 ∧ a < i then TV S a (S.1 231 59) else TV S a b)) → sW G 294 S46 H → sL G locs → lv_has ls 3 [(2, .int (iv i)), (1, .int (iv s1)), (0, .ref (G.2.2.1 + 231))] → W p l e (rmk 4 0 0) s m args below meth c H locs 0 0 (MQ below (sQv G 294 (fun u => dX G u ∧ Fr S u (pl [231, 262, 266]) ∧ FF S u (fl [59, 60]) ∧ (DOK u ∧ u.1 231 59 = S.1 231 59 - 1 ∧ u.1 231 60 = 0 ∧ Hd (∃ s, (0 ≤ s ∧ s ≤ S.1 231 59) ∧ ∀ x, u.2.1 266 x = if x = s then S.2.1 266 (S.1 231 59) else S.2.1 266 x) ∧ Hd (DRr u 0 (dpD d))))) args s 0 0 (sF G)) (F0 m 46 ls []) := by
          intro fuel
          induction fuel with
          | zero => intro S46 i H locs ls hmeas hI46 hFm46 hL46_ hGm46 gL46_ hi hK hcv hW hL hl; exact absurd hmeas (Nat.not_lt_zero _)
          | succ fuel ih_46 =>
            intro S46 i H locs ls hmeas hI46 hFm46 hL46_ hGm46 gL46_ hi hK hcv hW hL hl
            refine lv_iload_n hx hb dX12_dropPlace_46 rfl (lv_at hl 0 rfl) ?_
            refine lv_aload_n hx hb dX12_dropPlace_47 rfl (lv_at hl 2 rfl) ?_
            have q_6 : (-2147483648) ≤ S.1 231 58 ∧ S.1 231 58 ≤ 2147483647 := hI.fi 58
            refine g_X12_483 Cx hW (k := 231) (by decide) rfl (v := S.1 231 58) ((gL46_ 58 rfl).trans (uA_f)) dX12_dropPlace_48 ?_
            refine lv_iconst (v := iv 1) hx hb dX12_dropPlace_51 (by decide) ?_
            refine r_iadd hx hb dX12_dropPlace_52 ?_
            refine r_icmp_gt (tgt := 88) hx hb ⟨(by omega), (by omega)⟩ ⟨(by omega), (by omega)⟩ dX12_dropPlace_53 (by decide) (fun c_7 => ?_) (fun c_7 => ?_)
            · refine lv_aload_n hx hb dX12_dropPlace_88 rfl (lv_at hl 2 rfl) ?_
              refine lv_dup hx hb dX12_dropPlace_89 rfl ?_
              refine g_X12_526 Cx hW (k := 231) (by decide) rfl (v := S.1 231 59) ((gL46_ 59 rfl).trans (uA_f)) dX12_dropPlace_90 ?_
              refine lv_iconst (v := iv 1) hx hb dX12_dropPlace_93 (by decide) ?_
              refine r_isub hx hb dX12_dropPlace_94 ?_
              refine p_X12_526 Cx hW hL (k := 231) (by decide) rfl dX12_dropPlace_95 (fun H locs hW hL => ?_)
              have F_8 : Fr S (uF S46 231 59 ((S.1 231 59) - 1)) (pl [231, 262, 266]) := hFm46.F rfl
              have g_9 : FF S (uF S46 231 59 ((S.1 231 59) - 1)) (fl [59, 60]) := FF.F hGm46 rfl
              have i_10 : dX G (uF S46 231 59 ((S.1 231 59) - 1)) := hI46.F (i := 59) (show (-2147483648) ≤ (S.1 231 59) - 1 ∧ (S.1 231 59) - 1 ≤ 2147483647 from ⟨by omega, by omega⟩)
              refine lv_aload_n hx hb dX12_dropPlace_98 rfl (lv_at hl 2 rfl) ?_
              refine lv_iconst (v := iv 0) hx hb dX12_dropPlace_99 (by decide) ?_
              refine p_X12_535 Cx hW hL (k := 231) (by decide) rfl (by omega) dX12_dropPlace_100 (fun H locs hW hL => ?_)
              have F_11 : Fr S (uF (uF S46 231 59 ((S.1 231 59) - 1)) 231 60 0) (pl [231, 262, 266]) := F_8.F rfl
              have g_12 : FF S (uF (uF S46 231 59 ((S.1 231 59) - 1)) 231 60 0) (fl [59, 60]) := FF.F g_9 rfl
              have i_13 : dX G (uF (uF S46 231 59 ((S.1 231 59) - 1)) 231 60 0) := i_10.F (i := 60) (show 0 ≤ 0 ∧ 0 ≤ 1 from ⟨by omega, by omega⟩)
              have lk_14 : (uF (uF S46 231 59 ((S.1 231 59) - 1)) 231 60 0).1 231 59 = (S.1 231 59) - 1 := (uF_ne (fun h => absurd h.2 (by decide))).trans (uF_on)
              have lk_15 : (uF (uF S46 231 59 ((S.1 231 59) - 1)) 231 60 0).1 231 60 = 0 := uF_on
              exact sVret Cx hr hlk hW hL ⟨i_13, F_11, g_12, ⟨⟨by have e8 : (uF (uF S46 231 59 ((S.1 231 59) - 1)) 231 60 0).1 231 58 = S.1 231 58 := (uF_ne (fun h => absurd h.2 (by decide))).trans ((uF_ne (fun h => absurd h.2 (by decide))).trans ((gL46_ 58 rfl).trans (uA_f))); have e9 : (uF (uF S46 231 59 ((S.1 231 59) - 1)) 231 60 0).1 231 59 = S.1 231 59 - 1 := (uF_ne (fun h => absurd h.2 (by decide))).trans (uF_on); rw [e8, e9]; omega, by have e8 : (uF (uF S46 231 59 ((S.1 231 59) - 1)) 231 60 0).1 231 58 = S.1 231 58 := (uF_ne (fun h => absurd h.2 (by decide))).trans ((uF_ne (fun h => absurd h.2 (by decide))).trans ((gL46_ 58 rfl).trans (uA_f))); have e9 : (uF (uF S46 231 59 ((S.1 231 59) - 1)) 231 60 0).1 231 59 = S.1 231 59 - 1 := (uF_ne (fun h => absurd h.2 (by decide))).trans (uF_on); rw [e8, e9]; exact fun a b a0 a1 a2 b0 b1 => hK a b a0 a1 (fun _ => rfl) b0 (by omega), by rw [show (uF (uF S46 231 59 ((S.1 231 59) - 1)) 231 60 0).2.1 264 = S.2.1 264 from (funext fun j => (uF_a).trans ((uF_a).trans (((hL46_ 264 rfl).2.1 j).trans (uA_ne (fun h => absurd h.1 (by decide))))) : (uF (uF S46 231 59 ((S.1 231 59) - 1)) 231 60 0).2.1 264 = S.2.1 264)]; exact hD.2.2.1, by rw [show (uF (uF S46 231 59 ((S.1 231 59) - 1)) 231 60 0).2.1 264 = S.2.1 264 from (funext fun j => (uF_a).trans ((uF_a).trans (((hL46_ 264 rfl).2.1 j).trans (uA_ne (fun h => absurd h.1 (by decide))))) : (uF (uF S46 231 59 ((S.1 231 59) - 1)) 231 60 0).2.1 264 = S.2.1 264)]; exact hD.2.2.2⟩, (uF_ne (fun h => absurd h.2 (by decide))).trans (uF_on), uF_on, ⟨s1, by omega, fun x => by rw [show (uF (uF S46 231 59 ((S.1 231 59) - 1)) 231 60 0).2.1 266 x = (uA S 266 s1 (S.2.1 266 (S.1 231 59))).2.1 266 x from (uF_a).trans ((uF_a).trans ((hL46_ 266 rfl).2.1 x)), uA_get]; by_cases z : x = s1; (rw [if_pos ⟨rfl, z⟩, if_pos z]); rw [if_neg (fun h => z h.2), if_neg z]⟩, ⟨(by rw [show (uF (uF S46 231 59 ((S.1 231 59) - 1)) 231 60 0).2.1 264 = S.2.1 264 from (funext fun j => (uF_a).trans ((uF_a).trans (((hL46_ 264 rfl).2.1 j).trans (uA_ne (fun h => absurd h.1 (by decide))))) : (uF (uF S46 231 59 ((S.1 231 59) - 1)) 231 60 0).2.1 264 = S.2.1 264)]; exact hR.1), (fun a b a0 a1 aw b0 b1 => by have a9 : a ≠ -1 := (fun q => absurd (aw q) (by decide)); have a2 : a ≤ d.2.2.2.2.1 := a1; have b2 : b ≤ d.2.2.2.2.2 - 1 := b1; have ra : 0 ≤ rI a ∧ rI a ≤ S.1 231 58 + 1 := (by unfold rI; rw [if_neg a9]; split <;> omega); unfold TV; rw [show (uF (uF S46 231 59 ((S.1 231 59) - 1)) 231 60 0).2.1 262 = S46.2.1 262 from (funext fun j => (uF_a).trans (uF_a) : (uF (uF S46 231 59 ((S.1 231 59) - 1)) 231 60 0).2.1 262 = S46.2.1 262), hcv (rI a) b ra.1 ra.2 b0 (by omega)]; show _ = (if b = pOf d 0 then d.2.1 a d.2.2.2.2.2 else d.2.1 a b); rw [hsP]; by_cases z : b = s1; (rw [if_pos ⟨z, by omega⟩, if_pos z, hr59]; exact hR.2.1 a _ (by omega) a2 (fun q => absurd q a9) (by omega) (by omega)); (rw [if_neg (fun h => z h.1), if_neg z]; exact hR.2.1 a b (by omega) a2 (fun q => absurd q a9) b0 (by omega))), (fun a a0 a1 => by rw [show (uF (uF S46 231 59 ((S.1 231 59) - 1)) 231 60 0).2.1 265 = S.2.1 265 from (funext fun j => (uF_a).trans ((uF_a).trans (((hL46_ 265 rfl).2.1 j).trans (uA_ne (fun h => absurd h.1 (by decide))))) : (uF (uF S46 231 59 ((S.1 231 59) - 1)) 231 60 0).2.1 265 = S.2.1 265)]; exact hR.2.2.1 a a0 a1), (fun b b0 b1 => by have b2 : b ≤ d.2.2.2.2.2 - 1 := b1; rw [show (uF (uF S46 231 59 ((S.1 231 59) - 1)) 231 60 0).2.1 266 b = (uA S 266 s1 (S.2.1 266 (S.1 231 59))).2.1 266 b from (uF_a).trans ((uF_a).trans ((hL46_ 266 rfl).2.1 b)), uA_get]; show _ = (if b = pOf d 0 then d.2.2.2.1 d.2.2.2.2.2 else d.2.2.2.1 b); rw [hsP]; by_cases z : b = s1; (rw [if_pos ⟨rfl, z⟩, if_pos z, hr59]; exact hR.2.2.2.1 _ (by omega) (by omega)); (rw [if_neg (fun h => z h.2), if_neg z]; exact hR.2.2.2.1 b b0 (by omega))), ((uF_ne (fun h => absurd h.2 (by decide))).trans ((uF_ne (fun h => absurd h.2 (by decide))).trans ((gL46_ 58 rfl).trans (uA_f))) : (uF (uF S46 231 59 ((S.1 231 59) - 1)) 231 60 0).1 231 58 = _).trans hr58, ((uF_ne (fun h => absurd h.2 (by decide))).trans (uF_on) : (uF (uF S46 231 59 ((S.1 231 59) - 1)) 231 60 0).1 231 59 = _).trans (show _ = d.2.2.2.2.2 - 1 by omega), uF_on⟩⟩⟩ dX12_dropPlace_103
            · refine lv_aload_n hx hb dX12_dropPlace_56 rfl (lv_at hl 2 rfl) ?_
              refine g_X12_103 Cx hW (k := 231) (by decide) rfl (v := .ref (G.2.2.1 + 262)) (rd_53 hI46) dX12_dropPlace_57 ?_
              refine lv_aload_n hx hb dX12_dropPlace_60 rfl (lv_at hl 2 rfl) ?_
              refine lv_iload_n hx hb dX12_dropPlace_61 rfl (lv_at hl 0 rfl) ?_
              refine lv_aload_n hx hb dX12_dropPlace_62 rfl (lv_at hl 2 rfl) ?_
              refine g_X12_526 Cx hW (k := 231) (by decide) rfl (v := S.1 231 59) ((gL46_ 59 rfl).trans (uA_f)) dX12_dropPlace_63 ?_
              refine sBi (sV (As := [.int (iv i), .int (iv (S.1 231 59))]) (rest := [.ref (G.2.2.1 + 262)]) (k := 231) Cx (s_X12_cell l G S46 (i := i) (j := S.1 231 59) (by omega) (by omega)) (c_X12_529 Cx rfl rfl (rmk_ok (by omega) (by decide))) hW (by decide) rfl rfl rfl hl.1 rfl (Nat.le_of_ble_eq_true rfl) dX12_dropPlace_66 ⟨Nat.le_of_ble_eq_true rfl, Nat.le_of_ble_eq_true rfl⟩) hL (fun p1 u_16 H locs k_17 hW hL => ?_)
              obtain ⟨eu_16, xu_16⟩ := k_17
              rw [eu_16] at hW
              refine lv_aload_n hx hb dX12_dropPlace_69 rfl (lv_at hl 2 rfl) ?_
              refine g_X12_103 Cx hW (k := 231) (by decide) rfl (v := .ref (G.2.2.1 + 262)) (rd_53 hI46) dX12_dropPlace_70 ?_
              refine lv_aload_n hx hb dX12_dropPlace_73 rfl (lv_at hl 2 rfl) ?_
              refine lv_iload_n hx hb dX12_dropPlace_74 rfl (lv_at hl 0 rfl) ?_
              refine lv_iload_n hx hb dX12_dropPlace_75 rfl (lv_at hl 1 rfl) ?_
              refine sBi (sV (As := [.int (iv i), .int (iv s1)]) (rest := [.ref (G.2.2.1 + 262), .int (iv p1), .ref (G.2.2.1 + 262)]) (k := 231) Cx (s_X12_cell l G S46 (i := i) (j := s1) (by omega) (by omega)) (c_X12_529 Cx rfl rfl (rmk_ok (by omega) (by decide))) hW (by decide) rfl rfl rfl hl.1 rfl (Nat.le_of_ble_eq_true rfl) dX12_dropPlace_76 ⟨Nat.le_of_ble_eq_true rfl, Nat.le_of_ble_eq_true rfl⟩) hL (fun p2 u_18 H locs k_19 hW hL => ?_)
              obtain ⟨eu_18, xu_18⟩ := k_19
              rw [eu_18] at hW
              refine sBv (sSt (As := [.ref (G.2.2.1 + 262), .int (iv p1), .ref (G.2.2.1 + 262), .int (iv p2)]) (rest := []) Cx (s_X12_copy_s l G S46 (ka := 262) (po := p1) (qo := p2) (Nka := 5280) (La := 6) hI46 ⟨rfl, by decide, by decide, by decide, rfl⟩ (by omega) (by rw [show p1 = cl i (S.1 231 59) by unfold cl; omega]; exact hK i _ (by omega) (by omega) (fun _ => rfl) (by omega) (by omega)) (by omega)) (c_X12_233 Cx rfl rfl (rmk_ok (by omega) (by decide))) hW rfl hl.1 rfl (Nat.le_of_ble_eq_true rfl) dX12_dropPlace_79 ⟨Nat.le_of_ble_eq_true rfl, Nat.le_of_ble_eq_true rfl⟩) hL (fun u_20 H locs k_21 hW hL => ?_)
              obtain ⟨iu_20, fu_20, xu_20⟩ := k_21
              have F_22 := hFm46.trans (fu_20.to (p1_sub rfl))
              have F_23 := hL46_.trans (fu_20.to (p1_sub rfl))
              have g_24 : FF S u_20 (fl [59, 60]) := FF.fr hGm46 fu_20 rfl
              have g_25 : FF ((uA S 266 s1 (S.2.1 266 (S.1 231 59)))) u_20 (fl []) := FF.fr gL46_ fu_20 rfl
              refine lv_iinc (v := iv (i + 1)) (lv' := [(2, .int (iv (i + 1))), (1, .int (iv s1)), (0, .ref (G.2.2.1 + 231))]) hx hb dX12_dropPlace_82 hl (k := 0) rfl ((Int32.ofInt_add _ _).symm) (by decide) rfl (fun ls hl => ?_)
              refine lv_goto (tgt := 46) hx hb dX12_dropPlace_85 (by decide) ?_
              exact ih_46 u_20 (i + 1) _ _ _ (by omega) iu_20 F_22 F_23 g_24 g_25 (by omega) (fun a b a0 a1 a2 b0 b1 => if e : a = i ∧ b = s1 then (by rw [e.1, e.2, show cl i s1 = p2 by unfold cl; omega]; exact xu_20.1.1) else ((hK a b a0 a1 a2 b0 b1).same (fun x x0 x1 => xu_20.2 x (by have e2 := cl_far (i := i) (j := s1) (a := a) (b := b) (x := x) (by omega) (by omega) (by omega) ⟨x0, x1⟩; unfold cl at e2; omega))).1) (fun a b a0 a1 b0 b1 => by by_cases e : a = i ∧ b = s1; (rw [e.1, e.2, if_pos ⟨rfl, by omega⟩, show cl i s1 = p2 by unfold cl; omega, xu_20.1.2.1, show p1 = cl i (S.1 231 59) by unfold cl; omega, hcv i (S.1 231 59) (by omega) (by omega) (by omega) (by omega), if_neg (fun h => by omega)]); (rw [((hK a b a0 a1 (fun _ => rfl) b0 b1).same (g := u_20.2.1 262) (fun x x0 x1 => xu_20.2 x (by have e2 := cl_far (i := i) (j := s1) (a := a) (b := b) (x := x) (by omega) (by omega) (by omega) ⟨x0, x1⟩; unfold cl at e2; omega))).2, hcv a b a0 a1 b0 b1]; by_cases z : b = s1 ∧ a < i; (rw [if_pos z, if_pos (by omega)]); (rw [if_neg z, if_neg (by omega)]))) hW hL (lv_sub hl [0, 1, 2] rfl)
        exact loop_46 (_ + 1) (uA S 266 s1 (S.2.1 266 (S.1 231 59))) 0 _ _ _ (Nat.lt_succ_self _) i_5 F_4 Fr.rf FF.rf FF.rf (by omega) (fun a b a0 a1 a2 b0 b1 => hD.2.1 a b a0 a1 (fun _ => hw1.1) b0 b1) (fun a b a0 a1 b0 b1 => by rw [show (uA S 266 s1 (S.2.1 266 (S.1 231 59))).2.1 262 = S.2.1 262 from (funext fun j => uA_ne (fun h => absurd h.1 (by decide)) : (uA S 266 s1 (S.2.1 266 (S.1 231 59))).2.1 262 = S.2.1 262), if_neg (fun h => by omega)]; rfl) hW hL (lv_sub hl [0, 1, 2] rfl)
      · have join_23 : ∀ (s2 : Int) (H : Heap) (locs : List Loc) (ls : Array Slot), (0 ≤ s2 ∧ s2 ≤ S.1 231 59) → (Hd (1 ≤ s2 → S.2.1 266 s2 = 0)) → (Hd (s2 = 0 → ∀ t, 1 ≤ t → t < j + 1 → S.2.1 266 t ≠ 0)) → sW G 294 S H → sL G locs → lv_has ls 3 [(2, .int (iv j)), (1, .int (iv s2)), (0, .ref (G.2.2.1 + 231))] → W p l e (rmk 4 0 0) s m args below meth c H locs 0 0 (MQ below (sQv G 294 (fun u => dX G u ∧ Fr S u (pl [231, 262, 266]) ∧ FF S u (fl [59, 60]) ∧ (DOK u ∧ u.1 231 59 = S.1 231 59 - 1 ∧ u.1 231 60 = 0 ∧ Hd (∃ s, (0 ≤ s ∧ s ≤ S.1 231 59) ∧ ∀ x, u.2.1 266 x = if x = s then S.2.1 266 (S.1 231 59) else S.2.1 266 x) ∧ Hd (DRr u 0 (dpD d))))) args s 0 0 (sF G)) (F0 m 23 ls []) := by
          intro s2 H locs ls hs2 hz2 hn2 hW hL hl
          refine lv_iinc (v := iv (j + 1)) (lv' := [(2, .int (iv (j + 1))), (1, .int (iv s2)), (0, .ref (G.2.2.1 + 231))]) hx hb dX12_dropPlace_23 hl (k := 0) rfl ((Int32.ofInt_add _ _).symm) (by decide) rfl (fun ls hl => ?_)
          refine lv_goto (tgt := 4) hx hb dX12_dropPlace_26 (by decide) ?_
          exact ih_4 (j + 1) s2 _ _ _ (by omega) (by omega) (by omega) hz2 hn2 hW hL (lv_sub hl [0, 1, 2] rfl)
        refine lv_aload_n hx hb dX12_dropPlace_12 rfl (lv_at hl 2 rfl) ?_
        refine g_X12_115 Cx hW (k := 231) (by decide) rfl (v := .ref (G.2.2.1 + 266)) (rd_57 hI) dX12_dropPlace_13 ?_
        refine lv_iload_n hx hb dX12_dropPlace_16 rfl (lv_at hl 0 rfl) ?_
        refine rIald Cx hW (k := 266) (by decide) rfl (by decide) (by omega) (by omega) dX12_dropPlace_17 ?_
        have q_26 : (-2147483648) ≤ S.2.1 266 j ∧ S.2.1 266 j ≤ 2147483647 := hI.ai 266 j
        refine r_i (b := S.2.1 266 j) rfl ?_
        refine r_if_ne (tgt := 23) hx hb ⟨(by omega), (by omega)⟩ dX12_dropPlace_18 (by decide) (fun c_27 => ?_) (fun c_27 => ?_)
        · exact join_23 s1 _ _ _ (by omega) hz1 (fun q t a b => by by_cases e : t = j; (rw [e]; omega); exact hn1 q t a (by omega)) hW hL (lv_sub hl [0, 1, 2] rfl)
        · refine lv_iload_n hx hb dX12_dropPlace_21 rfl (lv_at hl 0 rfl) ?_
          refine lv_istore_n (lv' := [(1, .int (iv j)), (2, .int (iv j)), (0, .ref (G.2.2.1 + 231))]) hx hb dX12_dropPlace_22 rfl hl (by decide) rfl (fun ls hl => ?_)
          exact join_23 j _ _ _ (by omega) (fun _ => by omega) (fun q => absurd q (by omega)) hW hL (lv_sub hl [1, 0, 2] rfl)
  exact loop_4 (_ + 1) 1 0 _ _ _ (Nat.lt_succ_self _) (by omega) (by omega) (fun q => absurd q (by omega)) (fun _ t a b => absurd b (by omega)) hW hL (lv_sub hl [0, 1, 2] rfl)
