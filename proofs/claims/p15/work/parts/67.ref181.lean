/-! cut -/
theorem cbp_0 : ∀ n, 0 < cbp n
  | 0 => by decide
  | n + 1 => by have := cbp_0 n; show 0 < 41 * cbp n; omega
theorem cbp_le : ∀ {m n : Nat}, m ≤ n → cbp m ≤ cbp n := by
  intro m n h
  induction h with
  | refl => exact Int.le_refl _
  | step _ ih => rename_i k _; have := cbp_0 k; show _ ≤ 41 * cbp k; omega
theorem ct_mul {D m r cb : Int} (hm : 0 ≤ m ∧ m < D) (hr : -cb ≤ r ∧ r ≤ cb) : -(D * cb) ≤ m * r ∧ m * r ≤ D * cb := by
  have a : m * r ≤ m * cb := Int.mul_le_mul_of_nonneg_left hr.2 hm.1
  have b : m * -cb ≤ m * r := Int.mul_le_mul_of_nonneg_left hr.1 hm.1
  have c : m * cb ≤ D * cb := Int.mul_le_mul_of_nonneg_right (by omega) (by omega)
  rw [Int.mul_neg] at b
  omega
theorem ct_add {a X y z : Int} (hy : -(a * X) ≤ y ∧ y ≤ a * X) (hz : -X ≤ z ∧ z ≤ X) : -((a + 1) * X) ≤ y + z ∧ y + z ≤ (a + 1) * X := by
  rw [Int.add_mul, Int.one_mul]; omega
theorem ct_lim {a X y : Int} (ha : a ≤ 40) (hX : 0 ≤ X) (hy : -(a * X) ≤ y ∧ y ≤ a * X) : -(40 * X) ≤ y ∧ y ≤ 40 * X := by
  have : a * X ≤ 40 * X := Int.mul_le_mul_of_nonneg_right ha hX
  omega
theorem ct_13 {D cb y : Int} (hD : 0 < D ∧ D < pw 6) (hc : 0 ≤ cb ∧ cb ≤ cbp 20) (hy : -(40 * (D * cb)) ≤ y ∧ y ≤ 40 * (D * cb)) : -pw 13 < y ∧ y < pw 13 := by
  have a : D * cb ≤ D * cbp 20 := Int.mul_le_mul_of_nonneg_left hc.2 (by omega)
  have b : D * cbp 20 ≤ pw 6 * cbp 20 := Int.mul_le_mul_of_nonneg_right (by omega) (by have := cbp_0 20; omega)
  have c : 40 * (pw 6 * cbp 20) < pw 13 := by decide
  omega
theorem ct_q {D cb a Q R : Int} (hD : 0 < D) (h : a = D * Q + R) (hR : 0 ≤ R ∧ R < D) (ha : -(40 * (D * cb)) ≤ a ∧ a ≤ 40 * (D * cb)) : -(40 * cb) ≤ Q ∧ Q ≤ 40 * cb := by
  have e : D * (40 * cb) = 40 * (D * cb) := by grind
  constructor
  · rcases (by omega : Q ≤ -(40 * cb) - 1 ∨ -(40 * cb) ≤ Q) with q | q
    · have k : D * Q ≤ D * (-(40 * cb) - 1) := Int.mul_le_mul_of_nonneg_left q (by omega)
      rw [Int.mul_sub, Int.mul_neg, Int.mul_one, e] at k
      omega
    · exact q
  · rcases (by omega : 40 * cb + 1 ≤ Q ∨ Q ≤ 40 * cb) with q | q
    · have k : D * (40 * cb + 1) ≤ D * Q := Int.mul_le_mul_of_nonneg_left q (by omega)
      rw [Int.mul_add, Int.mul_one, e] at k
      omega
    · exact q
theorem ct_7 {f : Int → Int} {p L cb : Int} {n : Nat} (h : NO f p L) (hc : cb = cbp n) (hn : n < 20) (hq : -(40 * cb) ≤ nv f p ∧ nv f p ≤ 40 * cb) : NO f p 7 ∧ nu f p ≤ cbp (n + 1) := by
  have a : cbp (n + 1) ≤ cbp 20 := cbp_le (by omega)
  have b : cbp 20 < pw 7 := by decide
  have c : cbp (n + 1) = 41 * cbp n := rfl
  have d := cbp_0 n
  refine ⟨NO.of (n := 7) h (by omega), ?_⟩
  have e := nv_abs h
  omega
/-- the multipliers of a cut -/
def MC (D : Int) (S : sS) : Prop := ∀ k, 0 ≤ k → k ≤ 40 → NO (S.2.1 278) (8 * k) 6 ∧ 0 ≤ nv (S.2.1 278) (8 * k) ∧ nv (S.2.1 278) (8 * k) < D
/-- the row of a cut, up to the column v -/
def CN (S : sS) (f : Int → Int) (v : Int) : Prop := ∀ j, 0 ≤ j → j < v → nu f (8 * (13 * (S.1 231 63 + 1) + j)) ≤ cbp ((S.1 231 69).toNat + 1)
theorem CB.cut {S u : sS} (h : CB S) (hc : S.1 231 48 = S.1 231 46 ∧ S.1 231 69 < S.1 231 68) (h46 : S.1 231 46 ≤ 12) (hRW : RW S) (h63 : S.1 231 63 ≤ 39) (h69 : 0 ≤ S.1 231 69) (e46 : u.1 231 46 = S.1 231 46) (e63 : u.1 231 63 = S.1 231 63 + 1) (e69 : u.1 231 69 = S.1 231 69 + 1) (ho : ∀ x, x < 104 * (S.1 231 63 + 1) ∨ 104 * (S.1 231 63 + 1) + 104 ≤ x → u.2.1 261 x = S.2.1 261 x) (hN : CN S (u.2.1 261) (S.1 231 46 + 1)) : CB u := fun _ k j k0 k1 j0 j1 => by
  have eq : (u.1 231 69).toNat = (S.1 231 69).toNat + 1 := by omega
  rw [eq]
  by_cases q : k = S.1 231 63 + 1
  · rw [q]; exact hN j j0 (by omega)
  · have a := h hc k j k0 (by omega) j0 (by omega)
    have n := hRW k j k0 (by omega) j0 (by omega)
    have c := (n.cg (g := u.2.1 261) (q := 8 * (13 * k + j)) (ho _ (by omega)) (fun i i0 i1 => ho _ (by have := n.1; omega))).2.2.1
    rw [c]
    exact Int.le_trans a (cbp_le (by omega))
set_option maxRecDepth 100000 in
set_option maxHeartbeats 4000000 in
theorem s_X12_cut (l : Launch) (G : sG) (S : sS) {rr : Int} (hI : dX G S) (hG : GC S) (h60 : S.1 231 60 = 0) (hst : S.1 231 61 = 1) (hc : S.1 231 48 = S.1 231 46 ∧ S.1 231 69 < S.1 231 68) (hr0 : 1 ≤ rr ∧ rr ≤ S.1 231 58) : Met l yX12_cut (.code yX12_cut cX12_cut 5 none :: tb) (rmk 7 0 0) (sPc G 294 S [.ref (G.2.2.1 + 231), .int (iv rr)]) (sQv G 294 (fun u => dX G u ∧ Fr S u (pl [231, 233, 234, 235, 236, 237, 238, 239, 240, 241, 242, 261, 262, 263, 264, 265, 266, 267, 268, 269, 270, 271, 272, 273, 274, 275, 276, 277, 278, 279, 280, 281]) ∧ FF S u (fl [6, 58, 59, 61, 62, 63, 65, 66, 67, 69, 78, 79, 84, 86]) ∧ (LD S u))) 0 0 (sF G) := by
  refine sEnter (by decide) (Nat.le_of_ble_eq_true rfl) ?_
  intro p e s m args below meth c Cx hr hlk hnm hW ls hl
  have Cx : sC G p m c cX12_cut 5 s args RX12 := Cx
  obtain ⟨hx, hb, hml, hown, hts⟩ := id Cx.1
  have hL : sL G [] := sL_nil
  have hl : lv_has ls 5 [(0, .ref (G.2.2.1 + 231)), (1, .int (iv rr))] := hl
  have hW0 := hW
  have hm1 := hG.1.1.1
  unfold MD at hm1
  have hx1 := hG.2.1
  unfold GX at hx1
  have hd1 := hG.1.2.1.1
  have hps1 := hG.1.2.2.2.2
  unfold dPS at hps1
  refine lv_aload_n hx hb dX12_cut_0 rfl (lv_at hl 0 rfl) ?_
  refine sBv (sV (As := []) (rest := []) (k := 231) Cx (s_X12_clearMultipliers l G S  hI) (c_X12_600 Cx rfl rfl (rmk_ok (by omega) (by decide))) hW (by decide) rfl rfl rfl hl.1 rfl (Nat.le_of_ble_eq_true rfl) dX12_cut_1 ⟨Nat.le_of_ble_eq_true rfl, Nat.le_of_ble_eq_true rfl⟩) hL (fun u_1 H locs k_2 hW hL => ?_)
  obtain ⟨iu_1, fu_1, gu_1, xu_1⟩ := k_2
  have F_3 := (Fr.rf : Fr S S (pl [231, 233, 234, 235, 236, 237, 238, 239, 240, 241, 242, 261, 262, 263, 264, 265, 266, 267, 268, 269, 270, 271, 272, 273, 274, 275, 276, 277, 278, 279, 280, 281])).trans (fu_1.to (pl_sub (by decide)))
  have g_4 : FF S u_1 (fl [6, 58, 59, 61, 62, 63, 65, 66, 67, 69, 78, 79, 84, 86]) := FF.trans FF.rf (FF.to gu_1 (fl_sub (by decide)))
  refine lv_iconst (v := iv 0) hx hb dX12_cut_4 (by decide) ?_
  refine lv_istore_n (lv' := [(2, .int (iv 0)), (0, .ref (G.2.2.1 + 231)), (1, .int (iv rr))]) hx hb dX12_cut_5 rfl hl (by decide) rfl (fun ls hl => ?_)
  have loop_6 : ∀ (fuel : Nat) (S6 : sS) (j : Int) (H : Heap) (locs : List Loc) (ls : Array Slot), (S.1 231 59 + 1 - j).toNat < fuel → (dX G S6) → (Fr S S6 (pl [231, 233, 234, 235, 236, 237, 238, 239, 240, 241, 242, 261, 262, 263, 264, 265, 266, 267, 268, 269, 270, 271, 272, 273, 274, 275, 276, 277, 278, 279, 280, 281])) → (Fr u_1 S6 (pl [233, 234, 235, 237, 263, 278])) → (FF S S6 (fl [6, 58, 59, 61, 62, 63, 65, 66, 67, 69, 78, 79, 84, 86])) → (FF u_1 S6 (fl [])) → (0 ≤ j ∧ j ≤ S.1 231 59 + 1) → (MC (nv (S.2.1 264) 0) S6) → (∀ b, 0 ≤ b → b < j → NO (S6.2.1 263) (8 * b) 6) → sW G 294 S6 H → sL G locs → lv_has ls 5 [(2, .int (iv j)), (0, .ref (G.2.2.1 + 231)), (1, .int (iv rr))] → W p l e (rmk 7 0 0) s m args below meth c H locs 0 0 (MQ below (sQv G 294 (fun u => dX G u ∧ Fr S u (pl [231, 233, 234, 235, 236, 237, 238, 239, 240, 241, 242, 261, 262, 263, 264, 265, 266, 267, 268, 269, 270, 271, 272, 273, 274, 275, 276, 277, 278, 279, 280, 281]) ∧ FF S u (fl [6, 58, 59, 61, 62, 63, 65, 66, 67, 69, 78, 79, 84, 86]) ∧ (LD S u))) args s 0 0 (sF G)) (F0 m 6 ls []) := by
    intro fuel
    induction fuel with
    | zero => intro S6 j H locs ls hmeas hI6 hFm6 hL6_ hGm6 gL6_ hj hM6 hF6 hW hL hl; exact absurd hmeas (Nat.not_lt_zero _)
    | succ fuel ih_6 =>
      intro S6 j H locs ls hmeas hI6 hFm6 hL6_ hGm6 gL6_ hj hM6 hF6 hW hL hl
      refine lv_iload_n hx hb dX12_cut_6 rfl (lv_at hl 0 rfl) ?_
      refine lv_aload_n hx hb dX12_cut_7 rfl (lv_at hl 1 rfl) ?_
      have q_5 : (-2147483648) ≤ S.1 231 59 ∧ S.1 231 59 ≤ 2147483647 := hI.fi 59
      refine g_X12_526 Cx hW (k := 231) (by decide) rfl (v := S.1 231 59) ((gL6_ 59 rfl).trans (gu_1 59 rfl)) dX12_cut_8 ?_
      refine r_icmp_gt (tgt := 104) hx hb ⟨(by omega), (by omega)⟩ ⟨(by omega), (by omega)⟩ dX12_cut_11 (by decide) (fun c_6 => ?_) (fun c_6 => ?_)
      · refine lv_aload_n hx hb dX12_cut_104 rfl (lv_at hl 1 rfl) ?_
        refine zLdcw Cx 32 (by decide) ⟨rfl, rfl⟩ dX12_cut_105 ?_
        have q_7 : (-2147483648) ≤ S.1 231 84 ∧ S.1 231 84 ≤ 2147483647 := hI.fi 84
        have lk_8 : S6.1 231 84 = S.1 231 84 := (gL6_ 84 rfl).trans (gu_1 84 rfl)
        have q_9 : (-2147483648) ≤ S.1 231 61 ∧ S.1 231 61 ≤ 2147483647 := hI.fi 61
        have lk_10 : S6.1 231 61 = S.1 231 61 := (gL6_ 61 rfl).trans (gu_1 61 rfl)
        refine sBv (sV (As := [.ref (G.1.2 100 32)]) (rest := []) (k := 231) Cx (s_X12_writePairs l G S6 (si := 32) hI6 (by decide) (by decide) (DOK.sm (S := S) (u := S6) hG.1.2.1 ((gL6_ 58 rfl).trans (gu_1 58 rfl)) ((gL6_ 59 rfl).trans (gu_1 59 rfl)) ((gL6_ 60 rfl).trans (gu_1 60 rfl)) (funext fun j => ((hL6_ 262 rfl).2.1 j).trans ((fu_1 262 rfl).2.1 j)) (funext fun j => ((hL6_ 264 rfl).2.1 j).trans ((fu_1 264 rfl).2.1 j))) (by unfold MD; have y46 := (show S6.1 231 46 = S.1 231 46 from (gL6_ 46 rfl).trans (gu_1 46 rfl)); have y47 := (show S6.1 231 47 = S.1 231 47 from (gL6_ 47 rfl).trans (gu_1 47 rfl)); have y63 := (show S6.1 231 63 = S.1 231 63 from (gL6_ 63 rfl).trans (gu_1 63 rfl)); omega) (fun k a b => (hM6 k a b).1) (by omega)) (c_X12_620 Cx rfl rfl (rmk_ok (by omega) (by decide))) hW (by decide) rfl rfl rfl hl.1 rfl (Nat.le_of_ble_eq_true rfl) dX12_cut_108 ⟨Nat.le_of_ble_eq_true rfl, Nat.le_of_ble_eq_true rfl⟩) hL (fun u_11 H locs k_12 hW hL => ?_)
        obtain ⟨iu_11, fu_11, gu_11, xu_11⟩ := k_12
        have F_13 := hFm6.trans (fu_11.to (pl_sub (by decide)))
        have g_14 : FF S u_11 (fl [6, 58, 59, 61, 62, 63, 65, 66, 67, 69, 78, 79, 84, 86]) := FF.trans hGm6 (FF.to gu_11 (fl_sub (by decide)))
        refine lv_aload_n hx hb dX12_cut_111 rfl (lv_at hl 1 rfl) ?_
        have q_16 : (-2147483648) ≤ u_11.1 231 61 ∧ u_11.1 231 61 ≤ 2147483647 := iu_11.fi 61
        refine g_X12_477 Cx hW (k := 231) (by decide) rfl (v := u_11.1 231 61) rfl dX12_cut_112 ?_
        refine lv_iconst (v := iv 1) hx hb dX12_cut_115 (by decide) ?_
        refine r_icmp_eq (tgt := 120) hx hb ⟨(by omega), (by omega)⟩ ⟨(by omega), (by omega)⟩ dX12_cut_116 (by decide) (fun c_17 => ?_) (fun c_17 => ?_)
        · refine lv_aload_n hx hb dX12_cut_120 rfl (lv_at hl 1 rfl) ?_
          refine lv_dup hx hb dX12_cut_121 rfl ?_
          have q_18 : (-2147483648) ≤ S.1 231 67 ∧ S.1 231 67 ≤ 2147483647 := hI.fi 67
          refine g_X12_505 Cx hW (k := 231) (by decide) rfl (v := S.1 231 67) ((gu_11 67 rfl).trans ((gL6_ 67 rfl).trans (gu_1 67 rfl))) dX12_cut_122 ?_
          refine lv_iconst (v := iv 1) hx hb dX12_cut_125 (by decide) ?_
          refine r_iadd hx hb dX12_cut_126 ?_
          obtain ⟨z_19, ez_19, hz_19, kz_19⟩ := iv_of (iv ((S.1 231 67) + 1))
          rw [ez_19]
          refine p_X12_505 Cx hW hL (k := 231) (by decide) rfl dX12_cut_127 (fun H locs hW hL => ?_)
          have F_20 : Fr S (uF u_11 231 67 z_19) (pl [231, 233, 234, 235, 236, 237, 238, 239, 240, 241, 242, 261, 262, 263, 264, 265, 266, 267, 268, 269, 270, 271, 272, 273, 274, 275, 276, 277, 278, 279, 280, 281]) := F_13.F rfl
          have g_21 : FF S (uF u_11 231 67 z_19) (fl [6, 58, 59, 61, 62, 63, 65, 66, 67, 69, 78, 79, 84, 86]) := FF.F g_14 rfl
          have i_22 : dX G (uF u_11 231 67 z_19) := iu_11.F (i := 67) (show (-2147483648) ≤ z_19 ∧ z_19 ≤ 2147483647 from ⟨by omega, by omega⟩)
          refine lv_aload_n hx hb dX12_cut_130 rfl (lv_at hl 1 rfl) ?_
          refine lv_dup hx hb dX12_cut_131 rfl ?_
          have q_23 : (-2147483648) ≤ S.1 231 69 ∧ S.1 231 69 ≤ 2147483647 := hI.fi 69
          refine g_X12_508 Cx hW (k := 231) (by decide) rfl (v := S.1 231 69) ((uF_ne (fun h => absurd h.2 (by decide))).trans ((gu_11 69 rfl).trans ((gL6_ 69 rfl).trans (gu_1 69 rfl)))) dX12_cut_132 ?_
          refine lv_iconst (v := iv 1) hx hb dX12_cut_135 (by decide) ?_
          refine r_iadd hx hb dX12_cut_136 ?_
          refine p_X12_508 Cx hW hL (k := 231) (by decide) rfl dX12_cut_137 (fun H locs hW hL => ?_)
          have F_24 : Fr S (uF (uF u_11 231 67 z_19) 231 69 ((S.1 231 69) + 1)) (pl [231, 233, 234, 235, 236, 237, 238, 239, 240, 241, 242, 261, 262, 263, 264, 265, 266, 267, 268, 269, 270, 271, 272, 273, 274, 275, 276, 277, 278, 279, 280, 281]) := F_20.F rfl
          have g_25 : FF S (uF (uF u_11 231 67 z_19) 231 69 ((S.1 231 69) + 1)) (fl [6, 58, 59, 61, 62, 63, 65, 66, 67, 69, 78, 79, 84, 86]) := FF.F g_21 rfl
          have i_26 : dX G (uF (uF u_11 231 67 z_19) 231 69 ((S.1 231 69) + 1)) := i_22.F (i := 69) (show (-2147483648) ≤ (S.1 231 69) + 1 ∧ (S.1 231 69) + 1 ≤ 2147483647 from ⟨by omega, by omega⟩)
          refine lv_aload_n hx hb dX12_cut_140 rfl (lv_at hl 1 rfl) ?_
          have q_27 : (-2147483648) ≤ S.1 231 63 ∧ S.1 231 63 ≤ 2147483647 := hI.fi 63
          refine g_X12_480 Cx hW (k := 231) (by decide) rfl (v := S.1 231 63) ((uF_ne (fun h => absurd h.2 (by decide))).trans ((uF_ne (fun h => absurd h.2 (by decide))).trans ((gu_11 63 rfl).trans ((gL6_ 63 rfl).trans (gu_1 63 rfl))))) dX12_cut_141 ?_
          refine lv_istore_n (lv' := [(2, .int (iv (S.1 231 63))), (0, .ref (G.2.2.1 + 231)), (1, .int (iv rr))]) hx hb dX12_cut_144 rfl hl (by decide) rfl (fun ls hl => ?_)
          have hBT : BO (uF (uF u_11 231 67 z_19) 231 69 ((S.1 231 69) + 1)) := (BO.sm (S := S) (u := (uF (uF u_11 231 67 z_19) 231 69 ((S.1 231 69) + 1))) hG.1.2.2.1 ((uF_ne (fun h => absurd h.2 (by decide))).trans ((uF_ne (fun h => absurd h.2 (by decide))).trans ((gu_11 46 rfl).trans ((gL6_ 46 rfl).trans (gu_1 46 rfl))))) ((uF_ne (fun h => absurd h.2 (by decide))).trans ((uF_ne (fun h => absurd h.2 (by decide))).trans ((gu_11 58 rfl).trans ((gL6_ 58 rfl).trans (gu_1 58 rfl))))) ((uF_ne (fun h => absurd h.2 (by decide))).trans ((uF_ne (fun h => absurd h.2 (by decide))).trans ((gu_11 59 rfl).trans ((gL6_ 59 rfl).trans (gu_1 59 rfl))))) ((uF_ne (fun h => absurd h.2 (by decide))).trans ((uF_ne (fun h => absurd h.2 (by decide))).trans ((gu_11 63 rfl).trans ((gL6_ 63 rfl).trans (gu_1 63 rfl))))) (funext fun j => (uF_a).trans ((uF_a).trans (((fu_11 265 rfl).2.1 j).trans (((hL6_ 265 rfl).2.1 j).trans ((fu_1 265 rfl).2.1 j))))) (funext fun j => (uF_a).trans ((uF_a).trans (((fu_11 266 rfl).2.1 j).trans (((hL6_ 266 rfl).2.1 j).trans ((fu_1 266 rfl).2.1 j))))))
          refine lv_aload_n hx hb dX12_cut_145 rfl (lv_at hl 1 rfl) ?_
          have q_28 : (-2147483648) ≤ S.1 231 58 ∧ S.1 231 58 ≤ 2147483647 := hI.fi 58
          have lk_29 : (uF (uF u_11 231 67 z_19) 231 69 ((S.1 231 69) + 1)).1 231 58 = S.1 231 58 := (uF_ne (fun h => absurd h.2 (by decide))).trans ((uF_ne (fun h => absurd h.2 (by decide))).trans ((gu_11 58 rfl).trans ((gL6_ 58 rfl).trans (gu_1 58 rfl))))
          have lk_30 : (uF (uF u_11 231 67 z_19) 231 69 ((S.1 231 69) + 1)).1 231 63 = S.1 231 63 := (uF_ne (fun h => absurd h.2 (by decide))).trans ((uF_ne (fun h => absurd h.2 (by decide))).trans ((gu_11 63 rfl).trans ((gL6_ 63 rfl).trans (gu_1 63 rfl))))
          have q_31 : (-2147483648) ≤ S.1 231 65 ∧ S.1 231 65 ≤ 2147483647 := hI.fi 65
          have lk_32 : (uF (uF u_11 231 67 z_19) 231 69 ((S.1 231 69) + 1)).1 231 65 = S.1 231 65 := (uF_ne (fun h => absurd h.2 (by decide))).trans ((uF_ne (fun h => absurd h.2 (by decide))).trans ((gu_11 65 rfl).trans ((gL6_ 65 rfl).trans (gu_1 65 rfl))))
          have q_33 : (-2147483648) ≤ S.1 231 62 ∧ S.1 231 62 ≤ 2147483647 := hI.fi 62
          have lk_34 : (uF (uF u_11 231 67 z_19) 231 69 ((S.1 231 69) + 1)).1 231 62 = S.1 231 62 := (uF_ne (fun h => absurd h.2 (by decide))).trans ((uF_ne (fun h => absurd h.2 (by decide))).trans ((gu_11 62 rfl).trans ((gL6_ 62 rfl).trans (gu_1 62 rfl))))
          have lk_35 : (uF (uF u_11 231 67 z_19) 231 69 ((S.1 231 69) + 1)).1 231 61 = u_11.1 231 61 := (uF_ne (fun h => absurd h.2 (by decide))).trans (uF_ne (fun h => absurd h.2 (by decide)))
          have q_36 : (-2147483648) ≤ S.1 231 46 ∧ S.1 231 46 ≤ 2147483647 := hI.fi 46
          have lk_37 : (uF (uF u_11 231 67 z_19) 231 69 ((S.1 231 69) + 1)).1 231 46 = S.1 231 46 := (uF_ne (fun h => absurd h.2 (by decide))).trans ((uF_ne (fun h => absurd h.2 (by decide))).trans ((gu_11 46 rfl).trans ((gL6_ 46 rfl).trans (gu_1 46 rfl))))
          refine sBi (sV (As := []) (rest := []) (k := 231) Cx (s_X12_mayBegin l G (uF (uF u_11 231 67 z_19) 231 69 ((S.1 231 69) + 1))  i_26 (by unfold MD; have y46 := (show (uF (uF u_11 231 67 z_19) 231 69 ((S.1 231 69) + 1)).1 231 46 = S.1 231 46 from (uF_ne (fun h => absurd h.2 (by decide))).trans ((uF_ne (fun h => absurd h.2 (by decide))).trans ((gu_11 46 rfl).trans ((gL6_ 46 rfl).trans (gu_1 46 rfl))))); have y47 := (show (uF (uF u_11 231 67 z_19) 231 69 ((S.1 231 69) + 1)).1 231 47 = S.1 231 47 from (uF_ne (fun h => absurd h.2 (by decide))).trans ((uF_ne (fun h => absurd h.2 (by decide))).trans ((gu_11 47 rfl).trans ((gL6_ 47 rfl).trans (gu_1 47 rfl))))); have y63 := (show (uF (uF u_11 231 67 z_19) 231 69 ((S.1 231 69) + 1)).1 231 63 = S.1 231 63 from (uF_ne (fun h => absurd h.2 (by decide))).trans ((uF_ne (fun h => absurd h.2 (by decide))).trans ((gu_11 63 rfl).trans ((gL6_ 63 rfl).trans (gu_1 63 rfl))))); omega) (by omega)) (c_X12_647 Cx rfl rfl (rmk_ok (by omega) (by decide))) hW (by decide) rfl rfl rfl hl.1 rfl (Nat.le_of_ble_eq_true rfl) dX12_cut_146 ⟨Nat.le_of_ble_eq_true rfl, Nat.le_of_ble_eq_true rfl⟩) hL (fun r_40 u_38 H locs k_39 hW hL => ?_)
          obtain ⟨iu_38, fu_38, gu_38, xu_38⟩ := k_39
          have F_41 := F_24.trans (fu_38.to (pl_sub (by decide)))
          have g_42 : FF S u_38 (fl [6, 58, 59, 61, 62, 63, 65, 66, 67, 69, 78, 79, 84, 86]) := FF.trans g_25 (FF.to gu_38 (fl_sub (by decide)))
          refine r_if_ne (tgt := 153) hx hb ⟨(by omega), (by omega)⟩ dX12_cut_149 (by decide) (fun c_43 => ?_) (fun c_43 => ?_)
          · refine lv_iconst (v := iv 0) hx hb dX12_cut_153 (by decide) ?_
            refine lv_istore_n (lv' := [(3, .int (iv 0)), (2, .int (iv (S.1 231 63))), (0, .ref (G.2.2.1 + 231)), (1, .int (iv rr))]) hx hb dX12_cut_154 rfl hl (by decide) rfl (fun ls hl => ?_)
            have loop_155 : ∀ (fuel : Nat) (S155 : sS) (j : Int) (H : Heap) (locs : List Loc) (ls : Array Slot), (S.1 231 59 + 1 - j).toNat < fuel → (dX G S155) → (Fr S S155 (pl [231, 233, 234, 235, 236, 237, 238, 239, 240, 241, 242, 261, 262, 263, 264, 265, 266, 267, 268, 269, 270, 271, 272, 273, 274, 275, 276, 277, 278, 279, 280, 281])) → (Fr u_38 S155 (pl [262])) → (FF S S155 (fl [6, 58, 59, 61, 62, 63, 65, 66, 67, 69, 78, 79, 84, 86])) → (FF u_38 S155 (fl [])) → (0 ≤ j ∧ j ≤ S.1 231 59 + 1) → (DKp (S155.2.1 262) (S.1 231 58) (S.1 231 59) (S.1 231 60) j) → sW G 294 S155 H → sL G locs → lv_has ls 5 [(3, .int (iv j)), (2, .int (iv (S.1 231 63))), (0, .ref (G.2.2.1 + 231)), (1, .int (iv rr))] → W p l e (rmk 7 0 0) s m args below meth c H locs 0 0 (MQ below (sQv G 294 (fun u => dX G u ∧ Fr S u (pl [231, 233, 234, 235, 236, 237, 238, 239, 240, 241, 242, 261, 262, 263, 264, 265, 266, 267, 268, 269, 270, 271, 272, 273, 274, 275, 276, 277, 278, 279, 280, 281]) ∧ FF S u (fl [6, 58, 59, 61, 62, 63, 65, 66, 67, 69, 78, 79, 84, 86]) ∧ (LD S u))) args s 0 0 (sF G)) (F0 m 155 ls []) := by
              intro fuel
              induction fuel with
              | zero => intro S155 j H locs ls hmeas hI155 hFm155 hL155_ hGm155 gL155_ hj hP hW hL hl; exact absurd hmeas (Nat.not_lt_zero _)
              | succ fuel ih_155 =>
                intro S155 j H locs ls hmeas hI155 hFm155 hL155_ hGm155 gL155_ hj hP hW hL hl
                refine lv_iload_n hx hb dX12_cut_155 rfl (lv_at hl 0 rfl) ?_
                refine lv_aload_n hx hb dX12_cut_156 rfl (lv_at hl 2 rfl) ?_
                refine g_X12_526 Cx hW (k := 231) (by decide) rfl (v := S.1 231 59) ((gL155_ 59 rfl).trans ((gu_38 59 rfl).trans ((uF_ne (fun h => absurd h.2 (by decide))).trans ((uF_ne (fun h => absurd h.2 (by decide))).trans ((gu_11 59 rfl).trans ((gL6_ 59 rfl).trans (gu_1 59 rfl))))))) dX12_cut_157 ?_
                refine r_icmp_gt (tgt := 215) hx hb ⟨(by omega), (by omega)⟩ ⟨(by omega), (by omega)⟩ dX12_cut_160 (by decide) (fun c_44 => ?_) (fun c_44 => ?_)
                · have hDb : 0 < nv (S.2.1 264) 0 ∧ nv (S.2.1 264) 0 < pw 6 := ⟨hG.1.2.1.2.2.2, (NO.bd (n := 6) hG.1.2.1.2.2.1).2⟩
                  have hcb : 0 ≤ cbp (S.1 231 69).toNat ∧ cbp (S.1 231 69).toNat ≤ cbp 20 := ⟨Int.le_of_lt (cbp_0 _), cbp_le (by omega)⟩
                  have hDc : 0 ≤ nv (S.2.1 264) 0 * cbp (S.1 231 69).toNat := Int.mul_nonneg (Int.le_of_lt hDb.1) hcb.1
                  refine lv_iconst (v := iv 0) hx hb dX12_cut_215 (by decide) ?_
                  refine lv_istore_n (lv' := [(3, .int (iv 0)), (2, .int (iv (S.1 231 63))), (0, .ref (G.2.2.1 + 231)), (1, .int (iv rr))]) hx hb dX12_cut_216 rfl hl (by decide) rfl (fun ls hl => ?_)
                  have loop_217 : ∀ (fuel : Nat) (S217 : sS) (v : Int) (H : Heap) (locs : List Loc) (ls : Array Slot), (S.1 231 46 + 1 - v).toNat < fuel → (dX G S217) → (Fr S S217 (pl [231, 233, 234, 235, 236, 237, 238, 239, 240, 241, 242, 261, 262, 263, 264, 265, 266, 267, 268, 269, 270, 271, 272, 273, 274, 275, 276, 277, 278, 279, 280, 281])) → (Fr S155 S217 (pl [233, 234, 235, 237, 238, 240, 261, 279])) → (FF S S217 (fl [6, 58, 59, 61, 62, 63, 65, 66, 67, 69, 78, 79, 84, 86])) → (FF S155 S217 (fl [])) → (0 ≤ v ∧ v ≤ S.1 231 46 + 1) → (RWf (S217.2.1 261)) → (∀ x, x < 104 * (S.1 231 63 + 1) ∨ 104 * (S.1 231 63 + 1) + 104 ≤ x → S217.2.1 261 x = S.2.1 261 x) → (CN S (S217.2.1 261) v) → sW G 294 S217 H → sL G locs → lv_has ls 5 [(3, .int (iv v)), (2, .int (iv (S.1 231 63))), (0, .ref (G.2.2.1 + 231)), (1, .int (iv rr))] → W p l e (rmk 7 0 0) s m args below meth c H locs 0 0 (MQ below (sQv G 294 (fun u => dX G u ∧ Fr S u (pl [231, 233, 234, 235, 236, 237, 238, 239, 240, 241, 242, 261, 262, 263, 264, 265, 266, 267, 268, 269, 270, 271, 272, 273, 274, 275, 276, 277, 278, 279, 280, 281]) ∧ FF S u (fl [6, 58, 59, 61, 62, 63, 65, 66, 67, 69, 78, 79, 84, 86]) ∧ (LD S u))) args s 0 0 (sF G)) (F0 m 217 ls []) := by
                    intro fuel
                    induction fuel with
                    | zero => intro S217 v H locs ls hmeas hI217 hFm217 hL217_ hGm217 gL217_ hv hR217 hO217 hC217 hW hL hl; exact absurd hmeas (Nat.not_lt_zero _)
                    | succ fuel ih_217 =>
                      intro S217 v H locs ls hmeas hI217 hFm217 hL217_ hGm217 gL217_ hv hR217 hO217 hC217 hW hL hl
                      refine lv_iload_n hx hb dX12_cut_217 rfl (lv_at hl 0 rfl) ?_
                      refine lv_aload_n hx hb dX12_cut_218 rfl (lv_at hl 2 rfl) ?_
                      refine g_X12_465 Cx hW (k := 231) (by decide) rfl (v := S.1 231 46) ((gL217_ 46 rfl).trans ((gL155_ 46 rfl).trans ((gu_38 46 rfl).trans ((uF_ne (fun h => absurd h.2 (by decide))).trans ((uF_ne (fun h => absurd h.2 (by decide))).trans ((gu_11 46 rfl).trans ((gL6_ 46 rfl).trans (gu_1 46 rfl)))))))) dX12_cut_219 ?_
                      refine r_icmp_gt (tgt := 359) hx hb ⟨(by omega), (by omega)⟩ ⟨(by omega), (by omega)⟩ dX12_cut_222 (by decide) (fun c_45 => ?_) (fun c_45 => ?_)
                      · have zf46 := (show S217.1 231 46 = S.1 231 46 from (gL217_ 46 rfl).trans ((gL155_ 46 rfl).trans ((gu_38 46 rfl).trans ((uF_ne (fun h => absurd h.2 (by decide))).trans ((uF_ne (fun h => absurd h.2 (by decide))).trans ((gu_11 46 rfl).trans ((gL6_ 46 rfl).trans (gu_1 46 rfl))))))))
                        have zf47 := (show S217.1 231 47 = S.1 231 47 from (gL217_ 47 rfl).trans ((gL155_ 47 rfl).trans ((gu_38 47 rfl).trans ((uF_ne (fun h => absurd h.2 (by decide))).trans ((uF_ne (fun h => absurd h.2 (by decide))).trans ((gu_11 47 rfl).trans ((gL6_ 47 rfl).trans (gu_1 47 rfl))))))))
                        have zf48 := (show S217.1 231 48 = S.1 231 48 from (gL217_ 48 rfl).trans ((gL155_ 48 rfl).trans ((gu_38 48 rfl).trans ((uF_ne (fun h => absurd h.2 (by decide))).trans ((uF_ne (fun h => absurd h.2 (by decide))).trans ((gu_11 48 rfl).trans ((gL6_ 48 rfl).trans (gu_1 48 rfl))))))))
                        have zf58 := (show S217.1 231 58 = u_38.1 231 58 from (gL217_ 58 rfl).trans (gL155_ 58 rfl))
                        have zf59 := (show S217.1 231 59 = S.1 231 59 from (gL217_ 59 rfl).trans ((gL155_ 59 rfl).trans ((gu_38 59 rfl).trans ((uF_ne (fun h => absurd h.2 (by decide))).trans ((uF_ne (fun h => absurd h.2 (by decide))).trans ((gu_11 59 rfl).trans ((gL6_ 59 rfl).trans (gu_1 59 rfl))))))))
                        have zf60 := (show S217.1 231 60 = S.1 231 60 from (gL217_ 60 rfl).trans ((gL155_ 60 rfl).trans ((gu_38 60 rfl).trans ((uF_ne (fun h => absurd h.2 (by decide))).trans ((uF_ne (fun h => absurd h.2 (by decide))).trans ((gu_11 60 rfl).trans ((gL6_ 60 rfl).trans (gu_1 60 rfl))))))))
                        have zf61 := (show S217.1 231 61 = u_38.1 231 61 from (gL217_ 61 rfl).trans (gL155_ 61 rfl))
                        have zf62 := (show S217.1 231 62 = u_38.1 231 62 from (gL217_ 62 rfl).trans (gL155_ 62 rfl))
                        have zf63 := (show S217.1 231 63 = u_38.1 231 63 from (gL217_ 63 rfl).trans (gL155_ 63 rfl))
                        have zf65 := (show S217.1 231 65 = u_38.1 231 65 from (gL217_ 65 rfl).trans (gL155_ 65 rfl))
                        have zf68 := (show S217.1 231 68 = S.1 231 68 from (gL217_ 68 rfl).trans ((gL155_ 68 rfl).trans ((gu_38 68 rfl).trans ((uF_ne (fun h => absurd h.2 (by decide))).trans ((uF_ne (fun h => absurd h.2 (by decide))).trans ((gu_11 68 rfl).trans ((gL6_ 68 rfl).trans (gu_1 68 rfl))))))))
                        have zf69 := (show S217.1 231 69 = (S.1 231 69) + 1 from (gL217_ 69 rfl).trans ((gL155_ 69 rfl).trans ((gu_38 69 rfl).trans (uF_on))))
                        have zf78 := (show S217.1 231 78 = S.1 231 78 from (gL217_ 78 rfl).trans ((gL155_ 78 rfl).trans ((gu_38 78 rfl).trans ((uF_ne (fun h => absurd h.2 (by decide))).trans ((uF_ne (fun h => absurd h.2 (by decide))).trans ((gu_11 78 rfl).trans ((gL6_ 78 rfl).trans (gu_1 78 rfl))))))))
                        have zf79 := (show S217.1 231 79 = S.1 231 79 from (gL217_ 79 rfl).trans ((gL155_ 79 rfl).trans ((gu_38 79 rfl).trans ((uF_ne (fun h => absurd h.2 (by decide))).trans ((uF_ne (fun h => absurd h.2 (by decide))).trans ((gu_11 79 rfl).trans ((gL6_ 79 rfl).trans (gu_1 79 rfl))))))))
                        have zf84 := (show S217.1 231 84 = u_11.1 231 84 from (gL217_ 84 rfl).trans ((gL155_ 84 rfl).trans ((gu_38 84 rfl).trans ((uF_ne (fun h => absurd h.2 (by decide))).trans (uF_ne (fun h => absurd h.2 (by decide)))))))
                        have zf86 := (show S217.1 231 86 = S.1 231 86 from (gL217_ 86 rfl).trans ((gL155_ 86 rfl).trans ((gu_38 86 rfl).trans ((uF_ne (fun h => absurd h.2 (by decide))).trans ((uF_ne (fun h => absurd h.2 (by decide))).trans ((gu_11 86 rfl).trans ((gL6_ 86 rfl).trans (gu_1 86 rfl))))))))
                        exact sVret Cx hr hlk hW hL ⟨hI217, hFm217, hGm217, ⟨(by omega), (fun q => absurd (show S217.1 231 61 = 1 by omega) q), (fun _ => ⟨⟨⟨⟨(by unfold MD; have y46 := (show S217.1 231 46 = S.1 231 46 from (gL217_ 46 rfl).trans ((gL155_ 46 rfl).trans ((gu_38 46 rfl).trans ((uF_ne (fun h => absurd h.2 (by decide))).trans ((uF_ne (fun h => absurd h.2 (by decide))).trans ((gu_11 46 rfl).trans ((gL6_ 46 rfl).trans (gu_1 46 rfl)))))))); have y47 := (show S217.1 231 47 = S.1 231 47 from (gL217_ 47 rfl).trans ((gL155_ 47 rfl).trans ((gu_38 47 rfl).trans ((uF_ne (fun h => absurd h.2 (by decide))).trans ((uF_ne (fun h => absurd h.2 (by decide))).trans ((gu_11 47 rfl).trans ((gL6_ 47 rfl).trans (gu_1 47 rfl)))))))); have y63 := (show S217.1 231 63 = u_38.1 231 63 from (gL217_ 63 rfl).trans (gL155_ 63 rfl)); omega), (GM.sm (S := S) (u := S217) hG.1.1.2.1 (funext fun j => ((hL217_ 260 rfl).2.2.1 j).trans (((hL155_ 260 rfl).2.2.1 j).trans (((fu_38 260 rfl).2.2.1 j).trans ((uF_l).trans ((uF_l).trans (((fu_11 260 rfl).2.2.1 j).trans (((hL6_ 260 rfl).2.2.1 j).trans ((fu_1 260 rfl).2.2.1 j)))))))) (funext fun j => ((hL217_ 290 rfl).2.2.1 j).trans (((hL155_ 290 rfl).2.2.1 j).trans (((fu_38 290 rfl).2.2.1 j).trans ((uF_l).trans ((uF_l).trans (((fu_11 290 rfl).2.2.1 j).trans (((hL6_ 290 rfl).2.2.1 j).trans ((fu_1 290 rfl).2.2.1 j))))))))), (hG.1.1.2.2.1.out (u := S217) (nr := (S.1 231 63 + 1)) (by omega) (by omega) (by omega) (by omega) hO217), hR217⟩, (DOK.mk' (pd := S.1 231 58 + 1) (ps := S.1 231 59) (hw := S.1 231 60) (by omega) (by omega) (by omega) (by omega) (by rw [show S217.2.1 262 = S155.2.1 262 from (funext fun j => (hL217_ 262 rfl).2.1 j)]; exact hP.all (by omega)) (by rw [show S217.2.1 264 = S.2.1 264 from (funext fun j => ((hL217_ 264 rfl).2.1 j).trans (((hL155_ 264 rfl).2.1 j).trans (((fu_38 264 rfl).2.1 j).trans ((uF_a).trans ((uF_a).trans (((fu_11 264 rfl).2.1 j).trans (((hL6_ 264 rfl).2.1 j).trans ((fu_1 264 rfl).2.1 j))))))))]; exact hG.1.2.1.2.2.1) (by rw [show S217.2.1 264 = S.2.1 264 from (funext fun j => ((hL217_ 264 rfl).2.1 j).trans (((hL155_ 264 rfl).2.1 j).trans (((fu_38 264 rfl).2.1 j).trans ((uF_a).trans ((uF_a).trans (((fu_11 264 rfl).2.1 j).trans (((hL6_ 264 rfl).2.1 j).trans ((fu_1 264 rfl).2.1 j))))))))]; exact hG.1.2.1.2.2.2)), (BO.may (T := (uF (uF u_11 231 67 z_19) 231 69 ((S.1 231 69) + 1))) hBT ((gL217_ 46 rfl).trans ((gL155_ 46 rfl).trans (gu_38 46 rfl))) (by omega) ((gL217_ 59 rfl).trans ((gL155_ 59 rfl).trans (gu_38 59 rfl))) (by omega) (by omega) (fun x => by rw [show S217.2.1 265 x = u_38.2.1 265 x from ((hL217_ 265 rfl).2.1 x).trans ((hL155_ 265 rfl).2.1 x), xu_38.2.2.2 x, show r_40 = 1 by omega]) (funext fun j => ((hL217_ 266 rfl).2.1 j).trans (((hL155_ 266 rfl).2.1 j).trans ((fu_38 266 rfl).2.1 j)))), (BB.sm (S := S) (u := S217) hG.1.2.2.2.1 ((gL217_ 46 rfl).trans ((gL155_ 46 rfl).trans ((gu_38 46 rfl).trans ((uF_ne (fun h => absurd h.2 (by decide))).trans ((uF_ne (fun h => absurd h.2 (by decide))).trans ((gu_11 46 rfl).trans ((gL6_ 46 rfl).trans (gu_1 46 rfl)))))))) ((gL217_ 79 rfl).trans ((gL155_ 79 rfl).trans ((gu_38 79 rfl).trans ((uF_ne (fun h => absurd h.2 (by decide))).trans ((uF_ne (fun h => absurd h.2 (by decide))).trans ((gu_11 79 rfl).trans ((gL6_ 79 rfl).trans (gu_1 79 rfl)))))))) (funext fun j => ((hL217_ 272 rfl).2.1 j).trans (((hL155_ 272 rfl).2.1 j).trans (((fu_38 272 rfl).2.1 j).trans ((uF_a).trans ((uF_a).trans (((fu_11 272 rfl).2.1 j).trans (((hL6_ 272 rfl).2.1 j).trans ((fu_1 272 rfl).2.1 j)))))))) (funext fun j => ((hL217_ 273 rfl).2.1 j).trans (((hL155_ 273 rfl).2.1 j).trans (((fu_38 273 rfl).2.1 j).trans ((uF_a).trans ((uF_a).trans (((fu_11 273 rfl).2.1 j).trans (((hL6_ 273 rfl).2.1 j).trans ((fu_1 273 rfl).2.1 j)))))))) (funext fun j => ((hL217_ 274 rfl).2.1 j).trans (((hL155_ 274 rfl).2.1 j).trans (((fu_38 274 rfl).2.1 j).trans ((uF_a).trans ((uF_a).trans (((fu_11 274 rfl).2.1 j).trans (((hL6_ 274 rfl).2.1 j).trans ((fu_1 274 rfl).2.1 j))))))))), (dPS.sm (S := S) (u := S217) hG.1.2.2.2.2 ((gL217_ 86 rfl).trans ((gL155_ 86 rfl).trans ((gu_38 86 rfl).trans ((uF_ne (fun h => absurd h.2 (by decide))).trans ((uF_ne (fun h => absurd h.2 (by decide))).trans ((gu_11 86 rfl).trans ((gL6_ 86 rfl).trans (gu_1 86 rfl)))))))))⟩, (by unfold GX; omega), (KE.sm (S := S) (u := S217) hG.2.2.1 ((gL217_ 46 rfl).trans ((gL155_ 46 rfl).trans ((gu_38 46 rfl).trans ((uF_ne (fun h => absurd h.2 (by decide))).trans ((uF_ne (fun h => absurd h.2 (by decide))).trans ((gu_11 46 rfl).trans ((gL6_ 46 rfl).trans (gu_1 46 rfl)))))))) ((gL217_ 47 rfl).trans ((gL155_ 47 rfl).trans ((gu_38 47 rfl).trans ((uF_ne (fun h => absurd h.2 (by decide))).trans ((uF_ne (fun h => absurd h.2 (by decide))).trans ((gu_11 47 rfl).trans ((gL6_ 47 rfl).trans (gu_1 47 rfl)))))))) ((gL217_ 48 rfl).trans ((gL155_ 48 rfl).trans ((gu_38 48 rfl).trans ((uF_ne (fun h => absurd h.2 (by decide))).trans ((uF_ne (fun h => absurd h.2 (by decide))).trans ((gu_11 48 rfl).trans ((gL6_ 48 rfl).trans (gu_1 48 rfl)))))))) ((gL217_ 68 rfl).trans ((gL155_ 68 rfl).trans ((gu_38 68 rfl).trans ((uF_ne (fun h => absurd h.2 (by decide))).trans ((uF_ne (fun h => absurd h.2 (by decide))).trans ((gu_11 68 rfl).trans ((gL6_ 68 rfl).trans (gu_1 68 rfl)))))))) ((gL217_ 78 rfl).trans ((gL155_ 78 rfl).trans ((gu_38 78 rfl).trans ((uF_ne (fun h => absurd h.2 (by decide))).trans ((uF_ne (fun h => absurd h.2 (by decide))).trans ((gu_11 78 rfl).trans ((gL6_ 78 rfl).trans (gu_1 78 rfl)))))))) (funext fun j => ((hL217_ 267 rfl).2.1 j).trans (((hL155_ 267 rfl).2.1 j).trans (((fu_38 267 rfl).2.1 j).trans ((uF_a).trans ((uF_a).trans (((fu_11 267 rfl).2.1 j).trans (((hL6_ 267 rfl).2.1 j).trans ((fu_1 267 rfl).2.1 j)))))))) (funext fun j => ((hL217_ 268 rfl).2.1 j).trans (((hL155_ 268 rfl).2.1 j).trans (((fu_38 268 rfl).2.1 j).trans ((uF_a).trans ((uF_a).trans (((fu_11 268 rfl).2.1 j).trans (((hL6_ 268 rfl).2.1 j).trans ((fu_1 268 rfl).2.1 j)))))))) (funext fun j => ((hL217_ 269 rfl).2.1 j).trans (((hL155_ 269 rfl).2.1 j).trans (((fu_38 269 rfl).2.1 j).trans ((uF_a).trans ((uF_a).trans (((fu_11 269 rfl).2.1 j).trans (((hL6_ 269 rfl).2.1 j).trans ((fu_1 269 rfl).2.1 j)))))))) (funext fun j => ((hL217_ 270 rfl).2.1 j).trans (((hL155_ 270 rfl).2.1 j).trans (((fu_38 270 rfl).2.1 j).trans ((uF_a).trans ((uF_a).trans (((fu_11 270 rfl).2.1 j).trans (((hL6_ 270 rfl).2.1 j).trans ((fu_1 270 rfl).2.1 j)))))))) (funext fun j => ((hL217_ 271 rfl).2.1 j).trans (((hL155_ 271 rfl).2.1 j).trans (((fu_38 271 rfl).2.1 j).trans ((uF_a).trans ((uF_a).trans (((fu_11 271 rfl).2.1 j).trans (((hL6_ 271 rfl).2.1 j).trans ((fu_1 271 rfl).2.1 j))))))))), (hG.2.2.2.cut (u := S217) hc (by omega) hG.1.1.2.2.2 (by omega) (by omega) (by omega) (by omega) (by omega) hO217 (by have e8 := hC217; rw [show v = S.1 231 46 + 1 by omega] at e8; exact e8))⟩, (by omega), (by omega), (by omega)⟩)⟩⟩ dX12_cut_359
                      · refine lv_aload_n hx hb dX12_cut_225 rfl (lv_at hl 2 rfl) ?_
                        refine g_X12_157 Cx hW (k := 231) (by decide) rfl (v := .ref (G.2.2.1 + 279)) (rd_89 hI217) dX12_cut_226 ?_
                        refine lv_iconst (v := iv 0) hx hb dX12_cut_229 (by decide) ?_
                        refine lv_iconst (v := iv 0) hx hb dX12_cut_230 (by decide) ?_
                        refine rIast Cx hW hL (k := 279) (by decide) rfl (by decide) (by omega) (by omega) dX12_cut_231 (fun H locs hW hL => ?_)
                        have F_46 : Fr S (uA S217 279 0 0) (pl [231, 233, 234, 235, 236, 237, 238, 239, 240, 241, 242, 261, 262, 263, 264, 265, 266, 267, 268, 269, 270, 271, 272, 273, 274, 275, 276, 277, 278, 279, 280, 281]) := hFm217.A rfl
                        have F_47 : Fr S155 (uA S217 279 0 0) (pl [233, 234, 235, 237, 238, 240, 261, 279]) := hL217_.A rfl
                        have i_48 : dX G (uA S217 279 0 0) := hI217.A (k := 279) (show (-2147483648) ≤ 0 ∧ 0 ≤ 2147483647 from ⟨by omega, by omega⟩)
                        refine lv_iconst (v := iv 1) hx hb dX12_cut_232 (by decide) ?_
                        refine lv_istore (lv' := [(4, .int (iv 1)), (3, .int (iv v)), (2, .int (iv (S.1 231 63))), (0, .ref (G.2.2.1 + 231)), (1, .int (iv rr))]) hx hb dX12_cut_233 hl (by decide) rfl (fun ls hl => ?_)
                        have loop_235 : ∀ (fuel : Nat) (S235 : sS) (k : Int) (H : Heap) (locs : List Loc) (ls : Array Slot), (S.1 231 63 + 1 - k).toNat < fuel → (dX G S235) → (Fr S S235 (pl [231, 233, 234, 235, 236, 237, 238, 239, 240, 241, 242, 261, 262, 263, 264, 265, 266, 267, 268, 269, 270, 271, 272, 273, 274, 275, 276, 277, 278, 279, 280, 281])) → (Fr S155 S235 (pl [233, 234, 235, 237, 238, 240, 261, 279])) → (Fr ((uA S217 279 0 0)) S235 (pl [238, 279])) → (FF S S235 (fl [6, 58, 59, 61, 62, 63, 65, 66, 67, 69, 78, 79, 84, 86])) → (FF S155 S235 (fl [])) → (FF ((uA S217 279 0 0)) S235 (fl [])) → (1 ≤ k ∧ k ≤ S.1 231 63 + 1) → (NO (S235.2.1 279) 0 13 ∧ -((k - 1) * (nv (S.2.1 264) 0 * cbp (S.1 231 69).toNat)) ≤ nv (S235.2.1 279) 0 ∧ nv (S235.2.1 279) 0 ≤ (k - 1) * (nv (S.2.1 264) 0 * cbp (S.1 231 69).toNat)) → sW G 294 S235 H → sL G locs → lv_has ls 5 [(4, .int (iv k)), (3, .int (iv v)), (2, .int (iv (S.1 231 63))), (0, .ref (G.2.2.1 + 231)), (1, .int (iv rr))] → W p l e (rmk 7 0 0) s m args below meth c H locs 0 0 (MQ below (sQv G 294 (fun u => dX G u ∧ Fr S u (pl [231, 233, 234, 235, 236, 237, 238, 239, 240, 241, 242, 261, 262, 263, 264, 265, 266, 267, 268, 269, 270, 271, 272, 273, 274, 275, 276, 277, 278, 279, 280, 281]) ∧ FF S u (fl [6, 58, 59, 61, 62, 63, 65, 66, 67, 69, 78, 79, 84, 86]) ∧ (LD S u))) args s 0 0 (sF G)) (F0 m 235 ls []) := by
                          intro fuel
                          induction fuel with
                          | zero => intro S235 k H locs ls hmeas hI235 hFm235 hFL217235 hL235_ hGm235 hGL217235 gL235_ hk hW235 hW hL hl; exact absurd hmeas (Nat.not_lt_zero _)
                          | succ fuel ih_235 =>
                            intro S235 k H locs ls hmeas hI235 hFm235 hFL217235 hL235_ hGm235 hGL217235 gL235_ hk hW235 hW hL hl
                            refine lv_iload hx hb dX12_cut_235 (lv_at hl 0 rfl) ?_
                            refine lv_iload_n hx hb dX12_cut_237 rfl (lv_at hl 2 rfl) ?_
                            refine r_icmp_gt (tgt := 309) hx hb ⟨(by omega), (by omega)⟩ ⟨(by omega), (by omega)⟩ dX12_cut_238 (by decide) (fun c_49 => ?_) (fun c_49 => ?_)
                            · refine lv_aload_n hx hb dX12_cut_309 rfl (lv_at hl 3 rfl) ?_
                              refine lv_aload_n hx hb dX12_cut_310 rfl (lv_at hl 3 rfl) ?_
                              refine g_X12_157 Cx hW (k := 231) (by decide) rfl (v := .ref (G.2.2.1 + 279)) (rd_89 hI235) dX12_cut_311 ?_
                              refine lv_iconst (v := iv 0) hx hb dX12_cut_314 (by decide) ?_
                              refine lv_aload_n hx hb dX12_cut_315 rfl (lv_at hl 3 rfl) ?_
                              refine g_X12_109 Cx hW (k := 231) (by decide) rfl (v := .ref (G.2.2.1 + 264)) (rd_55 hI235) dX12_cut_316 ?_
                              refine lv_iconst (v := iv 0) hx hb dX12_cut_319 (by decide) ?_
                              refine lv_aload_n hx hb dX12_cut_320 rfl (lv_at hl 3 rfl) ?_
                              refine g_X12_26 Cx hW (k := 231) (by decide) rfl (v := .ref (G.2.2.1 + 237)) (rd_7 hI235) dX12_cut_321 ?_
                              refine lv_iconst (v := iv 0) hx hb dX12_cut_324 (by decide) ?_
                              refine lv_aload_n hx hb dX12_cut_325 rfl (lv_at hl 3 rfl) ?_
                              refine g_X12_35 Cx hW (k := 231) (by decide) rfl (v := .ref (G.2.2.1 + 240)) (rd_10 hI235) dX12_cut_326 ?_
                              refine lv_iconst (v := iv 0) hx hb dX12_cut_329 (by decide) ?_
                              have hbp330 : 0 < S235.2.1 264 0 := by rw [show S235.2.1 264 = S.2.1 264 from (funext fun j => ((hL235_ 264 rfl).2.1 j).trans ((uA_ne (fun h => absurd h.1 (by decide))).trans (((hL217_ 264 rfl).2.1 j).trans (((hL155_ 264 rfl).2.1 j).trans (((fu_38 264 rfl).2.1 j).trans ((uF_a).trans ((uF_a).trans (((fu_11 264 rfl).2.1 j).trans (((hL6_ 264 rfl).2.1 j).trans ((fu_1 264 rfl).2.1 j))))))))))]; exact hG.1.2.1.2.2.1.sgn.2.1.mp hG.1.2.1.2.2.2
                              refine sBv (sV (As := [.ref (G.2.2.1 + 279), .int (iv 0), .ref (G.2.2.1 + 264), .int (iv 0), .ref (G.2.2.1 + 237), .int (iv 0), .ref (G.2.2.1 + 240), .int (iv 0)]) (rest := []) (k := 231) Cx (s_X12_divide l G S235 (ka := 279) (po := 0) (kb := 264) (qo := 0) (kc := 237) (ro := 0) (kd := 240) (eo := 0) (Nka := 68) (Nkb := 8) (Nkc := 68) (Nkd := 68) (La := 13) (Lb := 6) (Ld := 7) hI235 ⟨rfl, by decide, by decide, by decide, rfl⟩ ⟨rfl, by decide, by decide, by decide, rfl⟩ ⟨rfl, by decide, by decide, by decide, rfl⟩ ⟨rfl, by decide, by decide, by decide, rfl⟩ (show (237 : Nat) ≠ 279 by decide) (show (240 : Nat) ≠ 279 by decide) (show (237 : Nat) ≠ 264 by decide) (show (240 : Nat) ≠ 264 by decide) (show (237 : Nat) ≠ 240 by decide) (show (279 : Nat) ≠ 233 by decide) (show (264 : Nat) ≠ 233 by decide) (show (264 : Nat) ≠ 234 by decide) (show (264 : Nat) ≠ 235 by decide) (show (237 : Nat) ≠ 233 by decide) (show (237 : Nat) ≠ 234 by decide) (show (237 : Nat) ≠ 235 by decide) (show (240 : Nat) ≠ 233 by decide) (show (240 : Nat) ≠ 234 by decide) (show (240 : Nat) ≠ 235 by decide) (by omega) (by omega) hW235.1 (by rw [show S235.2.1 264 = S.2.1 264 from (funext fun j => ((hL235_ 264 rfl).2.1 j).trans ((uA_ne (fun h => absurd h.1 (by decide))).trans (((hL217_ 264 rfl).2.1 j).trans (((hL155_ 264 rfl).2.1 j).trans (((fu_38 264 rfl).2.1 j).trans ((uF_a).trans ((uF_a).trans (((fu_11 264 rfl).2.1 j).trans (((hL6_ 264 rfl).2.1 j).trans ((fu_1 264 rfl).2.1 j))))))))))]; exact hG.1.2.1.2.2.1)) (c_X12_266 Cx rfl rfl (rmk_ok (by omega) (by decide))) hW (by decide) rfl rfl rfl hl.1 rfl (Nat.le_of_ble_eq_true rfl) dX12_cut_330 ⟨Nat.le_of_ble_eq_true rfl, Nat.le_of_ble_eq_true rfl⟩) hL (fun u_50 H locs k_51 hW hL => ?_)
                              obtain ⟨iu_50, fu_50, xu_50⟩ := k_51
                              have F_52 := hFm235.trans (fu_50.to (pl_sub (by decide)))
                              have F_53 := hFL217235.trans (fu_50.to (pl_sub (by decide)))
                              have g_54 : FF S u_50 (fl [6, 58, 59, 61, 62, 63, 65, 66, 67, 69, 78, 79, 84, 86]) := FF.fr hGm235 fu_50 rfl
                              have g_55 : FF S155 u_50 (fl []) := FF.fr hGL217235 fu_50 rfl
                              have g_56 : FF ((uA S217 279 0 0)) u_50 (fl []) := FF.fr gL235_ fu_50 rfl
                              have hcq := ct_7 (f := u_50.2.1 237) (p := 0) (cb := cbp (S.1 231 69).toNat) (n := (S.1 231 69).toNat) xu_50.1 rfl (by omega) (ct_q (D := nv (S.2.1 264) 0) (cb := cbp (S.1 231 69).toNat) hDb.1 (by have e8 := xu_50.2.2.1.1; rw [show S235.2.1 264 = S.2.1 264 from (funext fun j => ((hL235_ 264 rfl).2.1 j).trans ((uA_ne (fun h => absurd h.1 (by decide))).trans (((hL217_ 264 rfl).2.1 j).trans (((hL155_ 264 rfl).2.1 j).trans (((fu_38 264 rfl).2.1 j).trans ((uF_a).trans ((uF_a).trans (((fu_11 264 rfl).2.1 j).trans (((hL6_ 264 rfl).2.1 j).trans ((fu_1 264 rfl).2.1 j))))))))))] at e8; exact e8) (by have e8 := xu_50.2.2.1.2; rw [show S235.2.1 264 = S.2.1 264 from (funext fun j => ((hL235_ 264 rfl).2.1 j).trans ((uA_ne (fun h => absurd h.1 (by decide))).trans (((hL217_ 264 rfl).2.1 j).trans (((hL155_ 264 rfl).2.1 j).trans (((fu_38 264 rfl).2.1 j).trans ((uF_a).trans ((uF_a).trans (((fu_11 264 rfl).2.1 j).trans (((hL6_ 264 rfl).2.1 j).trans ((fu_1 264 rfl).2.1 j))))))))))] at e8; exact e8) (ct_lim (a := k - 1) (by omega) hDc hW235.2))
                              refine lv_aload_n hx hb dX12_cut_333 rfl (lv_at hl 3 rfl) ?_
                              refine g_X12_26 Cx hW (k := 231) (by decide) rfl (v := .ref (G.2.2.1 + 237)) (rd_7 iu_50) dX12_cut_334 ?_
                              refine lv_iconst (v := iv 0) hx hb dX12_cut_337 (by decide) ?_
                              refine lv_aload_n hx hb dX12_cut_338 rfl (lv_at hl 3 rfl) ?_
                              refine g_X12_100 Cx hW (k := 231) (by decide) rfl (v := .ref (G.2.2.1 + 261)) (rd_52 iu_50) dX12_cut_339 ?_
                              refine lv_aload_n hx hb dX12_cut_342 rfl (lv_at hl 3 rfl) ?_
                              have q_57 : (-2147483648) ≤ u_38.1 231 63 ∧ u_38.1 231 63 ≤ 2147483647 := iu_38.fi 63
                              refine g_X12_480 Cx hW (k := 231) (by decide) rfl (v := u_38.1 231 63) (((fu_50 231 rfl).1 63).trans ((gL235_ 63 rfl).trans ((uA_f).trans ((gL217_ 63 rfl).trans (gL155_ 63 rfl))))) dX12_cut_343 ?_
                              refine lv_iload_n hx hb dX12_cut_346 rfl (lv_at hl 1 rfl) ?_
                              refine sBi (sSt (As := [.int (iv (u_38.1 231 63)), .int (iv v)]) (rest := [.ref (G.2.2.1 + 261), .int (iv 0), .ref (G.2.2.1 + 237)]) Cx (s_X12_rowCell l G u_50 (i := u_38.1 231 63) (j := v) (by omega) (by omega)) (c_X12_486 Cx rfl rfl (rmk_ok (by omega) (by decide))) hW rfl hl.1 rfl (Nat.le_of_ble_eq_true rfl) dX12_cut_347 ⟨Nat.le_of_ble_eq_true rfl, Nat.le_of_ble_eq_true rfl⟩) hL (fun qw u_58 H locs k_59 hW hL => ?_)
                              obtain ⟨eu_58, xu_58⟩ := k_59
                              rw [eu_58] at hW
                              refine sBv (sSt (As := [.ref (G.2.2.1 + 237), .int (iv 0), .ref (G.2.2.1 + 261), .int (iv qw)]) (rest := []) Cx (s_X12_copy l G u_50 (ka := 237) (po := 0) (kb := 261) (qo := qw) (Nka := 68) (Nkb := 4368) (La := 7) iu_50 ⟨rfl, by decide, by decide, by decide, rfl⟩ ⟨rfl, by decide, by decide, by decide, rfl⟩ (show (261 : Nat) ≠ 237 by decide) (by omega) hcq.1) (c_X12_233 Cx rfl rfl (rmk_ok (by omega) (by decide))) hW rfl hl.1 rfl (Nat.le_of_ble_eq_true rfl) dX12_cut_350 ⟨Nat.le_of_ble_eq_true rfl, Nat.le_of_ble_eq_true rfl⟩) hL (fun u_60 H locs k_61 hW hL => ?_)
                              obtain ⟨iu_60, fu_60, xu_60⟩ := k_61
                              have F_62 := F_52.trans (fu_60.to (p1_sub rfl))
                              have F_63 := F_53.trans (fu_60.to (p1_sub rfl))
                              have g_64 : FF S u_60 (fl [6, 58, 59, 61, 62, 63, 65, 66, 67, 69, 78, 79, 84, 86]) := FF.fr g_54 fu_60 rfl
                              have g_65 : FF S155 u_60 (fl []) := FF.fr g_55 fu_60 rfl
                              have g_66 : FF ((uA S217 279 0 0)) u_60 (fl []) := FF.fr g_56 fu_60 rfl
                              refine lv_iinc (v := iv (v + 1)) (lv' := [(3, .int (iv (v + 1))), (4, .int (iv k)), (2, .int (iv (S.1 231 63))), (0, .ref (G.2.2.1 + 231)), (1, .int (iv rr))]) hx hb dX12_cut_353 hl (k := 1) rfl ((Int32.ofInt_add _ _).symm) (by decide) rfl (fun ls hl => ?_)
                              refine lv_goto (tgt := 217) hx hb dX12_cut_356 (by decide) ?_
                              exact ih_217 u_60 (v + 1) _ _ _ (by omega) iu_60 F_62 F_63 g_64 g_65 (by omega) (RWf.put (f := u_50.2.1 261) (k := (S.1 231 63 + 1)) (j := v) (p := qw) (by rw [show u_50.2.1 261 = S217.2.1 261 from (funext fun j => ((fu_50 261 rfl).2.1 j).trans (((hL235_ 261 rfl).2.1 j).trans (uA_ne (fun h => absurd h.1 (by decide)))))]; exact hR217) (by omega) (by omega) xu_60.1.1 (fun x a => xu_60.2 x (by omega))) (fun x a => (xu_60.2 x (by omega)).trans (by rw [show u_50.2.1 261 = S217.2.1 261 from (funext fun j => ((fu_50 261 rfl).2.1 j).trans (((hL235_ 261 rfl).2.1 j).trans (uA_ne (fun h => absurd h.1 (by decide)))))]; exact hO217 x a)) (fun j j0 j1 => by by_cases z : j = v; (rw [z, show 8 * (13 * (S.1 231 63 + 1) + v) = qw by omega]; have a1 := nv_abs xu_60.1.1; have a2 := nv_abs hcq.1; have a3 := xu_60.1.2.1; have a4 := (xu_60.1.1).nu0; have a5 := hcq.1.nu0; have a6 := hcq.2; omega); have n8 := hR217 (S.1 231 63 + 1) j (by omega) (by omega) j0 (by omega); have c8 := (n8.cg (g := u_60.2.1 261) (q := 8 * (13 * (S.1 231 63 + 1) + j)) ((xu_60.2 _ (by omega)).trans (by rw [show u_50.2.1 261 = S217.2.1 261 from (funext fun j => ((fu_50 261 rfl).2.1 j).trans (((hL235_ 261 rfl).2.1 j).trans (uA_ne (fun h => absurd h.1 (by decide)))))])) (fun i i0 i1 => (xu_60.2 _ (by have := n8.1; omega)).trans (by rw [show u_50.2.1 261 = S217.2.1 261 from (funext fun j => ((fu_50 261 rfl).2.1 j).trans (((hL235_ 261 rfl).2.1 j).trans (uA_ne (fun h => absurd h.1 (by decide)))))]))).2.2.1; rw [c8]; exact hC217 j j0 (by omega)) hW hL (lv_sub hl [0, 2, 3, 4] rfl)
                            · have join_303 : ∀ (S303 : sS)  (H : Heap) (locs : List Loc) (ls : Array Slot), (dX G S303) → (Fr S S303 (pl [231, 233, 234, 235, 236, 237, 238, 239, 240, 241, 242, 261, 262, 263, 264, 265, 266, 267, 268, 269, 270, 271, 272, 273, 274, 275, 276, 277, 278, 279, 280, 281])) → (Fr S155 S303 (pl [233, 234, 235, 237, 238, 240, 261, 279])) → (Fr ((uA S217 279 0 0)) S303 (pl [238, 279])) → (Fr S235 S303 (pl [238, 279])) → (FF S S303 (fl [6, 58, 59, 61, 62, 63, 65, 66, 67, 69, 78, 79, 84, 86])) → (FF S155 S303 (fl [])) → (FF ((uA S217 279 0 0)) S303 (fl [])) → (FF S235 S303 (fl [])) → (NO (S303.2.1 279) 0 13 ∧ -(k * (nv (S.2.1 264) 0 * cbp (S.1 231 69).toNat)) ≤ nv (S303.2.1 279) 0 ∧ nv (S303.2.1 279) 0 ≤ k * (nv (S.2.1 264) 0 * cbp (S.1 231 69).toNat)) → sW G 294 S303 H → sL G locs → lv_has ls 5 [(4, .int (iv k)), (3, .int (iv v)), (2, .int (iv (S.1 231 63))), (0, .ref (G.2.2.1 + 231)), (1, .int (iv rr))] → W p l e (rmk 7 0 0) s m args below meth c H locs 0 0 (MQ below (sQv G 294 (fun u => dX G u ∧ Fr S u (pl [231, 233, 234, 235, 236, 237, 238, 239, 240, 241, 242, 261, 262, 263, 264, 265, 266, 267, 268, 269, 270, 271, 272, 273, 274, 275, 276, 277, 278, 279, 280, 281]) ∧ FF S u (fl [6, 58, 59, 61, 62, 63, 65, 66, 67, 69, 78, 79, 84, 86]) ∧ (LD S u))) args s 0 0 (sF G)) (F0 m 303 ls []) := by
                                intro S303  H locs ls hI303 hFm303 hFL217303 hFL235303 hL303_ hGm303 hGL217303 hGL235303 gL303_ hW303 hW hL hl
                                refine lv_iinc (v := iv (k + 1)) (lv' := [(4, .int (iv (k + 1))), (3, .int (iv v)), (2, .int (iv (S.1 231 63))), (0, .ref (G.2.2.1 + 231)), (1, .int (iv rr))]) hx hb dX12_cut_303 hl (k := 0) rfl ((Int32.ofInt_add _ _).symm) (by decide) rfl (fun ls hl => ?_)
                                refine lv_goto (tgt := 235) hx hb dX12_cut_306 (by decide) ?_
                                exact ih_235 S303 (k + 1) _ _ _ (by omega) hI303 hFm303 hFL217303 hFL235303 hGm303 hGL217303 hGL235303 (by omega) (by rw [show k + 1 - 1 = k by omega]; exact hW303) hW hL (lv_sub hl [0, 1, 2, 3, 4] rfl)
                              refine lv_aload_n hx hb dX12_cut_241 rfl (lv_at hl 3 rfl) ?_
                              refine g_X12_154 Cx hW (k := 231) (by decide) rfl (v := .ref (G.2.2.1 + 278)) (rd_88 hI235) dX12_cut_242 ?_
                              refine lv_bipush (v := iv 8) hx hb dX12_cut_245 (by decide) ?_
                              refine lv_iload hx hb dX12_cut_247 (lv_at hl 0 rfl) ?_
                              refine r_imul hx hb dX12_cut_249 ?_
                              refine rIald Cx hW (k := 278) (by decide) rfl (by decide) (by omega) (by omega) dX12_cut_250 ?_
                              have q_67 : (-2147483648) ≤ S6.2.1 278 (8 * k) ∧ S6.2.1 278 (8 * k) ≤ 2147483647 := hI6.ai 278 (8 * k)
                              refine r_i (b := S6.2.1 278 (8 * k)) (((hL235_ 278 rfl).2.1 (8 * k)).trans ((uA_ne (fun h => absurd h.1 (by decide))).trans (((hL217_ 278 rfl).2.1 (8 * k)).trans (((hL155_ 278 rfl).2.1 (8 * k)).trans (((fu_38 278 rfl).2.1 (8 * k)).trans ((uF_a).trans ((uF_a).trans ((fu_11 278 rfl).2.1 (8 * k))))))))) ?_
                              refine r_if_ne (tgt := 257) hx hb ⟨(by omega), (by omega)⟩ dX12_cut_251 (by decide) (fun c_68 => ?_) (fun c_68 => ?_)
                              · have hrk := (hG.1.1.2.2.2 k v (by omega) (by omega) (by omega) (by omega)).same (g := S235.2.1 261) (fun x x0 x1 => by rw [show S235.2.1 261 = S217.2.1 261 from (funext fun j => ((hL235_ 261 rfl).2.1 j).trans (uA_ne (fun h => absurd h.1 (by decide))))]; exact hO217 x (by omega))
                                have hrc := hG.2.2.2 hc k v (by omega) (by omega) (by omega) (by omega)
                                have hra := nv_abs (hG.1.1.2.2.2 k v (by omega) (by omega) (by omega) (by omega))
                                have hrn := (hG.1.1.2.2.2 k v (by omega) (by omega) (by omega) (by omega)).nu0
                                have hmk := hM6 k (by omega) (by omega)
                                refine lv_aload_n hx hb dX12_cut_257 rfl (lv_at hl 3 rfl) ?_
                                refine g_X12_154 Cx hW (k := 231) (by decide) rfl (v := .ref (G.2.2.1 + 278)) (rd_88 hI235) dX12_cut_258 ?_
                                refine lv_bipush (v := iv 8) hx hb dX12_cut_261 (by decide) ?_
                                refine lv_iload hx hb dX12_cut_263 (lv_at hl 0 rfl) ?_
                                refine r_imul hx hb dX12_cut_265 ?_
                                refine lv_aload_n hx hb dX12_cut_266 rfl (lv_at hl 3 rfl) ?_
                                refine g_X12_100 Cx hW (k := 231) (by decide) rfl (v := .ref (G.2.2.1 + 261)) (rd_52 hI235) dX12_cut_267 ?_
                                refine lv_iload hx hb dX12_cut_270 (lv_at hl 0 rfl) ?_
                                refine lv_iload_n hx hb dX12_cut_272 rfl (lv_at hl 1 rfl) ?_
                                refine sBi (sSt (As := [.int (iv k), .int (iv v)]) (rest := [.ref (G.2.2.1 + 261), .int (iv (8 * k)), .ref (G.2.2.1 + 278)]) Cx (s_X12_rowCell l G S235 (i := k) (j := v) (by omega) (by omega)) (c_X12_486 Cx rfl rfl (rmk_ok (by omega) (by decide))) hW rfl hl.1 rfl (Nat.le_of_ble_eq_true rfl) dX12_cut_273 ⟨Nat.le_of_ble_eq_true rfl, Nat.le_of_ble_eq_true rfl⟩) hL (fun qr u_69 H locs k_70 hW hL => ?_)
                                obtain ⟨eu_69, xu_69⟩ := k_70
                                rw [eu_69] at hW
                                refine lv_aload_n hx hb dX12_cut_276 rfl (lv_at hl 3 rfl) ?_
                                refine g_X12_29 Cx hW (k := 231) (by decide) rfl (v := .ref (G.2.2.1 + 238)) (rd_8 hI235) dX12_cut_277 ?_
                                refine lv_iconst (v := iv 0) hx hb dX12_cut_280 (by decide) ?_
                                refine sBv (sSt (As := [.ref (G.2.2.1 + 278), .int (iv (8 * k)), .ref (G.2.2.1 + 261), .int (iv qr), .ref (G.2.2.1 + 238), .int (iv 0)]) (rest := []) Cx (s_X12_multiply l G S235 (ka := 278) (po := 8 * k) (kb := 261) (qo := qr) (kc := 238) (ro := 0) (Nka := 336) (Nkb := 4368) (Nkc := 68) (La := 6) (Lb := 7) hI235 ⟨rfl, by decide, by decide, by decide, rfl⟩ ⟨rfl, by decide, by decide, by decide, rfl⟩ ⟨rfl, by decide, by decide, by decide, rfl⟩ (show (238 : Nat) ≠ 261 by decide) (show (238 : Nat) ≠ 278 by decide) (by omega) (by rw [show S235.2.1 278 = S6.2.1 278 from (funext fun j => ((hL235_ 278 rfl).2.1 j).trans ((uA_ne (fun h => absurd h.1 (by decide))).trans (((hL217_ 278 rfl).2.1 j).trans (((hL155_ 278 rfl).2.1 j).trans (((fu_38 278 rfl).2.1 j).trans ((uF_a).trans ((uF_a).trans ((fu_11 278 rfl).2.1 j))))))))]; exact hmk.1) (by rw [show qr = 8 * (13 * k + v) by omega]; exact hrk.1)) (c_X12_548 Cx rfl rfl (rmk_ok (by omega) (by decide))) hW rfl hl.1 rfl (Nat.le_of_ble_eq_true rfl) dX12_cut_281 ⟨Nat.le_of_ble_eq_true rfl, Nat.le_of_ble_eq_true rfl⟩) hL (fun u_71 H locs k_72 hW hL => ?_)
                                obtain ⟨iu_71, fu_71, xu_71⟩ := k_72
                                have F_73 := hFm235.trans (fu_71.to (p1_sub rfl))
                                have F_74 := hFL217235.trans (fu_71.to (p1_sub rfl))
                                have F_75 := hL235_.trans (fu_71.to (p1_sub rfl))
                                have F_76 := (Fr.rf : Fr S235 S235 (pl [238, 279])).trans (fu_71.to (p1_sub rfl))
                                have g_77 : FF S u_71 (fl [6, 58, 59, 61, 62, 63, 65, 66, 67, 69, 78, 79, 84, 86]) := FF.fr hGm235 fu_71 rfl
                                have g_78 : FF S155 u_71 (fl []) := FF.fr hGL217235 fu_71 rfl
                                have g_79 : FF ((uA S217 279 0 0)) u_71 (fl []) := FF.fr gL235_ fu_71 rfl
                                have g_80 : FF S235 u_71 (fl []) := FF.fr (FF.rf : FF S235 S235 (fl [])) fu_71 rfl
                                refine lv_aload_n hx hb dX12_cut_284 rfl (lv_at hl 3 rfl) ?_
                                refine g_X12_157 Cx hW (k := 231) (by decide) rfl (v := .ref (G.2.2.1 + 279)) (rd_89 iu_71) dX12_cut_285 ?_
                                refine lv_iconst (v := iv 0) hx hb dX12_cut_288 (by decide) ?_
                                refine lv_aload_n hx hb dX12_cut_289 rfl (lv_at hl 3 rfl) ?_
                                refine g_X12_29 Cx hW (k := 231) (by decide) rfl (v := .ref (G.2.2.1 + 238)) (rd_8 iu_71) dX12_cut_290 ?_
                                refine lv_iconst (v := iv 0) hx hb dX12_cut_293 (by decide) ?_
                                refine lv_iconst (v := iv 0) hx hb dX12_cut_294 (by decide) ?_
                                refine lv_aload_n hx hb dX12_cut_295 rfl (lv_at hl 3 rfl) ?_
                                refine g_X12_157 Cx hW (k := 231) (by decide) rfl (v := .ref (G.2.2.1 + 279)) (rd_89 iu_71) dX12_cut_296 ?_
                                refine lv_iconst (v := iv 0) hx hb dX12_cut_299 (by decide) ?_
                                refine sBv (sSt (As := [.ref (G.2.2.1 + 279), .int (iv 0), .ref (G.2.2.1 + 238), .int (iv 0), .int (iv 0), .ref (G.2.2.1 + 279), .int (iv 0)]) (rest := []) Cx (s_X12_add l G u_71 (ka := 279) (po := 0) (kb := 238) (qo := 0) (lz := 0) (kc := 279) (ro := 0) (Nka := 68) (Nkb := 68) (Nkc := 68) (La := 13) (Lb := 13) (Lc := 14) iu_71 ⟨rfl, by decide, by decide, by decide, rfl⟩ ⟨rfl, by decide, by decide, by decide, rfl⟩ ⟨rfl, by decide, by decide, by decide, rfl⟩ (show (279 : Nat) ≠ 238 by decide) (fun _ => rfl) (by omega) (by omega) (by rw [show u_71.2.1 279 = S235.2.1 279 from (funext fun j => (fu_71 279 rfl).2.1 j)]; exact hW235.1) xu_71.1) (c_X12_249 Cx rfl rfl (rmk_ok (by omega) (by decide))) hW rfl hl.1 rfl (Nat.le_of_ble_eq_true rfl) dX12_cut_300 ⟨Nat.le_of_ble_eq_true rfl, Nat.le_of_ble_eq_true rfl⟩) hL (fun u_81 H locs k_82 hW hL => ?_)
                                obtain ⟨iu_81, fu_81, xu_81⟩ := k_82
                                have F_83 := F_73.trans (fu_81.to (p1_sub rfl))
                                have F_84 := F_74.trans (fu_81.to (p1_sub rfl))
                                have F_85 := F_75.trans (fu_81.to (p1_sub rfl))
                                have F_86 := F_76.trans (fu_81.to (p1_sub rfl))
                                have g_87 : FF S u_81 (fl [6, 58, 59, 61, 62, 63, 65, 66, 67, 69, 78, 79, 84, 86]) := FF.fr g_77 fu_81 rfl
                                have g_88 : FF S155 u_81 (fl []) := FF.fr g_78 fu_81 rfl
                                have g_89 : FF ((uA S217 279 0 0)) u_81 (fl []) := FF.fr g_79 fu_81 rfl
                                have g_90 : FF S235 u_81 (fl []) := FF.fr g_80 fu_81 rfl
                                exact join_303 u_81  _ _ _ iu_81 F_83 F_84 F_85 F_86 g_87 g_88 g_89 g_90 (by have e1 : nv (u_71.2.1 238) 0 = nv (S6.2.1 278) (8 * k) * nv (S.2.1 261) (8 * (13 * k + v)) := (by rw [xu_71.2.1, show S235.2.1 278 = S6.2.1 278 from (funext fun j => ((hL235_ 278 rfl).2.1 j).trans ((uA_ne (fun h => absurd h.1 (by decide))).trans (((hL217_ 278 rfl).2.1 j).trans (((hL155_ 278 rfl).2.1 j).trans (((fu_38 278 rfl).2.1 j).trans ((uF_a).trans ((uF_a).trans ((fu_11 278 rfl).2.1 j)))))))), show qr = 8 * (13 * k + v) by omega, hrk.2]); have e2 := ct_mul (D := nv (S.2.1 264) 0) (cb := cbp (S.1 231 69).toNat) hmk.2 (r := nv (S.2.1 261) (8 * (13 * k + v))) (by omega); have e3 := ct_add (a := k - 1) (X := nv (S.2.1 264) 0 * cbp (S.1 231 69).toNat) hW235.2 e2; have e4 : nv (u_81.2.1 279) 0 = nv (S235.2.1 279) 0 + nv (S6.2.1 278) (8 * k) * nv (S.2.1 261) (8 * (13 * k + v)) := (by rw [xu_81.2.1, asn_0, e1, show u_71.2.1 279 = S235.2.1 279 from (funext fun j => (fu_71 279 rfl).2.1 j)]); rw [← e4, show k - 1 + 1 = k by omega] at e3; exact ⟨NO.of (n := 13) xu_81.1 (ct_13 hDb hcb (ct_lim (a := k) (by omega) hDc e3)), e3⟩) hW hL (lv_sub hl [0, 1, 2, 3, 4] rfl)
                              · refine lv_goto (tgt := 303) hx hb dX12_cut_254 (by decide) ?_
                                exact join_303 S235  _ _ _ hI235 hFm235 hFL217235 hL235_ (Fr.rf : Fr S235 S235 (pl [238, 279])) hGm235 hGL217235 gL235_ (FF.rf : FF S235 S235 (fl [])) ⟨hW235.1, (by have e8 := ct_add (X := nv (S.2.1 264) 0 * cbp (S.1 231 69).toNat) (z := 0) hW235.2 (by have := Int.mul_nonneg (Int.le_of_lt hG.1.2.1.2.2.2) (Int.le_of_lt (cbp_0 (S.1 231 69).toNat)); omega); rw [show k - 1 + 1 = k by omega, Int.add_zero] at e8; exact e8)⟩ hW hL (lv_sub hl [0, 1, 2, 3, 4] rfl)
                        exact loop_235 (_ + 1) (uA S217 279 0 0) 1 _ _ _ (Nat.lt_succ_self _) i_48 F_46 F_47 Fr.rf hGm217 gL217_ FF.rf (by omega) (by rw [(NO_0 (L := 13) (by omega)).2, show (1 : Int) - 1 = 0 by omega, Int.zero_mul]; exact ⟨(NO_0 (by omega)).1, (by omega), (by omega)⟩) hW hL (lv_sub hl [0, 1, 2, 3, 4] rfl)
                  exact loop_217 (_ + 1) S155 0 _ _ _ (Nat.lt_succ_self _) hI155 hFm155 Fr.rf hGm155 FF.rf (by omega) (by rw [show S155.2.1 261 = S.2.1 261 from (funext fun j => ((hL155_ 261 rfl).2.1 j).trans (((fu_38 261 rfl).2.1 j).trans ((uF_a).trans ((uF_a).trans (((fu_11 261 rfl).2.1 j).trans (((hL6_ 261 rfl).2.1 j).trans ((fu_1 261 rfl).2.1 j)))))))]; exact hG.1.1.2.2.2) (fun x _ => ((hL155_ 261 rfl).2.1 x).trans (((fu_38 261 rfl).2.1 x).trans ((uF_a).trans ((uF_a).trans (((fu_11 261 rfl).2.1 x).trans (((hL6_ 261 rfl).2.1 x).trans ((fu_1 261 rfl).2.1 x))))))) (fun j j0 j1 => absurd j1 (by omega)) hW hL (lv_sub hl [0, 1, 2, 3] rfl)
                · refine lv_aload_n hx hb dX12_cut_163 rfl (lv_at hl 2 rfl) ?_
                  refine g_X12_106 Cx hW (k := 231) (by decide) rfl (v := .ref (G.2.2.1 + 263)) (rd_54 hI155) dX12_cut_164 ?_
                  refine lv_aload_n hx hb dX12_cut_167 rfl (lv_at hl 2 rfl) ?_
                  refine lv_iconst (v := iv 0) hx hb dX12_cut_168 (by decide) ?_
                  refine lv_iload_n hx hb dX12_cut_169 rfl (lv_at hl 0 rfl) ?_
                  refine sBi (sV (As := [.int (iv 0), .int (iv j)]) (rest := [.ref (G.2.2.1 + 263)]) (k := 231) Cx (s_X12_cell l G S155 (i := 0) (j := j) (by omega) (by omega)) (c_X12_529 Cx rfl rfl (rmk_ok (by omega) (by decide))) hW (by decide) rfl rfl rfl hl.1 rfl (Nat.le_of_ble_eq_true rfl) dX12_cut_170 ⟨Nat.le_of_ble_eq_true rfl, Nat.le_of_ble_eq_true rfl⟩) hL (fun qh u_91 H locs k_92 hW hL => ?_)
                  obtain ⟨eu_91, xu_91⟩ := k_92
                  rw [eu_91] at hW
                  refine lv_aload_n hx hb dX12_cut_173 rfl (lv_at hl 2 rfl) ?_
                  refine g_X12_103 Cx hW (k := 231) (by decide) rfl (v := .ref (G.2.2.1 + 262)) (rd_53 hI155) dX12_cut_174 ?_
                  refine lv_aload_n hx hb dX12_cut_177 rfl (lv_at hl 2 rfl) ?_
                  refine lv_aload_n hx hb dX12_cut_178 rfl (lv_at hl 2 rfl) ?_
                  have q_93 : (-2147483648) ≤ u_38.1 231 58 ∧ u_38.1 231 58 ≤ 2147483647 := iu_38.fi 58
                  refine g_X12_483 Cx hW (k := 231) (by decide) rfl (v := u_38.1 231 58) (gL155_ 58 rfl) dX12_cut_179 ?_
                  refine lv_iconst (v := iv 1) hx hb dX12_cut_182 (by decide) ?_
                  refine r_iadd hx hb dX12_cut_183 ?_
                  refine lv_iload_n hx hb dX12_cut_184 rfl (lv_at hl 0 rfl) ?_
                  refine sBi (sV (As := [.int (iv ((u_38.1 231 58) + 1)), .int (iv j)]) (rest := [.ref (G.2.2.1 + 262), .int (iv qh), .ref (G.2.2.1 + 263)]) (k := 231) Cx (s_X12_cell l G S155 (i := (u_38.1 231 58) + 1) (j := j) (by omega) (by omega)) (c_X12_529 Cx rfl rfl (rmk_ok (by omega) (by decide))) hW (by decide) rfl rfl rfl hl.1 rfl (Nat.le_of_ble_eq_true rfl) dX12_cut_185 ⟨Nat.le_of_ble_eq_true rfl, Nat.le_of_ble_eq_true rfl⟩) hL (fun qn u_94 H locs k_95 hW hL => ?_)
                  obtain ⟨eu_94, xu_94⟩ := k_95
                  rw [eu_94] at hW
                  refine sBv (sSt (As := [.ref (G.2.2.1 + 263), .int (iv qh), .ref (G.2.2.1 + 262), .int (iv qn)]) (rest := []) Cx (s_X12_copy l G S155 (ka := 263) (po := qh) (kb := 262) (qo := qn) (Nka := 5280) (Nkb := 5280) (La := 6) hI155 ⟨rfl, by decide, by decide, by decide, rfl⟩ ⟨rfl, by decide, by decide, by decide, rfl⟩ (show (262 : Nat) ≠ 263 by decide) (by omega) (by rw [show S155.2.1 263 = S6.2.1 263 from (funext fun j => ((hL155_ 263 rfl).2.1 j).trans (((fu_38 263 rfl).2.1 j).trans ((uF_a).trans ((uF_a).trans ((fu_11 263 rfl).2.1 j))))), show qh = 8 * j by omega]; exact hF6 j (by omega) (by omega))) (c_X12_233 Cx rfl rfl (rmk_ok (by omega) (by decide))) hW rfl hl.1 rfl (Nat.le_of_ble_eq_true rfl) dX12_cut_188 ⟨Nat.le_of_ble_eq_true rfl, Nat.le_of_ble_eq_true rfl⟩) hL (fun u_96 H locs k_97 hW hL => ?_)
                  obtain ⟨iu_96, fu_96, xu_96⟩ := k_97
                  have F_98 := hFm155.trans (fu_96.to (p1_sub rfl))
                  have F_99 := hL155_.trans (fu_96.to (p1_sub rfl))
                  have g_100 : FF S u_96 (fl [6, 58, 59, 61, 62, 63, 65, 66, 67, 69, 78, 79, 84, 86]) := FF.fr hGm155 fu_96 rfl
                  have g_101 : FF u_38 u_96 (fl []) := FF.fr gL155_ fu_96 rfl
                  refine lv_aload_n hx hb dX12_cut_191 rfl (lv_at hl 2 rfl) ?_
                  refine g_X12_103 Cx hW (k := 231) (by decide) rfl (v := .ref (G.2.2.1 + 262)) (rd_53 iu_96) dX12_cut_192 ?_
                  refine lv_aload_n hx hb dX12_cut_195 rfl (lv_at hl 2 rfl) ?_
                  refine lv_aload_n hx hb dX12_cut_196 rfl (lv_at hl 2 rfl) ?_
                  refine g_X12_483 Cx hW (k := 231) (by decide) rfl (v := u_38.1 231 58) (((fu_96 231 rfl).1 58).trans (gL155_ 58 rfl)) dX12_cut_197 ?_
                  refine lv_iconst (v := iv 1) hx hb dX12_cut_200 (by decide) ?_
                  refine r_iadd hx hb dX12_cut_201 ?_
                  refine lv_iload_n hx hb dX12_cut_202 rfl (lv_at hl 0 rfl) ?_
                  refine sBi (sV (As := [.int (iv ((u_38.1 231 58) + 1)), .int (iv j)]) (rest := [.ref (G.2.2.1 + 262)]) (k := 231) Cx (s_X12_cell l G u_96 (i := (u_38.1 231 58) + 1) (j := j) (by omega) (by omega)) (c_X12_529 Cx rfl rfl (rmk_ok (by omega) (by decide))) hW (by decide) rfl rfl rfl hl.1 rfl (Nat.le_of_ble_eq_true rfl) dX12_cut_203 ⟨Nat.le_of_ble_eq_true rfl, Nat.le_of_ble_eq_true rfl⟩) hL (fun qm u_102 H locs k_103 hW hL => ?_)
                  obtain ⟨eu_102, xu_102⟩ := k_103
                  rw [eu_102] at hW
                  refine sBv (sSt (As := [.ref (G.2.2.1 + 262), .int (iv qm)]) (rest := []) Cx (s_X12_negate l G u_96 (ka := 262) (po := qm) (Nka := 5280) (La := 6) iu_96 ⟨rfl, by decide, by decide, by decide, rfl⟩ (by omega) (by rw [show qm = qn by omega]; exact xu_96.1.1)) (c_X12_540 Cx rfl rfl (rmk_ok (by omega) (by decide))) hW rfl hl.1 rfl (Nat.le_of_ble_eq_true rfl) dX12_cut_206 ⟨Nat.le_of_ble_eq_true rfl, Nat.le_of_ble_eq_true rfl⟩) hL (fun u_104 H locs k_105 hW hL => ?_)
                  obtain ⟨iu_104, fu_104, xu_104⟩ := k_105
                  have F_106 := F_98.trans (fu_104.to (p1_sub rfl))
                  have F_107 := F_99.trans (fu_104.to (p1_sub rfl))
                  have g_108 : FF S u_104 (fl [6, 58, 59, 61, 62, 63, 65, 66, 67, 69, 78, 79, 84, 86]) := FF.fr g_100 fu_104 rfl
                  have g_109 : FF u_38 u_104 (fl []) := FF.fr g_101 fu_104 rfl
                  refine lv_iinc (v := iv (j + 1)) (lv' := [(3, .int (iv (j + 1))), (2, .int (iv (S.1 231 63))), (0, .ref (G.2.2.1 + 231)), (1, .int (iv rr))]) hx hb dX12_cut_209 hl (k := 0) rfl ((Int32.ofInt_add _ _).symm) (by decide) rfl (fun ls hl => ?_)
                  refine lv_goto (tgt := 155) hx hb dX12_cut_212 (by decide) ?_
                  exact ih_155 u_104 (j + 1) _ _ _ (by omega) iu_104 F_106 F_107 g_108 g_109 (by omega) (hP.put (f' := u_104.2.1 262) (p := qn) (by unfold cl; omega) (by omega) (by omega) (by rw [show qn = qm by omega]; exact xu_104.1) (fun x a => by rw [xu_104.2.2, uA_ne (fun h => by have := h.2; omega)]; exact xu_96.2 x (by omega))) hW hL (lv_sub hl [0, 1, 2, 3] rfl)
            exact loop_155 (_ + 1) u_38 0 _ _ _ (Nat.lt_succ_self _) iu_38 F_41 Fr.rf g_42 FF.rf (by omega) ⟨(by rw [show u_38.2.1 262 = S.2.1 262 from (funext fun j => ((fu_38 262 rfl).2.1 j).trans ((uF_a).trans ((uF_a).trans (((fu_11 262 rfl).2.1 j).trans (((hL6_ 262 rfl).2.1 j).trans ((fu_1 262 rfl).2.1 j))))))]; exact hG.1.2.1.2.1), (fun b b0 b1 => absurd b1 (by omega))⟩ hW hL (lv_sub hl [0, 1, 2, 3] rfl)
          · have zf46 := (show u_38.1 231 46 = S.1 231 46 from (gu_38 46 rfl).trans ((uF_ne (fun h => absurd h.2 (by decide))).trans ((uF_ne (fun h => absurd h.2 (by decide))).trans ((gu_11 46 rfl).trans ((gL6_ 46 rfl).trans (gu_1 46 rfl))))))
            have zf47 := (show u_38.1 231 47 = S.1 231 47 from (gu_38 47 rfl).trans ((uF_ne (fun h => absurd h.2 (by decide))).trans ((uF_ne (fun h => absurd h.2 (by decide))).trans ((gu_11 47 rfl).trans ((gL6_ 47 rfl).trans (gu_1 47 rfl))))))
            have zf48 := (show u_38.1 231 48 = S.1 231 48 from (gu_38 48 rfl).trans ((uF_ne (fun h => absurd h.2 (by decide))).trans ((uF_ne (fun h => absurd h.2 (by decide))).trans ((gu_11 48 rfl).trans ((gL6_ 48 rfl).trans (gu_1 48 rfl))))))
            have zf58 := (show u_38.1 231 58 = u_38.1 231 58 from rfl)
            have zf59 := (show u_38.1 231 59 = S.1 231 59 from (gu_38 59 rfl).trans ((uF_ne (fun h => absurd h.2 (by decide))).trans ((uF_ne (fun h => absurd h.2 (by decide))).trans ((gu_11 59 rfl).trans ((gL6_ 59 rfl).trans (gu_1 59 rfl))))))
            have zf60 := (show u_38.1 231 60 = S.1 231 60 from (gu_38 60 rfl).trans ((uF_ne (fun h => absurd h.2 (by decide))).trans ((uF_ne (fun h => absurd h.2 (by decide))).trans ((gu_11 60 rfl).trans ((gL6_ 60 rfl).trans (gu_1 60 rfl))))))
            have zf61 := (show u_38.1 231 61 = u_38.1 231 61 from rfl)
            have zf62 := (show u_38.1 231 62 = u_38.1 231 62 from rfl)
            have zf63 := (show u_38.1 231 63 = u_38.1 231 63 from rfl)
            have zf65 := (show u_38.1 231 65 = u_38.1 231 65 from rfl)
            have zf68 := (show u_38.1 231 68 = S.1 231 68 from (gu_38 68 rfl).trans ((uF_ne (fun h => absurd h.2 (by decide))).trans ((uF_ne (fun h => absurd h.2 (by decide))).trans ((gu_11 68 rfl).trans ((gL6_ 68 rfl).trans (gu_1 68 rfl))))))
            have zf69 := (show u_38.1 231 69 = (S.1 231 69) + 1 from (gu_38 69 rfl).trans (uF_on))
            have zf78 := (show u_38.1 231 78 = S.1 231 78 from (gu_38 78 rfl).trans ((uF_ne (fun h => absurd h.2 (by decide))).trans ((uF_ne (fun h => absurd h.2 (by decide))).trans ((gu_11 78 rfl).trans ((gL6_ 78 rfl).trans (gu_1 78 rfl))))))
            have zf79 := (show u_38.1 231 79 = S.1 231 79 from (gu_38 79 rfl).trans ((uF_ne (fun h => absurd h.2 (by decide))).trans ((uF_ne (fun h => absurd h.2 (by decide))).trans ((gu_11 79 rfl).trans ((gL6_ 79 rfl).trans (gu_1 79 rfl))))))
            have zf84 := (show u_38.1 231 84 = u_11.1 231 84 from (gu_38 84 rfl).trans ((uF_ne (fun h => absurd h.2 (by decide))).trans (uF_ne (fun h => absurd h.2 (by decide)))))
            have zf86 := (show u_38.1 231 86 = S.1 231 86 from (gu_38 86 rfl).trans ((uF_ne (fun h => absurd h.2 (by decide))).trans ((uF_ne (fun h => absurd h.2 (by decide))).trans ((gu_11 86 rfl).trans ((gL6_ 86 rfl).trans (gu_1 86 rfl))))))
            exact sVret Cx hr hlk hW hL ⟨iu_38, F_41, g_42, ⟨(by omega), (fun _ => (EI.sm (S := S) (u := u_38) hG.1 ((gu_38 46 rfl).trans ((uF_ne (fun h => absurd h.2 (by decide))).trans ((uF_ne (fun h => absurd h.2 (by decide))).trans ((gu_11 46 rfl).trans ((gL6_ 46 rfl).trans (gu_1 46 rfl)))))) ((gu_38 47 rfl).trans ((uF_ne (fun h => absurd h.2 (by decide))).trans ((uF_ne (fun h => absurd h.2 (by decide))).trans ((gu_11 47 rfl).trans ((gL6_ 47 rfl).trans (gu_1 47 rfl)))))) (by omega) ((gu_38 59 rfl).trans ((uF_ne (fun h => absurd h.2 (by decide))).trans ((uF_ne (fun h => absurd h.2 (by decide))).trans ((gu_11 59 rfl).trans ((gL6_ 59 rfl).trans (gu_1 59 rfl)))))) ((gu_38 60 rfl).trans ((uF_ne (fun h => absurd h.2 (by decide))).trans ((uF_ne (fun h => absurd h.2 (by decide))).trans ((gu_11 60 rfl).trans ((gL6_ 60 rfl).trans (gu_1 60 rfl)))))) (by omega) ((gu_38 79 rfl).trans ((uF_ne (fun h => absurd h.2 (by decide))).trans ((uF_ne (fun h => absurd h.2 (by decide))).trans ((gu_11 79 rfl).trans ((gL6_ 79 rfl).trans (gu_1 79 rfl)))))) ((gu_38 86 rfl).trans ((uF_ne (fun h => absurd h.2 (by decide))).trans ((uF_ne (fun h => absurd h.2 (by decide))).trans ((gu_11 86 rfl).trans ((gL6_ 86 rfl).trans (gu_1 86 rfl)))))) (funext fun j => ((fu_38 261 rfl).2.1 j).trans ((uF_a).trans ((uF_a).trans (((fu_11 261 rfl).2.1 j).trans (((hL6_ 261 rfl).2.1 j).trans ((fu_1 261 rfl).2.1 j)))))) (funext fun j => ((fu_38 262 rfl).2.1 j).trans ((uF_a).trans ((uF_a).trans (((fu_11 262 rfl).2.1 j).trans (((hL6_ 262 rfl).2.1 j).trans ((fu_1 262 rfl).2.1 j)))))) (funext fun j => ((fu_38 264 rfl).2.1 j).trans ((uF_a).trans ((uF_a).trans (((fu_11 264 rfl).2.1 j).trans (((hL6_ 264 rfl).2.1 j).trans ((fu_1 264 rfl).2.1 j)))))) (funext fun j => by rw [xu_38.2.2.2 j, if_neg (by omega)]; exact (uF_a).trans ((uF_a).trans (((fu_11 265 rfl).2.1 j).trans (((hL6_ 265 rfl).2.1 j).trans ((fu_1 265 rfl).2.1 j))))) (funext fun j => ((fu_38 266 rfl).2.1 j).trans ((uF_a).trans ((uF_a).trans (((fu_11 266 rfl).2.1 j).trans (((hL6_ 266 rfl).2.1 j).trans ((fu_1 266 rfl).2.1 j)))))) (funext fun j => ((fu_38 272 rfl).2.1 j).trans ((uF_a).trans ((uF_a).trans (((fu_11 272 rfl).2.1 j).trans (((hL6_ 272 rfl).2.1 j).trans ((fu_1 272 rfl).2.1 j)))))) (funext fun j => ((fu_38 273 rfl).2.1 j).trans ((uF_a).trans ((uF_a).trans (((fu_11 273 rfl).2.1 j).trans (((hL6_ 273 rfl).2.1 j).trans ((fu_1 273 rfl).2.1 j)))))) (funext fun j => ((fu_38 274 rfl).2.1 j).trans ((uF_a).trans ((uF_a).trans (((fu_11 274 rfl).2.1 j).trans (((hL6_ 274 rfl).2.1 j).trans ((fu_1 274 rfl).2.1 j)))))) (funext fun j => ((fu_38 260 rfl).2.2.1 j).trans ((uF_l).trans ((uF_l).trans (((fu_11 260 rfl).2.2.1 j).trans (((hL6_ 260 rfl).2.2.1 j).trans ((fu_1 260 rfl).2.2.1 j)))))) (funext fun j => ((fu_38 290 rfl).2.2.1 j).trans ((uF_l).trans ((uF_l).trans (((fu_11 290 rfl).2.2.1 j).trans (((hL6_ 290 rfl).2.2.1 j).trans ((fu_1 290 rfl).2.2.1 j)))))))), (fun q => absurd q (by omega))⟩⟩ dX12_cut_152
        · have zf46 := (show u_11.1 231 46 = S.1 231 46 from (gu_11 46 rfl).trans ((gL6_ 46 rfl).trans (gu_1 46 rfl)))
          have zf47 := (show u_11.1 231 47 = S.1 231 47 from (gu_11 47 rfl).trans ((gL6_ 47 rfl).trans (gu_1 47 rfl)))
          have zf48 := (show u_11.1 231 48 = S.1 231 48 from (gu_11 48 rfl).trans ((gL6_ 48 rfl).trans (gu_1 48 rfl)))
          have zf58 := (show u_11.1 231 58 = S.1 231 58 from (gu_11 58 rfl).trans ((gL6_ 58 rfl).trans (gu_1 58 rfl)))
          have zf59 := (show u_11.1 231 59 = S.1 231 59 from (gu_11 59 rfl).trans ((gL6_ 59 rfl).trans (gu_1 59 rfl)))
          have zf60 := (show u_11.1 231 60 = S.1 231 60 from (gu_11 60 rfl).trans ((gL6_ 60 rfl).trans (gu_1 60 rfl)))
          have zf61 := (show u_11.1 231 61 = u_11.1 231 61 from rfl)
          have zf62 := (show u_11.1 231 62 = S.1 231 62 from (gu_11 62 rfl).trans ((gL6_ 62 rfl).trans (gu_1 62 rfl)))
          have zf63 := (show u_11.1 231 63 = S.1 231 63 from (gu_11 63 rfl).trans ((gL6_ 63 rfl).trans (gu_1 63 rfl)))
          have zf65 := (show u_11.1 231 65 = S.1 231 65 from (gu_11 65 rfl).trans ((gL6_ 65 rfl).trans (gu_1 65 rfl)))
          have zf68 := (show u_11.1 231 68 = S.1 231 68 from (gu_11 68 rfl).trans ((gL6_ 68 rfl).trans (gu_1 68 rfl)))
          have zf69 := (show u_11.1 231 69 = S.1 231 69 from (gu_11 69 rfl).trans ((gL6_ 69 rfl).trans (gu_1 69 rfl)))
          have zf78 := (show u_11.1 231 78 = S.1 231 78 from (gu_11 78 rfl).trans ((gL6_ 78 rfl).trans (gu_1 78 rfl)))
          have zf79 := (show u_11.1 231 79 = S.1 231 79 from (gu_11 79 rfl).trans ((gL6_ 79 rfl).trans (gu_1 79 rfl)))
          have zf84 := (show u_11.1 231 84 = u_11.1 231 84 from rfl)
          have zf86 := (show u_11.1 231 86 = S.1 231 86 from (gu_11 86 rfl).trans ((gL6_ 86 rfl).trans (gu_1 86 rfl)))
          exact sVret Cx hr hlk hW hL ⟨iu_11, F_13, g_14, ⟨(by omega), (fun _ => (EI.sm (S := S) (u := u_11) hG.1 ((gu_11 46 rfl).trans ((gL6_ 46 rfl).trans (gu_1 46 rfl))) ((gu_11 47 rfl).trans ((gL6_ 47 rfl).trans (gu_1 47 rfl))) ((gu_11 58 rfl).trans ((gL6_ 58 rfl).trans (gu_1 58 rfl))) ((gu_11 59 rfl).trans ((gL6_ 59 rfl).trans (gu_1 59 rfl))) ((gu_11 60 rfl).trans ((gL6_ 60 rfl).trans (gu_1 60 rfl))) ((gu_11 63 rfl).trans ((gL6_ 63 rfl).trans (gu_1 63 rfl))) ((gu_11 79 rfl).trans ((gL6_ 79 rfl).trans (gu_1 79 rfl))) ((gu_11 86 rfl).trans ((gL6_ 86 rfl).trans (gu_1 86 rfl))) (funext fun j => ((fu_11 261 rfl).2.1 j).trans (((hL6_ 261 rfl).2.1 j).trans ((fu_1 261 rfl).2.1 j))) (funext fun j => ((fu_11 262 rfl).2.1 j).trans (((hL6_ 262 rfl).2.1 j).trans ((fu_1 262 rfl).2.1 j))) (funext fun j => ((fu_11 264 rfl).2.1 j).trans (((hL6_ 264 rfl).2.1 j).trans ((fu_1 264 rfl).2.1 j))) (funext fun j => ((fu_11 265 rfl).2.1 j).trans (((hL6_ 265 rfl).2.1 j).trans ((fu_1 265 rfl).2.1 j))) (funext fun j => ((fu_11 266 rfl).2.1 j).trans (((hL6_ 266 rfl).2.1 j).trans ((fu_1 266 rfl).2.1 j))) (funext fun j => ((fu_11 272 rfl).2.1 j).trans (((hL6_ 272 rfl).2.1 j).trans ((fu_1 272 rfl).2.1 j))) (funext fun j => ((fu_11 273 rfl).2.1 j).trans (((hL6_ 273 rfl).2.1 j).trans ((fu_1 273 rfl).2.1 j))) (funext fun j => ((fu_11 274 rfl).2.1 j).trans (((hL6_ 274 rfl).2.1 j).trans ((fu_1 274 rfl).2.1 j))) (funext fun j => ((fu_11 260 rfl).2.2.1 j).trans (((hL6_ 260 rfl).2.2.1 j).trans ((fu_1 260 rfl).2.2.1 j))) (funext fun j => ((fu_11 290 rfl).2.2.1 j).trans (((hL6_ 290 rfl).2.2.1 j).trans ((fu_1 290 rfl).2.2.1 j))))), (fun q => absurd q (by omega))⟩⟩ dX12_cut_119
      · refine lv_aload_n hx hb dX12_cut_14 rfl (lv_at hl 1 rfl) ?_
        refine lv_aload_n hx hb dX12_cut_15 rfl (lv_at hl 1 rfl) ?_
        refine g_X12_103 Cx hW (k := 231) (by decide) rfl (v := .ref (G.2.2.1 + 262)) (rd_53 hI6) dX12_cut_16 ?_
        refine lv_aload_n hx hb dX12_cut_19 rfl (lv_at hl 1 rfl) ?_
        refine lv_iload_n hx hb dX12_cut_20 rfl (lv_at hl 2 rfl) ?_
        refine lv_iconst (v := iv 1) hx hb dX12_cut_21 (by decide) ?_
        refine r_iadd hx hb dX12_cut_22 ?_
        refine lv_iload_n hx hb dX12_cut_23 rfl (lv_at hl 0 rfl) ?_
        refine sBi (sV (As := [.int (iv (rr + 1)), .int (iv j)]) (rest := [.ref (G.2.2.1 + 262), .ref (G.2.2.1 + 231)]) (k := 231) Cx (s_X12_cell l G S6 (i := rr + 1) (j := j) (by omega) (by omega)) (c_X12_529 Cx rfl rfl (rmk_ok (by omega) (by decide))) hW (by decide) rfl rfl rfl hl.1 rfl (Nat.le_of_ble_eq_true rfl) dX12_cut_24 ⟨Nat.le_of_ble_eq_true rfl, Nat.le_of_ble_eq_true rfl⟩) hL (fun qd u_110 H locs k_111 hW hL => ?_)
        obtain ⟨eu_110, xu_110⟩ := k_111
        rw [eu_110] at hW
        refine lv_aload_n hx hb dX12_cut_27 rfl (lv_at hl 1 rfl) ?_
        refine g_X12_109 Cx hW (k := 231) (by decide) rfl (v := .ref (G.2.2.1 + 264)) (rd_55 hI6) dX12_cut_28 ?_
        refine lv_iconst (v := iv 0) hx hb dX12_cut_31 (by decide) ?_
        refine lv_aload_n hx hb dX12_cut_32 rfl (lv_at hl 1 rfl) ?_
        refine g_X12_26 Cx hW (k := 231) (by decide) rfl (v := .ref (G.2.2.1 + 237)) (rd_7 hI6) dX12_cut_33 ?_
        refine lv_iconst (v := iv 0) hx hb dX12_cut_36 (by decide) ?_
        refine lv_aload_n hx hb dX12_cut_37 rfl (lv_at hl 1 rfl) ?_
        refine g_X12_106 Cx hW (k := 231) (by decide) rfl (v := .ref (G.2.2.1 + 263)) (rd_54 hI6) dX12_cut_38 ?_
        refine lv_aload_n hx hb dX12_cut_41 rfl (lv_at hl 1 rfl) ?_
        refine lv_iconst (v := iv 0) hx hb dX12_cut_42 (by decide) ?_
        refine lv_iload_n hx hb dX12_cut_43 rfl (lv_at hl 0 rfl) ?_
        refine sBi (sV (As := [.int (iv 0), .int (iv j)]) (rest := [.ref (G.2.2.1 + 263), .int (iv 0), .ref (G.2.2.1 + 237), .int (iv 0), .ref (G.2.2.1 + 264), .int (iv qd), .ref (G.2.2.1 + 262), .ref (G.2.2.1 + 231)]) (k := 231) Cx (s_X12_cell l G S6 (i := 0) (j := j) (by omega) (by omega)) (c_X12_529 Cx rfl rfl (rmk_ok (by omega) (by decide))) hW (by decide) rfl rfl rfl hl.1 rfl (Nat.le_of_ble_eq_true rfl) dX12_cut_44 ⟨Nat.le_of_ble_eq_true rfl, Nat.le_of_ble_eq_true rfl⟩) hL (fun qf u_112 H locs k_113 hW hL => ?_)
        obtain ⟨eu_112, xu_112⟩ := k_113
        rw [eu_112] at hW
        have hbp47 : 0 < S6.2.1 264 0 := by rw [show S6.2.1 264 = S.2.1 264 from (funext fun j => ((hL6_ 264 rfl).2.1 j).trans ((fu_1 264 rfl).2.1 j))]; exact hG.1.2.1.2.2.1.sgn.2.1.mp hG.1.2.1.2.2.2
        refine sBv (sV (As := [.ref (G.2.2.1 + 262), .int (iv qd), .ref (G.2.2.1 + 264), .int (iv 0), .ref (G.2.2.1 + 237), .int (iv 0), .ref (G.2.2.1 + 263), .int (iv qf)]) (rest := []) (k := 231) Cx (s_X12_divide l G S6 (ka := 262) (po := qd) (kb := 264) (qo := 0) (kc := 237) (ro := 0) (kd := 263) (eo := qf) (Nka := 5280) (Nkb := 8) (Nkc := 68) (Nkd := 5280) (La := 6) (Lb := 6) (Ld := 7) hI6 ⟨rfl, by decide, by decide, by decide, rfl⟩ ⟨rfl, by decide, by decide, by decide, rfl⟩ ⟨rfl, by decide, by decide, by decide, rfl⟩ ⟨rfl, by decide, by decide, by decide, rfl⟩ (show (237 : Nat) ≠ 262 by decide) (show (263 : Nat) ≠ 262 by decide) (show (237 : Nat) ≠ 264 by decide) (show (263 : Nat) ≠ 264 by decide) (show (237 : Nat) ≠ 263 by decide) (show (262 : Nat) ≠ 233 by decide) (show (264 : Nat) ≠ 233 by decide) (show (264 : Nat) ≠ 234 by decide) (show (264 : Nat) ≠ 235 by decide) (show (237 : Nat) ≠ 233 by decide) (show (237 : Nat) ≠ 234 by decide) (show (237 : Nat) ≠ 235 by decide) (show (263 : Nat) ≠ 233 by decide) (show (263 : Nat) ≠ 234 by decide) (show (263 : Nat) ≠ 235 by decide) (by omega) (by omega) (by rw [show S6.2.1 262 = S.2.1 262 from (funext fun j => ((hL6_ 262 rfl).2.1 j).trans ((fu_1 262 rfl).2.1 j))]; exact hG.1.2.1.at (i := rr + 1) (j := j) (by omega) (by omega) (by omega) (by omega)) (by rw [show S6.2.1 264 = S.2.1 264 from (funext fun j => ((hL6_ 264 rfl).2.1 j).trans ((fu_1 264 rfl).2.1 j))]; exact hG.1.2.1.2.2.1)) (c_X12_266 Cx rfl rfl (rmk_ok (by omega) (by decide))) hW (by decide) rfl rfl rfl hl.1 rfl (Nat.le_of_ble_eq_true rfl) dX12_cut_47 ⟨Nat.le_of_ble_eq_true rfl, Nat.le_of_ble_eq_true rfl⟩) hL (fun u_114 H locs k_115 hW hL => ?_)
        obtain ⟨iu_114, fu_114, xu_114⟩ := k_115
        have F_116 := hFm6.trans (fu_114.to (pl_sub (by decide)))
        have F_117 := hL6_.trans (fu_114.to (pl_sub (by decide)))
        have g_118 : FF S u_114 (fl [6, 58, 59, 61, 62, 63, 65, 66, 67, 69, 78, 79, 84, 86]) := FF.fr hGm6 fu_114 rfl
        have g_119 : FF u_1 u_114 (fl []) := FF.fr gL6_ fu_114 rfl
        have hdl : nv (u_114.2.1 263) qf < nv (S.2.1 264) 0 := by have e8 := xu_114.2.2.1.2.2; rw [show S6.2.1 264 = S.2.1 264 from (funext fun j => ((hL6_ 264 rfl).2.1 j).trans ((fu_1 264 rfl).2.1 j))] at e8; exact e8
        have hd6 : NO (u_114.2.1 263) qf 6 := xu_114.2.1.less (g := S.2.1 264) (q := 0) hG.1.2.1.2.2.1 xu_114.2.2.1.2.1 hdl
        have join_98 : ∀ (S98 : sS)  (H : Heap) (locs : List Loc) (ls : Array Slot), (dX G S98) → (Fr S S98 (pl [231, 233, 234, 235, 236, 237, 238, 239, 240, 241, 242, 261, 262, 263, 264, 265, 266, 267, 268, 269, 270, 271, 272, 273, 274, 275, 276, 277, 278, 279, 280, 281])) → (Fr u_1 S98 (pl [233, 234, 235, 237, 263, 278])) → (Fr u_114 S98 (pl [278])) → (FF S S98 (fl [6, 58, 59, 61, 62, 63, 65, 66, 67, 69, 78, 79, 84, 86])) → (FF u_1 S98 (fl [])) → (FF u_114 S98 (fl [])) → (MC (nv (S.2.1 264) 0) S98) → sW G 294 S98 H → sL G locs → lv_has ls 5 [(2, .int (iv j)), (0, .ref (G.2.2.1 + 231)), (1, .int (iv rr))] → W p l e (rmk 7 0 0) s m args below meth c H locs 0 0 (MQ below (sQv G 294 (fun u => dX G u ∧ Fr S u (pl [231, 233, 234, 235, 236, 237, 238, 239, 240, 241, 242, 261, 262, 263, 264, 265, 266, 267, 268, 269, 270, 271, 272, 273, 274, 275, 276, 277, 278, 279, 280, 281]) ∧ FF S u (fl [6, 58, 59, 61, 62, 63, 65, 66, 67, 69, 78, 79, 84, 86]) ∧ (LD S u))) args s 0 0 (sF G)) (F0 m 98 ls []) := by
          intro S98  H locs ls hI98 hFm98 hFL698 hL98_ hGm98 hGL698 gL98_ hM98 hW hL hl
          refine lv_iinc (v := iv (j + 1)) (lv' := [(2, .int (iv (j + 1))), (0, .ref (G.2.2.1 + 231)), (1, .int (iv rr))]) hx hb dX12_cut_98 hl (k := 0) rfl ((Int32.ofInt_add _ _).symm) (by decide) rfl (fun ls hl => ?_)
          refine lv_goto (tgt := 6) hx hb dX12_cut_101 (by decide) ?_
          exact ih_6 S98 (j + 1) _ _ _ (by omega) hI98 hFm98 hFL698 hGm98 hGL698 (by omega) hM98 (fun b b0 b1 => by rw [show S98.2.1 263 = u_114.2.1 263 from (funext fun j => (hL98_ 263 rfl).2.1 j)]; by_cases z : b = j; (rw [z, show 8 * j = qf by omega]; exact hd6); exact ((hF6 b b0 (by omega)).same (g := u_114.2.1 263) (fun x x0 x1 => xu_114.2.2.2.2 x (by omega))).1) hW hL (lv_sub hl [0, 1, 2] rfl)
        refine lv_iload_n hx hb dX12_cut_50 rfl (lv_at hl 0 rfl) ?_
        refine r_if_le (tgt := 98) hx hb ⟨(by omega), (by omega)⟩ dX12_cut_51 (by decide) (fun c_120 => ?_) (fun c_120 => ?_)
        · exact join_98 u_114  _ _ _ iu_114 F_116 F_117 (Fr.rf : Fr u_114 u_114 (pl [278])) g_118 g_119 (FF.rf : FF u_114 u_114 (fl [])) (by intro k a b; rw [show u_114.2.1 278 = S6.2.1 278 from (funext fun j => (fu_114 278 rfl).2.1 j)]; exact hM6 k a b) hW hL (lv_sub hl [0, 1, 2] rfl)
        · have hoj := hG.1.2.2.1.2 j (by omega) (by omega)
          refine lv_aload_n hx hb dX12_cut_54 rfl (lv_at hl 1 rfl) ?_
          refine g_X12_115 Cx hW (k := 231) (by decide) rfl (v := .ref (G.2.2.1 + 266)) (rd_57 iu_114) dX12_cut_55 ?_
          refine lv_iload_n hx hb dX12_cut_58 rfl (lv_at hl 0 rfl) ?_
          refine rIald Cx hW (k := 266) (by decide) rfl (by decide) (by omega) (by omega) dX12_cut_59 ?_
          have q_121 : (-2147483648) ≤ S.2.1 266 j ∧ S.2.1 266 j ≤ 2147483647 := hI.ai 266 j
          refine r_i (b := S.2.1 266 j) (((fu_114 266 rfl).2.1 j).trans (((hL6_ 266 rfl).2.1 j).trans ((fu_1 266 rfl).2.1 j))) ?_
          refine lv_aload_n hx hb dX12_cut_60 rfl (lv_at hl 1 rfl) ?_
          have q_122 : (-2147483648) ≤ S.1 231 46 ∧ S.1 231 46 ≤ 2147483647 := hI.fi 46
          refine g_X12_465 Cx hW (k := 231) (by decide) rfl (v := S.1 231 46) (((fu_114 231 rfl).1 46).trans ((gL6_ 46 rfl).trans (gu_1 46 rfl))) dX12_cut_61 ?_
          refine r_icmp_le (tgt := 98) hx hb ⟨(by omega), (by omega)⟩ ⟨(by omega), (by omega)⟩ dX12_cut_64 (by decide) (fun c_123 => ?_) (fun c_123 => ?_)
          · exact join_98 u_114  _ _ _ iu_114 F_116 F_117 (Fr.rf : Fr u_114 u_114 (pl [278])) g_118 g_119 (FF.rf : FF u_114 u_114 (fl [])) (by intro k a b; rw [show u_114.2.1 278 = S6.2.1 278 from (funext fun j => (fu_114 278 rfl).2.1 j)]; exact hM6 k a b) hW hL (lv_sub hl [0, 1, 2] rfl)
          · refine lv_aload_n hx hb dX12_cut_67 rfl (lv_at hl 1 rfl) ?_
            refine g_X12_106 Cx hW (k := 231) (by decide) rfl (v := .ref (G.2.2.1 + 263)) (rd_54 iu_114) dX12_cut_68 ?_
            refine lv_aload_n hx hb dX12_cut_71 rfl (lv_at hl 1 rfl) ?_
            refine lv_iconst (v := iv 0) hx hb dX12_cut_72 (by decide) ?_
            refine lv_iload_n hx hb dX12_cut_73 rfl (lv_at hl 0 rfl) ?_
            refine sBi (sV (As := [.int (iv 0), .int (iv j)]) (rest := [.ref (G.2.2.1 + 263)]) (k := 231) Cx (s_X12_cell l G u_114 (i := 0) (j := j) (by omega) (by omega)) (c_X12_529 Cx rfl rfl (rmk_ok (by omega) (by decide))) hW (by decide) rfl rfl rfl hl.1 rfl (Nat.le_of_ble_eq_true rfl) dX12_cut_74 ⟨Nat.le_of_ble_eq_true rfl, Nat.le_of_ble_eq_true rfl⟩) hL (fun qg u_124 H locs k_125 hW hL => ?_)
            obtain ⟨eu_124, xu_124⟩ := k_125
            rw [eu_124] at hW
            refine lv_aload_n hx hb dX12_cut_77 rfl (lv_at hl 1 rfl) ?_
            refine g_X12_154 Cx hW (k := 231) (by decide) rfl (v := .ref (G.2.2.1 + 278)) (rd_88 iu_114) dX12_cut_78 ?_
            refine lv_bipush (v := iv 8) hx hb dX12_cut_81 (by decide) ?_
            refine lv_aload_n hx hb dX12_cut_83 rfl (lv_at hl 1 rfl) ?_
            refine g_X12_115 Cx hW (k := 231) (by decide) rfl (v := .ref (G.2.2.1 + 266)) (rd_57 iu_114) dX12_cut_84 ?_
            refine lv_iload_n hx hb dX12_cut_87 rfl (lv_at hl 0 rfl) ?_
            refine rIald Cx hW (k := 266) (by decide) rfl (by decide) (by omega) (by omega) dX12_cut_88 ?_
            refine r_i (b := S.2.1 266 j) (((fu_114 266 rfl).2.1 j).trans (((hL6_ 266 rfl).2.1 j).trans ((fu_1 266 rfl).2.1 j))) ?_
            refine lv_aload_n hx hb dX12_cut_89 rfl (lv_at hl 1 rfl) ?_
            refine g_X12_465 Cx hW (k := 231) (by decide) rfl (v := S.1 231 46) (((fu_114 231 rfl).1 46).trans ((gL6_ 46 rfl).trans (gu_1 46 rfl))) dX12_cut_90 ?_
            refine r_isub hx hb dX12_cut_93 ?_
            refine r_imul hx hb dX12_cut_94 ?_
            refine sBv (sSt (As := [.ref (G.2.2.1 + 263), .int (iv qg), .ref (G.2.2.1 + 278), .int (iv (8 * ((S.2.1 266 j) - (S.1 231 46))))]) (rest := []) Cx (s_X12_copy l G u_114 (ka := 263) (po := qg) (kb := 278) (qo := 8 * ((S.2.1 266 j) - (S.1 231 46))) (Nka := 5280) (Nkb := 336) (La := 6) iu_114 ⟨rfl, by decide, by decide, by decide, rfl⟩ ⟨rfl, by decide, by decide, by decide, rfl⟩ (show (278 : Nat) ≠ 263 by decide) (by omega) (by rw [show qg = qf by omega]; exact hd6)) (c_X12_233 Cx rfl rfl (rmk_ok (by omega) (by decide))) hW rfl hl.1 rfl (Nat.le_of_ble_eq_true rfl) dX12_cut_95 ⟨Nat.le_of_ble_eq_true rfl, Nat.le_of_ble_eq_true rfl⟩) hL (fun u_126 H locs k_127 hW hL => ?_)
            obtain ⟨iu_126, fu_126, xu_126⟩ := k_127
            have F_128 := F_116.trans (fu_126.to (p1_sub rfl))
            have F_129 := F_117.trans (fu_126.to (p1_sub rfl))
            have F_130 := (Fr.rf : Fr u_114 u_114 (pl [278])).trans (fu_126.to (p1_sub rfl))
            have g_131 : FF S u_126 (fl [6, 58, 59, 61, 62, 63, 65, 66, 67, 69, 78, 79, 84, 86]) := FF.fr g_118 fu_126 rfl
            have g_132 : FF u_1 u_126 (fl []) := FF.fr g_119 fu_126 rfl
            have g_133 : FF u_114 u_126 (fl []) := FF.fr (FF.rf : FF u_114 u_114 (fl [])) fu_126 rfl
            exact join_98 u_126  _ _ _ iu_126 F_128 F_129 F_130 g_131 g_132 g_133 (fun k a b => if e : k = S.2.1 266 j - S.1 231 46 then (by rw [show 8 * k = 8 * (S.2.1 266 j - S.1 231 46) by omega]; refine ⟨xu_126.1.1, ?_⟩; rw [xu_126.1.2.1, show qg = qf by omega]; exact ⟨xu_114.2.2.1.2.1, hdl⟩) else (by have e8 := (hM6 k a b).1.same (g := u_126.2.1 278) (fun x x0 x1 => by rw [xu_126.2 x (c8_far e ⟨x0, x1⟩)]; exact (fu_114 278 rfl).2.1 x); refine ⟨e8.1, ?_⟩; rw [e8.2]; exact (hM6 k a b).2)) hW hL (lv_sub hl [0, 1, 2] rfl)
  exact loop_6 (_ + 1) u_1 0 _ _ _ (Nat.lt_succ_self _) iu_1 F_3 Fr.rf g_4 FF.rf (by omega) (fun k a b => ⟨NO_z (xu_1 k a b) (by omega), (by rw [nv_z (xu_1 k a b)]; exact ⟨Int.le_refl _, hG.1.2.1.2.2.2⟩)⟩) (fun b b0 b1 => absurd b1 (by omega)) hW hL (lv_sub hl [0, 1, 2] rfl)
