def pJ (k : Nat) : Bool := Nat.beq k 135 || Nat.beq k 140
theorem pJ_X : ∀ k, pJ k = true → pX k = true := fun k h => by
  rw [pJ, Bool.or_eq_true] at h
  rcases h with h | h <;> (rw [Nat.eq_of_beq_eq_true h]; rfl)
theorem uC_ne {S : sS} {k0 k1 a : Nat} {sp dp n j : Int} (h : a ≠ k1) : (uC S k0 sp k1 dp n).2.1 a j = S.2.1 a j := if_neg (fun q => h q.1)
theorem uD_ne {S : sS} {k0 k1 a : Nat} {sp dp n j : Int} (h : a ≠ k1) : (uD S k0 sp k1 dp n).2.2.1 a j = S.2.2.1 a j := if_neg (fun q => h q.1)
theorem rfL_no : ∀ q ∈ rfL, ¬ (q.1 = 135 ∧ q.2.1 = 0) ∧ ¬ (q.1 = 135 ∧ q.2.1 = 1) := by decide
theorem cX.swap {G : sG} {S : sS} {x y : Nat} {b : Int} {oc od : Nat} (h : cX G S x y b) (h0 : S.2.2.2 135 0 = .ref (G.2.2.1 + oc)) (h1 : S.2.2.2 135 1 = .ref (G.2.2.1 + od)) : cX G (uR (uR S 135 0 (.ref (G.2.2.1 + od))) 135 1 (.ref (G.2.2.1 + oc))) x y b := by
  have e0 : (uR (uR S 135 0 (.ref (G.2.2.1 + od))) 135 1 (.ref (G.2.2.1 + oc))).2.2.2 135 0 = .ref (G.2.2.1 + od) := (uR_ne (by decide)).trans uR_on
  have e1 : (uR (uR S 135 0 (.ref (G.2.2.1 + od))) 135 1 (.ref (G.2.2.1 + oc))).2.2.2 135 1 = .ref (G.2.2.1 + oc) := uR_on
  have en : ∀ k i, ¬ (k = 135 ∧ i = 0) → ¬ (k = 135 ∧ i = 1) → (uR (uR S 135 0 (.ref (G.2.2.1 + od))) 135 1 (.ref (G.2.2.1 + oc))).2.2.2 k i = S.2.2.2 k i := fun k i q1 q2 => (uR_ne q2).trans (uR_ne q1)
  have eo : ∀ k i, k ≠ 135 → (uR (uR S 135 0 (.ref (G.2.2.1 + od))) 135 1 (.ref (G.2.2.1 + oc))).2.2.2 k i = S.2.2.2 k i := fun k i q => en k i (fun z => q z.1) (fun z => q z.1)
  obtain ⟨m1, ⟨m2, m3, m4⟩, ⟨m5, m6, m7⟩, ⟨m8, m9, m10⟩, m11, m12⟩ := h.rm
  have nt : ∀ {o ci : Nat}, tau o = .inl ci → ci ≠ 2 → o ≠ 135 := fun ht hc e => by rw [e, tau135] at ht; cases ht; exact hc rfl
  refine ⟨h.1, ⟨fun q hq => by rw [en _ _ (rfL_no q hq).1 (rfL_no q hq).2]; exact h.ri q hq, ⟨fun o ho => by rw [eo _ _ (nt ho (by decide))]; exact h.rq.1 o ho, fun o hl ho => by rw [eo _ _ (nt ho (by decide))]; exact h.rq.2.1 o hl ho, fun o hl ho => by rw [eo _ _ (nt ho (by decide)), eo _ _ (nt ho (by decide))]; exact h.rq.2.2 o hl ho⟩, fun i hi => by rw [eo _ _ (by decide), eo _ _ (by decide), eo _ _ (by decide)]; exact h.r2 i hi, ?_⟩, h.nb, h.ns, h.ub, h.ko⟩
  refine ⟨by rw [eo _ _ (by decide), eo _ _ (by decide)]; exact m1, ⟨m2, m3, by rw [eo _ _ (by decide)]; exact m4⟩, ⟨m5, m6, by rw [eo _ _ (by decide)]; exact m7⟩, ⟨m8, m9, by rw [eo _ _ (by decide)]; exact m10⟩, ?_, by rw [eo _ _ (by decide)]; exact m12⟩
  rw [e0, e1]
  rcases m11 with q | q
  · right; rw [h0] at q; rw [h1] at q; exact ⟨q.2, q.1⟩
  · left; rw [h0] at q; rw [h1] at q; exact ⟨q.2, q.1⟩
theorem keepK {S : sS} {oc : Nat} {e r p q u d2 d3 i1 i2 i3 en : Int} {n : Nat} (h : KOn n (S.2.1 140) e) (he : 0 ≤ e) (hoc : dc oc) (hr : 0 ≤ r ∧ r ≤ 40) (hp : 0 ≤ p ∧ p ≤ 13) (hq : -1 ≤ q ∧ q ≤ 40) (hu : u = (r + 3) * 112) (hd2 : d2 = e + u) (hd3 : d3 = e + u + r) (h3 : i3 = e + u + r + p) (h2 : i2 = e + u + r + p + 1) (h1 : i1 = e + u + r + p + 2) (hen : en = e + u + r + p + 3) (hk : ∀ j, -2147483648 ≤ S.2.1 140 j ∧ S.2.1 140 j ≤ 2147483647) (hb : ∀ j, -2147483648 ≤ S.2.1 138 j ∧ S.2.1 138 j ≤ 2147483647) (hf : ∀ j, -2147483648 ≤ S.2.1 139 j ∧ S.2.1 139 j ≤ 2147483647) (hc : ∀ j, -2147483648 ≤ S.2.1 oc j ∧ S.2.1 oc j ≤ 2147483647) (h0 : 0 ≤ S.2.1 oc 0) (hs : ∀ a, a % 8 = 0 → 0 ≤ a → a + 7 < u → SlotOK (S.2.1 oc) a 6 999999999) :
    ∃ n, KOn n ((uA (uA (uA (uC (uC (uC S oc 0 140 e u) 138 1 140 d2 r) 139 1 140 d3 p) 140 i3 q) 140 i2 r) 140 i1 p).2.1 140) en := by
  have no : oc ≠ 140 := by rcases hoc with z | z <;> omega
  have g1 : ∀ j, j < i3 → (uA (uA (uA (uC (uC (uC S oc 0 140 e u) 138 1 140 d2 r) 139 1 140 d3 p) 140 i3 q) 140 i2 r) 140 i1 p).2.1 140 j = (uC (uC (uC S oc 0 140 e u) 138 1 140 d2 r) 139 1 140 d3 p).2.1 140 j := fun j hj => (uA_ne (by omega)).trans ((uA_ne (by omega)).trans (uA_ne (by omega)))
  have g2 : ∀ j, j < d2 → (uC (uC (uC S oc 0 140 e u) 138 1 140 d2 r) 139 1 140 d3 p).2.1 140 j = (uC S oc 0 140 e u).2.1 140 j := fun j hj => (if_neg (by omega)).trans (if_neg (by omega))
  refine ⟨n + 1, ?_⟩
  subst hu
  rw [hen]
  refine KOn.more (f := S.2.1 140) (q := q) h he hr hp hq (fun i i0 i1' => by rw [g1 i (by omega), g2 i (by omega)]; exact if_neg (by omega)) ?_ (by rw [← h3]; exact (uA_ne (by omega)).trans ((uA_ne (by omega)).trans uA_on)) (by rw [← h2]; exact (uA_ne (by omega)).trans uA_on) (by rw [← h1]; exact uA_on) ?_ ?_
  · intro i
    rw [uA_get]; split
    · omega
    · rw [uA_get]; split
      · omega
      · rw [uA_get]; split
        · omega
        · rw [uC_get]; split
          · rw [uC_get, if_neg (fun z => absurd z.1 (by decide)), uC_get, if_neg (fun z => absurd z.1 (by decide))]; exact hf _
          · rw [uC_get]; split
            · rw [uC_get, if_neg (fun z => absurd z.1 (by decide))]; exact hb _
            · rw [uC_get]; split
              · exact hc _
              · exact hk _
  · rw [g1 e (by omega), g2 e (by omega), uC_get, if_pos ⟨rfl, by omega, by omega⟩, show (0 : Int) + (e - e) = 0 by omega]; exact h0
  · intro a a0 a1 a2
    refine (hs a a0 a1 (by omega)).cg (by decide) (fun i i0 i1' => ?_)
    rw [g1 (e + i) (by omega), g2 (e + i) (by omega), uC_get, if_pos ⟨rfl, by omega, by omega⟩, show (0 : Int) + (e + i - e) = i by omega]
theorem KOn.op {n : Nat} {f : Int → Int} {e : Int} (h : KOn n f e) (he : 3 ≤ e) : (0 ≤ f (e - 2) ∧ f (e - 2) ≤ 40) ∧ (0 ≤ f (e - 1) ∧ f (e - 1) ≤ 13) ∧ (-1 ≤ f (e - 3) ∧ f (e - 3) ≤ 40) ∧ 0 ≤ e - 3 - f (e - 1) - f (e - 2) - (f (e - 2) + 3) * 112 ∧ 0 ≤ f (e - 3 - f (e - 1) - f (e - 2) - (f (e - 2) + 3) * 112) ∧ (∀ a, a % 8 = 0 → 0 ≤ a → a + 7 < (f (e - 2) + 3) * 112 → SlotOK (fun i => f (e - 3 - f (e - 1) - f (e - 2) - (f (e - 2) + 3) * 112 + i)) a 6 999999999) ∧ ∃ m, KOn m f (e - 3 - f (e - 1) - f (e - 2) - (f (e - 2) + 3) * 112) := by
  cases n with
  | zero => exact absurd (show e = 0 from h) (by omega)
  | succ n =>
    rcases h with h | ⟨h1, h2, h3, h4, h5, h5b, h6, h7, h8⟩
    · omega
    · exact ⟨h2, h3, h4, h5, h5b, h7, n, h8⟩
set_option maxRecDepth 100000 in
set_option maxHeartbeats 4000000 in
theorem s_X2_pivot (l : Launch) (G : sG) (S : sS)  (hI : cX G S 0 0 0) : Met l yX2_pivot (.code yX2_pivot cX2_pivot 4 (some .boolean) :: tb) (rmk 7 0 0) (sPc G 294 S [.ref (G.2.2.1 + 135)]) (sQi G 294 (fun r u => cX G u 0 0 0 ∧ Fr S u pX ∧ (0 ≤ r ∧ r ≤ 1))) 0 0 (sF G) := by
  refine sEnter (by decide) (Nat.le_of_ble_eq_true rfl) ?_
  intro p e s m args below meth c Cx hr hlk hnm hW ls hl
  have Cx : sC G p m c cX2_pivot 4 s args RX2 := Cx
  obtain ⟨hx, hb, hml, hown, hts⟩ := id Cx.1
  have hL : sL G [] := sL_nil
  have hl : lv_has ls 4 [(0, .ref (G.2.2.1 + 135))] := hl
  have hW0 := hW
  refine lv_aload_n hx hb dX2_pivot_0 rfl (lv_at hl 0 rfl) ?_
  have q_1 : (-1) ≤ S.1 135 17 ∧ S.1 135 17 ≤ 40 := hI.fi 135 17 2 (by decide) rfl
  refine g_X2_147 Cx hW (k := 135) (by decide) rfl (v := S.1 135 17) rfl dX2_pivot_1 ?_
  refine lv_iconst (v := iv 1) hx hb dX2_pivot_4 (by decide) ?_
  refine r_icmp_lt (tgt := 31) hx hb ⟨(by omega), (by omega)⟩ ⟨(by omega), (by omega)⟩ dX2_pivot_5 (by decide) (fun c_2 => ?_) (fun c_2 => ?_)
  · refine lv_iconst (v := iv 0) hx hb dX2_pivot_31 (by decide) ?_
    exact sZret Cx hr hlk hW hL (by omega) ⟨hI, (Fr.rf : Fr S S pX), (by omega)⟩ dX2_pivot_32
  · refine lv_aload_n hx hb dX2_pivot_8 rfl (lv_at hl 0 rfl) ?_
    have q_3 : (-1) ≤ S.1 135 18 ∧ S.1 135 18 ≤ 13 := hI.fi 135 18 2 (by decide) rfl
    refine g_X2_131 Cx hW (k := 135) (by decide) rfl (v := S.1 135 18) rfl dX2_pivot_9 ?_
    refine lv_iconst (v := iv 1) hx hb dX2_pivot_12 (by decide) ?_
    refine r_icmp_lt (tgt := 31) hx hb ⟨(by omega), (by omega)⟩ ⟨(by omega), (by omega)⟩ dX2_pivot_13 (by decide) (fun c_4 => ?_) (fun c_4 => ?_)
    · refine lv_iconst (v := iv 0) hx hb dX2_pivot_31 (by decide) ?_
      exact sZret Cx hr hlk hW hL (by omega) ⟨hI, (Fr.rf : Fr S S pX), (by omega)⟩ dX2_pivot_32
    · refine lv_aload_n hx hb dX2_pivot_16 rfl (lv_at hl 0 rfl) ?_
      refine lv_aload_n hx hb dX2_pivot_17 rfl (lv_at hl 0 rfl) ?_
      refine g_X2_147 Cx hW (k := 135) (by decide) rfl (v := S.1 135 17) rfl dX2_pivot_18 ?_
      refine lv_aload_n hx hb dX2_pivot_21 rfl (lv_at hl 0 rfl) ?_
      refine g_X2_131 Cx hW (k := 135) (by decide) rfl (v := S.1 135 18) rfl dX2_pivot_22 ?_
      refine sBi (sV (As := [.int (iv (S.1 135 17)), .int (iv (S.1 135 18))]) (rest := []) (k := 135) Cx (s_X2_sign l G S (i := S.1 135 17) (j := S.1 135 18) hI (by omega) (by omega)) (c_X2_95 Cx rfl rfl (rmk_ok (by omega) (by decide))) hW (by decide) rfl rfl rfl hl.1 rfl (Nat.le_of_ble_eq_true rfl) dX2_pivot_25 ⟨Nat.le_of_ble_eq_true rfl, Nat.le_of_ble_eq_true rfl⟩) hL (fun r_7 u_5 H locs k_6 hW hL => ?_)
      obtain ⟨eu_5, xu_5⟩ := k_6
      rw [eu_5] at hW
      refine r_if_ne (tgt := 33) hx hb ⟨(by omega), (by omega)⟩ dX2_pivot_28 (by decide) (fun c_8 => ?_) (fun c_8 => ?_)
      · refine lv_aload_n hx hb dX2_pivot_33 rfl (lv_at hl 0 rfl) ?_
        refine lv_aload_n hx hb dX2_pivot_34 rfl (lv_at hl 0 rfl) ?_
        refine g_X2_147 Cx hW (k := 135) (by decide) rfl (v := S.1 135 17) rfl dX2_pivot_35 ?_
        refine lv_aload_n hx hb dX2_pivot_38 rfl (lv_at hl 0 rfl) ?_
        refine g_X2_131 Cx hW (k := 135) (by decide) rfl (v := S.1 135 18) rfl dX2_pivot_39 ?_
        refine sBi (sV (As := [.int (iv (S.1 135 17)), .int (iv (S.1 135 18))]) (rest := []) (k := 135) Cx (s_X2_sign l G S (i := S.1 135 17) (j := S.1 135 18) hI (by omega) (by omega)) (c_X2_95 Cx rfl rfl (rmk_ok (by omega) (by decide))) hW (by decide) rfl rfl rfl hl.1 rfl (Nat.le_of_ble_eq_true rfl) dX2_pivot_42 ⟨Nat.le_of_ble_eq_true rfl, Nat.le_of_ble_eq_true rfl⟩) hL (fun r_11 u_9 H locs k_10 hW hL => ?_)
        obtain ⟨eu_9, xu_9⟩ := k_10
        rw [eu_9] at hW
        refine lv_istore_n (lv' := [(1, .int (iv r_11)), (0, .ref (G.2.2.1 + 135))]) hx hb dX2_pivot_45 rfl hl (by decide) rfl (fun ls hl => ?_)
        refine lv_aload_n hx hb dX2_pivot_46 rfl (lv_at hl 1 rfl) ?_
        refine g_X2_31 Cx hW (k := 135) (by decide) rfl (v := .ref (G.2.2.1 + 141)) (rf_135_5 hI) dX2_pivot_47 ?_
        refine lv_aload_n hx hb dX2_pivot_50 rfl (lv_at hl 1 rfl) ?_
        obtain ⟨o_12, o_13, mo_12, mo_13, no_12, eo_12, eo_13⟩ := rm_135 hI
        refine g_X2_13 Cx hW (k := 135) (by decide) rfl (v := .ref (G.2.2.1 + o_12)) eo_12 dX2_pivot_51 ?_
        refine lv_aload_n hx hb dX2_pivot_54 rfl (lv_at hl 1 rfl) ?_
        refine g_X2_147 Cx hW (k := 135) (by decide) rfl (v := S.1 135 17) rfl dX2_pivot_55 ?_
        refine lv_aload_n hx hb dX2_pivot_58 rfl (lv_at hl 1 rfl) ?_
        refine g_X2_131 Cx hW (k := 135) (by decide) rfl (v := S.1 135 18) rfl dX2_pivot_59 ?_
        refine sBi (sSt (As := [.int (iv (S.1 135 17)), .int (iv (S.1 135 18))]) (rest := [.ref (G.2.2.1 + o_12), .ref (G.2.2.1 + 141)]) Cx (s_X2_at l G S (i := S.1 135 17) (j := S.1 135 18) (by omega) (by omega)) (c_X2_77 Cx rfl rfl (rmk_ok (by omega) (by decide))) hW rfl hl.1 rfl (Nat.le_of_ble_eq_true rfl) dX2_pivot_62 ⟨Nat.le_of_ble_eq_true rfl, Nat.le_of_ble_eq_true rfl⟩) hL (fun r_16 u_14 H locs k_15 hW hL => ?_)
        obtain ⟨eu_14, xu_14⟩ := k_15
        rw [eu_14] at hW
        refine sBv (sV (As := [.ref (G.2.2.1 + o_12), .int (iv r_16)]) (rest := []) (k := 141) Cx (s_X0_load l G S (o := 141) (k := o_12) (a := r_16) (N := 4816) hI rfl (dic_a mo_12) (by omega)) (c_X2_106 Cx rfl rfl (rmk_ok (by omega) (by decide))) hW (by decide) rfl rfl rfl hl.1 rfl (Nat.le_of_ble_eq_true rfl) dX2_pivot_65 ⟨Nat.le_of_ble_eq_true rfl, Nat.le_of_ble_eq_true rfl⟩) hL (fun u_17 H locs k_18 hW hL => ?_)
        obtain ⟨iu_17, fu_17, xu_17⟩ := k_18
        have F_19 := (Fr.rf : Fr S S pX).trans (fu_17.to (pB_sub rfl rfl))
        have yu_17 : u_17.1 141 1 ≤ 6 := by have e := xu_17.1; rw [dic_L mo_12] at e; exact e
        refine lv_aload_n hx hb dX2_pivot_68 rfl (lv_at hl 1 rfl) ?_
        refine lv_aload_n hx hb dX2_pivot_69 rfl (lv_at hl 1 rfl) ?_
        refine g_X2_35 Cx hW (k := 135) (by decide) rfl (v := .ref (G.2.2.1 + 143)) (rf_135_6 iu_17) dX2_pivot_70 ?_
        refine sBv (sV (As := [.ref (G.2.2.1 + 143)]) (rest := []) (k := 135) Cx (s_X2_denominator l G u_17 (v := 143) iu_17 rfl) (c_X2_121 Cx rfl rfl (rmk_ok (by omega) (by decide))) hW (by decide) rfl rfl rfl hl.1 rfl (Nat.le_of_ble_eq_true rfl) dX2_pivot_73 ⟨Nat.le_of_ble_eq_true rfl, Nat.le_of_ble_eq_true rfl⟩) hL (fun u_20 H locs k_21 hW hL => ?_)
        obtain ⟨iu_20, fu_20, xu_20⟩ := k_21
        have F_22 := F_19.trans (fu_20.to (pB_sub rfl rfl))
        have join_88 : ∀ (i0 : Int) (H : Heap) (locs : List Loc) (ls : Array Slot), (-1 ≤ i0 ∧ i0 ≤ 0) → sW G 294 u_20 H → sL G locs → lv_has ls 4 [(1, .int (iv r_11)), (0, .ref (G.2.2.1 + 135))] → W p l e (rmk 7 0 0) s m args below meth c H locs 0 0 (MQ below (sQi G 294 (fun r u => cX G u 0 0 0 ∧ Fr S u pX ∧ (0 ≤ r ∧ r ≤ 1))) args s 0 0 (sF G)) (F0 m 88 ls [.int (iv i0)]) := by
          intro i0 H locs ls hi0 hW hL hl
          refine lv_istore_n (lv' := [(2, .int (iv i0)), (1, .int (iv r_11)), (0, .ref (G.2.2.1 + 135))]) hx hb dX2_pivot_88 rfl hl (by decide) rfl (fun ls hl => ?_)
          have loop_89 : ∀ (fuel : Nat) (S89 : sS) (i : Int) (H : Heap) (locs : List Loc) (ls : Array Slot), (41 - i).toNat < fuel → (cX G S89 0 0 0) → (Fr S S89 pX) → (Fr u_20 S89 pZ) → (-1 ≤ i ∧ i ≤ 41) → sW G 294 S89 H → sL G locs → lv_has ls 4 [(2, .int (iv i)), (1, .int (iv r_11)), (0, .ref (G.2.2.1 + 135))] → W p l e (rmk 7 0 0) s m args below meth c H locs 0 0 (MQ below (sQi G 294 (fun r u => cX G u 0 0 0 ∧ Fr S u pX ∧ (0 ≤ r ∧ r ≤ 1))) args s 0 0 (sF G)) (F0 m 89 ls []) := by
            intro fuel
            induction fuel with
            | zero => intro S89 i H locs ls hmeas hI89 hFm89 hL89_ hi hW hL hl; exact absurd hmeas (Nat.not_lt_zero _)
            | succ fuel ih_89 =>
              intro S89 i H locs ls hmeas hI89 hFm89 hL89_ hi hW hL hl
              refine lv_iload_n hx hb dX2_pivot_89 rfl (lv_at hl 0 rfl) ?_
              refine lv_aload_n hx hb dX2_pivot_90 rfl (lv_at hl 2 rfl) ?_
              have q_23 : 0 ≤ S.1 135 14 ∧ S.1 135 14 ≤ 40 := hI.fi 135 14 2 (by decide) rfl
              refine g_X2_66 Cx hW (k := 135) (by decide) rfl (v := S.1 135 14) (((hL89_ 135 rfl).1 14).trans (((fu_20 135 rfl).1 14).trans ((fu_17 135 rfl).1 14))) dX2_pivot_91 ?_
              refine r_icmp_gt (tgt := 122) hx hb ⟨(by omega), (by omega)⟩ ⟨(by omega), (by omega)⟩ dX2_pivot_94 (by decide) (fun c_24 => ?_) (fun c_24 => ?_)
              · refine lv_iconst (v := iv 0) hx hb dX2_pivot_122 (by decide) ?_
                refine lv_istore_n (lv' := [(2, .int (iv 0)), (1, .int (iv r_11)), (0, .ref (G.2.2.1 + 135))]) hx hb dX2_pivot_123 rfl hl (by decide) rfl (fun ls hl => ?_)
                have loop_124 : ∀ (fuel : Nat) (S124 : sS) (j : Int) (H : Heap) (locs : List Loc) (ls : Array Slot), (14 - j).toNat < fuel → (cX G S124 0 0 0) → (Fr S S124 pX) → (Fr u_20 S124 pZ) → (Fr S89 S124 pZ) → (0 ≤ j ∧ j ≤ 14) → sW G 294 S124 H → sL G locs → lv_has ls 4 [(2, .int (iv j)), (1, .int (iv r_11)), (0, .ref (G.2.2.1 + 135))] → W p l e (rmk 7 0 0) s m args below meth c H locs 0 0 (MQ below (sQi G 294 (fun r u => cX G u 0 0 0 ∧ Fr S u pX ∧ (0 ≤ r ∧ r ≤ 1))) args s 0 0 (sF G)) (F0 m 124 ls []) := by
                  intro fuel
                  induction fuel with
                  | zero => intro S124 j H locs ls hmeas hI124 hFm124 hFL89124 hL124_ hj hW hL hl; exact absurd hmeas (Nat.not_lt_zero _)
                  | succ fuel ih_124 =>
                    intro S124 j H locs ls hmeas hI124 hFm124 hFL89124 hL124_ hj hW hL hl
                    refine lv_iload_n hx hb dX2_pivot_124 rfl (lv_at hl 0 rfl) ?_
                    refine lv_aload_n hx hb dX2_pivot_125 rfl (lv_at hl 2 rfl) ?_
                    have q_25 : 0 ≤ S.1 135 15 ∧ S.1 135 15 ≤ 13 := hI.fi 135 15 2 (by decide) rfl
                    refine g_X2_67 Cx hW (k := 135) (by decide) rfl (v := S.1 135 15) (((hL124_ 135 rfl).1 15).trans (((hL89_ 135 rfl).1 15).trans (((fu_20 135 rfl).1 15).trans ((fu_17 135 rfl).1 15)))) dX2_pivot_126 ?_
                    refine r_icmp_gt (tgt := 158) hx hb ⟨(by omega), (by omega)⟩ ⟨(by omega), (by omega)⟩ dX2_pivot_129 (by decide) (fun c_26 => ?_) (fun c_26 => ?_)
                    · refine lv_aload_n hx hb dX2_pivot_158 rfl (lv_at hl 2 rfl) ?_
                      refine g_X2_35 Cx hW (k := 135) (by decide) rfl (v := .ref (G.2.2.1 + 143)) (rf_135_6 hI124) dX2_pivot_159 ?_
                      refine lv_iload_n hx hb dX2_pivot_162 rfl (lv_at hl 1 rfl) ?_
                      refine p_X2_145 Cx hW hL (k := 143) (by decide) rfl dX2_pivot_163 (fun H locs hW hL => ?_)
                      have F_27 : Fr S (uF S124 143 2 r_11) pX := hFm124.F rfl
                      have i_28 : cX G (uF S124 143 2 r_11) 0 0 0 := hI124.F rfl rfl (show (-1) ≤ r_11 ∧ r_11 ≤ 1 from ⟨by omega, by omega⟩)
                      refine lv_aload_n hx hb dX2_pivot_166 rfl (lv_at hl 2 rfl) ?_
                      refine g_X2_35 Cx hW (k := 135) (by decide) rfl (v := .ref (G.2.2.1 + 143)) (rf_135_6 i_28) dX2_pivot_167 ?_
                      refine lv_aload_n hx hb dX2_pivot_170 rfl (lv_at hl 2 rfl) ?_
                      refine g_X2_17 Cx hW (k := 135) (by decide) rfl (v := .ref (G.2.2.1 + o_13)) (((uF_r).trans (((hL124_ 135 rfl).2.2.2 1).trans (((hL89_ 135 rfl).2.2.2 1).trans (((fu_20 135 rfl).2.2.2 1).trans ((fu_17 135 rfl).2.2.2 1))))).trans eo_13) dX2_pivot_171 ?_
                      refine lv_aload_n hx hb dX2_pivot_174 rfl (lv_at hl 2 rfl) ?_
                      refine g_X2_147 Cx hW (k := 135) (by decide) rfl (v := S.1 135 17) ((uF_ne (fun h => absurd h.2 (by decide))).trans (((hL124_ 135 rfl).1 17).trans (((hL89_ 135 rfl).1 17).trans (((fu_20 135 rfl).1 17).trans ((fu_17 135 rfl).1 17))))) dX2_pivot_175 ?_
                      refine lv_aload_n hx hb dX2_pivot_178 rfl (lv_at hl 2 rfl) ?_
                      refine g_X2_131 Cx hW (k := 135) (by decide) rfl (v := S.1 135 18) ((uF_ne (fun h => absurd h.2 (by decide))).trans (((hL124_ 135 rfl).1 18).trans (((hL89_ 135 rfl).1 18).trans (((fu_20 135 rfl).1 18).trans ((fu_17 135 rfl).1 18))))) dX2_pivot_179 ?_
                      refine sBi (sSt (As := [.int (iv (S.1 135 17)), .int (iv (S.1 135 18))]) (rest := [.ref (G.2.2.1 + o_13), .ref (G.2.2.1 + 143)]) Cx (s_X2_at l G (uF S124 143 2 r_11) (i := S.1 135 17) (j := S.1 135 18) (by omega) (by omega)) (c_X2_77 Cx rfl rfl (rmk_ok (by omega) (by decide))) hW rfl hl.1 rfl (Nat.le_of_ble_eq_true rfl) dX2_pivot_182 ⟨Nat.le_of_ble_eq_true rfl, Nat.le_of_ble_eq_true rfl⟩) hL (fun r_31 u_29 H locs k_30 hW hL => ?_)
                      obtain ⟨eu_29, xu_29⟩ := k_30
                      rw [eu_29] at hW
                      have q_32 : 0 ≤ u_20.1 143 1 ∧ u_20.1 143 1 ≤ 32 := iu_20.fi 143 1 0 (by decide) rfl
                      have lk_33 : (uF S124 143 2 r_11).1 143 1 = u_20.1 143 1 := (uF_ne (fun h => absurd h.2 (by decide))).trans (((hL124_ 143 rfl).1 1).trans ((hL89_ 143 rfl).1 1))
                      have lk_34 : (uF S124 143 2 r_11).1 143 2 = r_11 := uF_on
                      refine sBv (sV (As := [.ref (G.2.2.1 + o_13), .int (iv r_31)]) (rest := []) (k := 143) Cx (s_X0_save l G (uF S124 143 2 r_11) (o := 143) (k := o_13) (a := r_31) (N := 4816) i_28 rfl (dic_a mo_13) (by omega) (dicSv mo_13 (by omega)) (fun _ q => by exfalso; omega)) (c_X2_154 Cx rfl rfl (rmk_ok (by omega) (by decide))) hW (by decide) rfl rfl rfl hl.1 rfl (Nat.le_of_ble_eq_true rfl) dX2_pivot_185 ⟨Nat.le_of_ble_eq_true rfl, Nat.le_of_ble_eq_true rfl⟩) hL (fun u_35 H locs k_36 hW hL => ?_)
                      obtain ⟨iu_35, fu_35⟩ := k_36
                      have F_37 := F_27.trans (fu_35.to (p1_sub ((fun k h => pF_X k (pZ_F k h)) _ (dic_z mo_13))))
                      refine lv_aload_n hx hb dX2_pivot_188 rfl (lv_at hl 2 rfl) ?_
                      refine g_X2_31 Cx hW (k := 135) (by decide) rfl (v := .ref (G.2.2.1 + 141)) (rf_135_5 iu_35) dX2_pivot_189 ?_
                      refine lv_iconst (v := iv 1) hx hb dX2_pivot_192 (by decide) ?_
                      refine p_X2_145 Cx hW hL (k := 141) (by decide) rfl dX2_pivot_193 (fun H locs hW hL => ?_)
                      have F_38 : Fr S (uF u_35 141 2 1) pX := F_37.F rfl
                      have i_39 : cX G (uF u_35 141 2 1) 0 0 0 := iu_35.F rfl rfl (show (-1) ≤ 1 ∧ 1 ≤ 1 from ⟨by omega, by omega⟩)
                      refine lv_aload_n hx hb dX2_pivot_196 rfl (lv_at hl 2 rfl) ?_
                      refine g_X2_31 Cx hW (k := 135) (by decide) rfl (v := .ref (G.2.2.1 + 141)) (rf_135_5 i_39) dX2_pivot_197 ?_
                      refine lv_aload_n hx hb dX2_pivot_200 rfl (lv_at hl 2 rfl) ?_
                      refine g_X2_17 Cx hW (k := 135) (by decide) rfl (v := .ref (G.2.2.1 + o_13)) (((uF_r).trans (((fu_35 135 (p1_no (tau_ne (rfl : tau 135 = .inl 2) (dic_t mo_13) (fun h => by cases h)))).2.2.2 1).trans ((uF_r).trans (((hL124_ 135 rfl).2.2.2 1).trans (((hL89_ 135 rfl).2.2.2 1).trans (((fu_20 135 rfl).2.2.2 1).trans ((fu_17 135 rfl).2.2.2 1))))))).trans eo_13) dX2_pivot_201 ?_
                      refine lv_bipush (v := iv (-2)) hx hb dX2_pivot_204 (by decide) ?_
                      refine lv_iconst (v := iv 0) hx hb dX2_pivot_206 (by decide) ?_
                      refine sBi (sSt (As := [.int (iv ((-2))), .int (iv 0)]) (rest := [.ref (G.2.2.1 + o_13), .ref (G.2.2.1 + 141)]) Cx (s_X2_at l G (uF u_35 141 2 1) (i := (-2)) (j := 0) (by omega) (by omega)) (c_X2_77 Cx rfl rfl (rmk_ok (by omega) (by decide))) hW rfl hl.1 rfl (Nat.le_of_ble_eq_true rfl) dX2_pivot_207 ⟨Nat.le_of_ble_eq_true rfl, Nat.le_of_ble_eq_true rfl⟩) hL (fun r_42 u_40 H locs k_41 hW hL => ?_)
                      obtain ⟨eu_40, xu_40⟩ := k_41
                      rw [eu_40] at hW
                      have q_43 : 0 ≤ u_17.1 141 1 ∧ u_17.1 141 1 ≤ 32 := iu_17.fi 141 1 0 (by decide) rfl
                      have lk_44 : (uF u_35 141 2 1).1 141 1 = u_17.1 141 1 := (uF_ne (fun h => absurd h.2 (by decide))).trans (((fu_35 141 (p1_no (tau_ne (rfl : tau 141 = .inl 0) (dic_t mo_13) (fun h => by cases h)))).1 1).trans ((uF_ne (fun h => absurd h.2 (by decide))).trans (((hL124_ 141 rfl).1 1).trans (((hL89_ 141 rfl).1 1).trans ((fu_20 141 rfl).1 1)))))
                      have lk_45 : (uF u_35 141 2 1).1 141 2 = 1 := uF_on
                      refine sBv (sV (As := [.ref (G.2.2.1 + o_13), .int (iv r_42)]) (rest := []) (k := 141) Cx (s_X0_save l G (uF u_35 141 2 1) (o := 141) (k := o_13) (a := r_42) (N := 4816) i_39 rfl (dic_a mo_13) (by omega) (dicSv mo_13 (by omega)) (fun _ _ => by omega)) (c_X2_154 Cx rfl rfl (rmk_ok (by omega) (by decide))) hW (by decide) rfl rfl rfl hl.1 rfl (Nat.le_of_ble_eq_true rfl) dX2_pivot_210 ⟨Nat.le_of_ble_eq_true rfl, Nat.le_of_ble_eq_true rfl⟩) hL (fun u_46 H locs k_47 hW hL => ?_)
                      obtain ⟨iu_46, fu_46⟩ := k_47
                      have F_48 := F_38.trans (fu_46.to (p1_sub ((fun k h => pF_X k (pZ_F k h)) _ (dic_z mo_13))))
                      refine lv_aload_n hx hb dX2_pivot_213 rfl (lv_at hl 2 rfl) ?_
                      refine g_X2_13 Cx hW (k := 135) (by decide) rfl (v := .ref (G.2.2.1 + o_12)) ((((fu_46 135 (p1_no (tau_ne (rfl : tau 135 = .inl 2) (dic_t mo_13) (fun h => by cases h)))).2.2.2 0).trans ((uF_r).trans (((fu_35 135 (p1_no (tau_ne (rfl : tau 135 = .inl 2) (dic_t mo_13) (fun h => by cases h)))).2.2.2 0).trans ((uF_r).trans (((hL124_ 135 rfl).2.2.2 0).trans (((hL89_ 135 rfl).2.2.2 0).trans (((fu_20 135 rfl).2.2.2 0).trans ((fu_17 135 rfl).2.2.2 0)))))))).trans eo_12) dX2_pivot_214 ?_
                      refine lv_astore_n (lv' := [(2, .ref (G.2.2.1 + o_12)), (1, .int (iv r_11)), (0, .ref (G.2.2.1 + 135))]) hx hb dX2_pivot_217 rfl hl (by decide) rfl (fun ls hl => ?_)
                      refine lv_aload_n hx hb dX2_pivot_218 rfl (lv_at hl 2 rfl) ?_
                      refine lv_aload_n hx hb dX2_pivot_219 rfl (lv_at hl 2 rfl) ?_
                      refine g_X2_17 Cx hW (k := 135) (by decide) rfl (v := .ref (G.2.2.1 + o_13)) ((((fu_46 135 (p1_no (tau_ne (rfl : tau 135 = .inl 2) (dic_t mo_13) (fun h => by cases h)))).2.2.2 1).trans ((uF_r).trans (((fu_35 135 (p1_no (tau_ne (rfl : tau 135 = .inl 2) (dic_t mo_13) (fun h => by cases h)))).2.2.2 1).trans ((uF_r).trans (((hL124_ 135 rfl).2.2.2 1).trans (((hL89_ 135 rfl).2.2.2 1).trans (((fu_20 135 rfl).2.2.2 1).trans ((fu_17 135 rfl).2.2.2 1)))))))).trans eo_13) dX2_pivot_220 ?_
                      refine p_X2_13 Cx hW hL (k := 135) (by decide) rfl dX2_pivot_223 (fun H locs hW hL => ?_)
                      have F_49 : Fr S (uR u_46 135 0 (.ref (G.2.2.1 + o_13))) pX := F_48.R rfl
                      refine lv_aload_n hx hb dX2_pivot_226 rfl (lv_at hl 2 rfl) ?_
                      refine lv_aload_n hx hb dX2_pivot_227 rfl (lv_at hl 0 rfl) ?_
                      refine p_X2_17 Cx hW hL (k := 135) (by decide) rfl dX2_pivot_228 (fun H locs hW hL => ?_)
                      have F_50 : Fr S (uR (uR u_46 135 0 (.ref (G.2.2.1 + o_13))) 135 1 (.ref (G.2.2.1 + o_12))) pX := F_49.R rfl
                      have i_51 : cX G (uR (uR u_46 135 0 (.ref (G.2.2.1 + o_13))) 135 1 (.ref (G.2.2.1 + o_12))) 0 0 0 := iu_46.swap ((((fu_46 135 (p1_no (tau_ne (rfl : tau 135 = .inl 2) (dic_t mo_13) (fun h => by cases h)))).2.2.2 0).trans ((uF_r).trans (((fu_35 135 (p1_no (tau_ne (rfl : tau 135 = .inl 2) (dic_t mo_13) (fun h => by cases h)))).2.2.2 0).trans ((uF_r).trans (((hL124_ 135 rfl).2.2.2 0).trans (((hL89_ 135 rfl).2.2.2 0).trans (((fu_20 135 rfl).2.2.2 0).trans ((fu_17 135 rfl).2.2.2 0)))))))).trans eo_12) ((((fu_46 135 (p1_no (tau_ne (rfl : tau 135 = .inl 2) (dic_t mo_13) (fun h => by cases h)))).2.2.2 1).trans ((uF_r).trans (((fu_35 135 (p1_no (tau_ne (rfl : tau 135 = .inl 2) (dic_t mo_13) (fun h => by cases h)))).2.2.2 1).trans ((uF_r).trans (((hL124_ 135 rfl).2.2.2 1).trans (((hL89_ 135 rfl).2.2.2 1).trans (((fu_20 135 rfl).2.2.2 1).trans ((fu_17 135 rfl).2.2.2 1)))))))).trans eo_13)
                      refine lv_aload_n hx hb dX2_pivot_231 rfl (lv_at hl 2 rfl) ?_
                      refine g_X2_20 Cx hW (k := 135) (by decide) rfl (v := .ref (G.2.2.1 + 138)) (rf_135_2 i_51) dX2_pivot_232 ?_
                      refine lv_aload_n hx hb dX2_pivot_235 rfl (lv_at hl 2 rfl) ?_
                      refine g_X2_147 Cx hW (k := 135) (by decide) rfl (v := S.1 135 17) ((uR_f).trans ((uR_f).trans (((fu_46 135 (p1_no (tau_ne (rfl : tau 135 = .inl 2) (dic_t mo_13) (fun h => by cases h)))).1 17).trans ((uF_ne (fun h => absurd h.2 (by decide))).trans (((fu_35 135 (p1_no (tau_ne (rfl : tau 135 = .inl 2) (dic_t mo_13) (fun h => by cases h)))).1 17).trans ((uF_ne (fun h => absurd h.2 (by decide))).trans (((hL124_ 135 rfl).1 17).trans (((hL89_ 135 rfl).1 17).trans (((fu_20 135 rfl).1 17).trans ((fu_17 135 rfl).1 17)))))))))) dX2_pivot_236 ?_
                      refine rIald Cx hW (k := 138) (by decide) rfl (by decide) (by omega) (by omega) dX2_pivot_239 ?_
                      have q_52 : (-2147483648) ≤ S.2.1 138 (S.1 135 17) ∧ S.2.1 138 (S.1 135 17) ≤ 2147483647 := hI.ai 138 (S.1 135 17) (by decide)
                      refine r_i (b := S.2.1 138 (S.1 135 17)) ((uR_a).trans ((uR_a).trans (((fu_46 138 (p1_no (ac_ne (rfl : acode 138 = 0) (dic_c mo_13) (by decide)))).2.1 (S.1 135 17)).trans ((uF_a).trans (((fu_35 138 (p1_no (ac_ne (rfl : acode 138 = 0) (dic_c mo_13) (by decide)))).2.1 (S.1 135 17)).trans ((uF_a).trans (((hL124_ 138 rfl).2.1 (S.1 135 17)).trans (((hL89_ 138 rfl).2.1 (S.1 135 17)).trans (((fu_20 138 rfl).2.1 (S.1 135 17)).trans ((fu_17 138 rfl).2.1 (S.1 135 17))))))))))) ?_
                      refine lv_istore_n (lv' := [(3, .int (iv (S.2.1 138 (S.1 135 17)))), (2, .ref (G.2.2.1 + o_12)), (1, .int (iv r_11)), (0, .ref (G.2.2.1 + 135))]) hx hb dX2_pivot_240 rfl hl (by decide) rfl (fun ls hl => ?_)
                      refine lv_aload_n hx hb dX2_pivot_241 rfl (lv_at hl 3 rfl) ?_
                      refine g_X2_20 Cx hW (k := 135) (by decide) rfl (v := .ref (G.2.2.1 + 138)) (rf_135_2 i_51) dX2_pivot_242 ?_
                      refine lv_aload_n hx hb dX2_pivot_245 rfl (lv_at hl 3 rfl) ?_
                      refine g_X2_147 Cx hW (k := 135) (by decide) rfl (v := S.1 135 17) ((uR_f).trans ((uR_f).trans (((fu_46 135 (p1_no (tau_ne (rfl : tau 135 = .inl 2) (dic_t mo_13) (fun h => by cases h)))).1 17).trans ((uF_ne (fun h => absurd h.2 (by decide))).trans (((fu_35 135 (p1_no (tau_ne (rfl : tau 135 = .inl 2) (dic_t mo_13) (fun h => by cases h)))).1 17).trans ((uF_ne (fun h => absurd h.2 (by decide))).trans (((hL124_ 135 rfl).1 17).trans (((hL89_ 135 rfl).1 17).trans (((fu_20 135 rfl).1 17).trans ((fu_17 135 rfl).1 17)))))))))) dX2_pivot_246 ?_
                      refine lv_aload_n hx hb dX2_pivot_249 rfl (lv_at hl 3 rfl) ?_
                      refine g_X2_23 Cx hW (k := 135) (by decide) rfl (v := .ref (G.2.2.1 + 139)) (rf_135_3 i_51) dX2_pivot_250 ?_
                      refine lv_aload_n hx hb dX2_pivot_253 rfl (lv_at hl 3 rfl) ?_
                      refine g_X2_131 Cx hW (k := 135) (by decide) rfl (v := S.1 135 18) ((uR_f).trans ((uR_f).trans (((fu_46 135 (p1_no (tau_ne (rfl : tau 135 = .inl 2) (dic_t mo_13) (fun h => by cases h)))).1 18).trans ((uF_ne (fun h => absurd h.2 (by decide))).trans (((fu_35 135 (p1_no (tau_ne (rfl : tau 135 = .inl 2) (dic_t mo_13) (fun h => by cases h)))).1 18).trans ((uF_ne (fun h => absurd h.2 (by decide))).trans (((hL124_ 135 rfl).1 18).trans (((hL89_ 135 rfl).1 18).trans (((fu_20 135 rfl).1 18).trans ((fu_17 135 rfl).1 18)))))))))) dX2_pivot_254 ?_
                      refine rIald Cx hW (k := 139) (by decide) rfl (by decide) (by omega) (by omega) dX2_pivot_257 ?_
                      have q_53 : (-2147483648) ≤ S.2.1 139 (S.1 135 18) ∧ S.2.1 139 (S.1 135 18) ≤ 2147483647 := hI.ai 139 (S.1 135 18) (by decide)
                      refine r_i (b := S.2.1 139 (S.1 135 18)) ((uR_a).trans ((uR_a).trans (((fu_46 139 (p1_no (ac_ne (rfl : acode 139 = 0) (dic_c mo_13) (by decide)))).2.1 (S.1 135 18)).trans ((uF_a).trans (((fu_35 139 (p1_no (ac_ne (rfl : acode 139 = 0) (dic_c mo_13) (by decide)))).2.1 (S.1 135 18)).trans ((uF_a).trans (((hL124_ 139 rfl).2.1 (S.1 135 18)).trans (((hL89_ 139 rfl).2.1 (S.1 135 18)).trans (((fu_20 139 rfl).2.1 (S.1 135 18)).trans ((fu_17 139 rfl).2.1 (S.1 135 18))))))))))) ?_
                      refine rIast Cx hW hL (k := 138) (by decide) rfl (by decide) (by omega) (by omega) dX2_pivot_258 (fun H locs hW hL => ?_)
                      have F_54 : Fr S (uA (uR (uR u_46 135 0 (.ref (G.2.2.1 + o_13))) 135 1 (.ref (G.2.2.1 + o_12))) 138 (S.1 135 17) (S.2.1 139 (S.1 135 18))) pX := F_50.A rfl
                      have i_55 : cX G (uA (uR (uR u_46 135 0 (.ref (G.2.2.1 + o_13))) 135 1 (.ref (G.2.2.1 + o_12))) 138 (S.1 135 17) (S.2.1 139 (S.1 135 18))) 0 0 0 := i_51.A (by decide) (by decide) (by decide) (show (-2147483648) ≤ S.2.1 139 (S.1 135 18) ∧ S.2.1 139 (S.1 135 18) ≤ 2147483647 from ⟨by omega, by omega⟩)
                      refine lv_aload_n hx hb dX2_pivot_259 rfl (lv_at hl 3 rfl) ?_
                      refine g_X2_23 Cx hW (k := 135) (by decide) rfl (v := .ref (G.2.2.1 + 139)) (rf_135_3 i_55) dX2_pivot_260 ?_
                      refine lv_aload_n hx hb dX2_pivot_263 rfl (lv_at hl 3 rfl) ?_
                      refine g_X2_131 Cx hW (k := 135) (by decide) rfl (v := S.1 135 18) ((uA_f).trans ((uR_f).trans ((uR_f).trans (((fu_46 135 (p1_no (tau_ne (rfl : tau 135 = .inl 2) (dic_t mo_13) (fun h => by cases h)))).1 18).trans ((uF_ne (fun h => absurd h.2 (by decide))).trans (((fu_35 135 (p1_no (tau_ne (rfl : tau 135 = .inl 2) (dic_t mo_13) (fun h => by cases h)))).1 18).trans ((uF_ne (fun h => absurd h.2 (by decide))).trans (((hL124_ 135 rfl).1 18).trans (((hL89_ 135 rfl).1 18).trans (((fu_20 135 rfl).1 18).trans ((fu_17 135 rfl).1 18))))))))))) dX2_pivot_264 ?_
                      refine lv_iload_n hx hb dX2_pivot_267 rfl (lv_at hl 0 rfl) ?_
                      refine rIast Cx hW hL (k := 139) (by decide) rfl (by decide) (by omega) (by omega) dX2_pivot_268 (fun H locs hW hL => ?_)
                      have F_56 : Fr S (uA (uA (uR (uR u_46 135 0 (.ref (G.2.2.1 + o_13))) 135 1 (.ref (G.2.2.1 + o_12))) 138 (S.1 135 17) (S.2.1 139 (S.1 135 18))) 139 (S.1 135 18) (S.2.1 138 (S.1 135 17))) pX := F_54.A rfl
                      have i_57 : cX G (uA (uA (uR (uR u_46 135 0 (.ref (G.2.2.1 + o_13))) 135 1 (.ref (G.2.2.1 + o_12))) 138 (S.1 135 17) (S.2.1 139 (S.1 135 18))) 139 (S.1 135 18) (S.2.1 138 (S.1 135 17))) 0 0 0 := i_55.A (by decide) (by decide) (by decide) (show (-2147483648) ≤ S.2.1 138 (S.1 135 17) ∧ S.2.1 138 (S.1 135 17) ≤ 2147483647 from ⟨by omega, by omega⟩)
                      refine lv_iconst (v := iv 1) hx hb dX2_pivot_269 (by decide) ?_
                      exact sZret Cx hr hlk hW hL (by omega) ⟨i_57, F_56, (by omega)⟩ dX2_pivot_270
                    · refine lv_aload_n hx hb dX2_pivot_132 rfl (lv_at hl 2 rfl) ?_
                      refine g_X2_13 Cx hW (k := 135) (by decide) rfl (v := .ref (G.2.2.1 + o_12)) ((((hL124_ 135 rfl).2.2.2 0).trans (((hL89_ 135 rfl).2.2.2 0).trans (((fu_20 135 rfl).2.2.2 0).trans ((fu_17 135 rfl).2.2.2 0)))).trans eo_12) dX2_pivot_133 ?_
                      refine lv_aload_n hx hb dX2_pivot_136 rfl (lv_at hl 2 rfl) ?_
                      refine g_X2_17 Cx hW (k := 135) (by decide) rfl (v := .ref (G.2.2.1 + o_13)) ((((hL124_ 135 rfl).2.2.2 1).trans (((hL89_ 135 rfl).2.2.2 1).trans (((fu_20 135 rfl).2.2.2 1).trans ((fu_17 135 rfl).2.2.2 1)))).trans eo_13) dX2_pivot_137 ?_
                      refine lv_aload_n hx hb dX2_pivot_140 rfl (lv_at hl 2 rfl) ?_
                      refine g_X2_147 Cx hW (k := 135) (by decide) rfl (v := S.1 135 17) (((hL124_ 135 rfl).1 17).trans (((hL89_ 135 rfl).1 17).trans (((fu_20 135 rfl).1 17).trans ((fu_17 135 rfl).1 17)))) dX2_pivot_141 ?_
                      refine lv_iload_n hx hb dX2_pivot_144 rfl (lv_at hl 0 rfl) ?_
                      refine sBi (sSt (As := [.int (iv (S.1 135 17)), .int (iv j)]) (rest := [.ref (G.2.2.1 + o_13), .ref (G.2.2.1 + o_12)]) Cx (s_X2_at l G S124 (i := S.1 135 17) (j := j) (by omega) (by omega)) (c_X2_77 Cx rfl rfl (rmk_ok (by omega) (by decide))) hW rfl hl.1 rfl (Nat.le_of_ble_eq_true rfl) dX2_pivot_145 ⟨Nat.le_of_ble_eq_true rfl, Nat.le_of_ble_eq_true rfl⟩) hL (fun r_60 u_58 H locs k_59 hW hL => ?_)
                      obtain ⟨eu_58, xu_58⟩ := k_59
                      rw [eu_58] at hW
                      refine lv_iload_n hx hb dX2_pivot_148 rfl (lv_at hl 1 rfl) ?_
                      refine sBv (sSt (As := [.ref (G.2.2.1 + o_12), .ref (G.2.2.1 + o_13), .int (iv r_60), .int (iv r_11)]) (rest := []) Cx (s_X0_move l G S124 (kf := o_12) (kt := o_13) (a := r_60) (tn := r_11) hI124 mo_12 mo_13 (neD no_12) (by omega) (by omega)) (c_X2_188 Cx rfl rfl (rmk_ok (by omega) (by decide))) hW rfl hl.1 rfl (Nat.le_of_ble_eq_true rfl) dX2_pivot_149 ⟨Nat.le_of_ble_eq_true rfl, Nat.le_of_ble_eq_true rfl⟩) hL (fun u_61 H locs k_62 hW hL => ?_)
                      obtain ⟨iu_61, fu_61⟩ := k_62
                      have F_63 := hFm124.trans (fu_61.to (p1_sub ((fun k h => pF_X k (pZ_F k h)) _ (dic_z mo_13))))
                      have F_64 := hFL89124.trans (fu_61.to (p1_sub (dic_z mo_13)))
                      have F_65 := hL124_.trans (fu_61.to (p1_sub (dic_z mo_13)))
                      refine lv_iinc (v := iv (j + 1)) (lv' := [(2, .int (iv (j + 1))), (1, .int (iv r_11)), (0, .ref (G.2.2.1 + 135))]) hx hb dX2_pivot_152 hl (k := 0) rfl ((Int32.ofInt_add _ _).symm) (by decide) rfl (fun ls hl => ?_)
                      refine lv_goto (tgt := 124) hx hb dX2_pivot_155 (by decide) ?_
                      exact ih_124 u_61 (j + 1) _ _ _ (by omega) iu_61 F_63 F_64 F_65 (by omega) hW hL (lv_sub hl [0, 1, 2] rfl)
                exact loop_124 (_ + 1) S89 0 _ _ _ (Nat.lt_succ_self _) hI89 hFm89 hL89_ Fr.rf (by omega) hW hL (lv_sub hl [0, 1, 2] rfl)
              · refine lv_iload_n hx hb dX2_pivot_97 rfl (lv_at hl 0 rfl) ?_
                refine lv_aload_n hx hb dX2_pivot_98 rfl (lv_at hl 2 rfl) ?_
                refine g_X2_147 Cx hW (k := 135) (by decide) rfl (v := S.1 135 17) (((hL89_ 135 rfl).1 17).trans (((fu_20 135 rfl).1 17).trans ((fu_17 135 rfl).1 17))) dX2_pivot_99 ?_
                refine r_icmp_eq (tgt := 116) hx hb ⟨(by omega), (by omega)⟩ ⟨(by omega), (by omega)⟩ dX2_pivot_102 (by decide) (fun c_66 => ?_) (fun c_66 => ?_)
                · refine lv_iinc (v := iv (i + 1)) (lv' := [(2, .int (iv (i + 1))), (1, .int (iv r_11)), (0, .ref (G.2.2.1 + 135))]) hx hb dX2_pivot_116 hl (k := 0) rfl ((Int32.ofInt_add _ _).symm) (by decide) rfl (fun ls hl => ?_)
                  refine lv_goto (tgt := 89) hx hb dX2_pivot_119 (by decide) ?_
                  exact ih_89 S89 (i + 1) _ _ _ (by omega) hI89 hFm89 hL89_ (by omega) hW hL (lv_sub hl [0, 1, 2] rfl)
                · refine lv_aload_n hx hb dX2_pivot_105 rfl (lv_at hl 2 rfl) ?_
                  refine lv_iload_n hx hb dX2_pivot_106 rfl (lv_at hl 0 rfl) ?_
                  refine lv_iload_n hx hb dX2_pivot_107 rfl (lv_at hl 1 rfl) ?_
                  have lk_67 : S89.1 135 17 = S.1 135 17 := ((hL89_ 135 rfl).1 17).trans (((fu_20 135 rfl).1 17).trans ((fu_17 135 rfl).1 17))
                  have lk_68 : S89.1 135 18 = S.1 135 18 := ((hL89_ 135 rfl).1 18).trans (((fu_20 135 rfl).1 18).trans ((fu_17 135 rfl).1 18))
                  have q_69 : 0 ≤ u_17.1 141 1 ∧ u_17.1 141 1 ≤ 32 := iu_17.fi 141 1 0 (by decide) rfl
                  have lk_70 : S89.1 141 1 = u_17.1 141 1 := ((hL89_ 141 rfl).1 1).trans ((fu_20 141 rfl).1 1)
                  have q_71 : 0 ≤ u_20.1 143 1 ∧ u_20.1 143 1 ≤ 32 := iu_20.fi 143 1 0 (by decide) rfl
                  have lk_72 : S89.1 143 1 = u_20.1 143 1 := (hL89_ 143 rfl).1 1
                  refine sBi (sV (As := [.int (iv i), .int (iv r_11)]) (rest := []) (k := 135) Cx (s_X2_pivotRow l G S89 (i := i) (tn := r_11) hI89 (by omega) (by omega) (by omega) (by omega)) (c_X2_184 Cx rfl rfl (rmk_ok (by omega) (by decide))) hW (by decide) rfl rfl rfl hl.1 rfl (Nat.le_of_ble_eq_true rfl) dX2_pivot_108 ⟨Nat.le_of_ble_eq_true rfl, Nat.le_of_ble_eq_true rfl⟩) hL (fun r_75 u_73 H locs k_74 hW hL => ?_)
                  obtain ⟨iu_73, fu_73, xu_73⟩ := k_74
                  have F_76 := hFm89.trans (fu_73.to (fun k h => pF_X k (pZ_F k h)))
                  have F_77 := hL89_.trans fu_73
                  refine r_if_ne (tgt := 116) hx hb ⟨(by omega), (by omega)⟩ dX2_pivot_111 (by decide) (fun c_78 => ?_) (fun c_78 => ?_)
                  · refine lv_iinc (v := iv (i + 1)) (lv' := [(2, .int (iv (i + 1))), (1, .int (iv r_11)), (0, .ref (G.2.2.1 + 135))]) hx hb dX2_pivot_116 hl (k := 0) rfl ((Int32.ofInt_add _ _).symm) (by decide) rfl (fun ls hl => ?_)
                    refine lv_goto (tgt := 89) hx hb dX2_pivot_119 (by decide) ?_
                    exact ih_89 u_73 (i + 1) _ _ _ (by omega) iu_73 F_76 F_77 (by omega) hW hL (lv_sub hl [0, 1, 2] rfl)
                  · refine lv_iconst (v := iv 0) hx hb dX2_pivot_114 (by decide) ?_
                    exact sZret Cx hr hlk hW hL (by omega) ⟨iu_73, F_76, (by omega)⟩ dX2_pivot_115
          exact loop_89 (_ + 1) u_20 i0 _ _ _ (Nat.lt_succ_self _) iu_20 F_22 Fr.rf (by omega) hW hL (lv_sub hl [0, 1, 2] rfl)
        refine lv_aload_n hx hb dX2_pivot_76 rfl (lv_at hl 1 rfl) ?_
        have q_79 : 0 ≤ S.1 135 16 ∧ S.1 135 16 ≤ 1 := hI.fi 135 16 2 (by decide) rfl
        refine g_X2_70 Cx hW (k := 135) (by decide) rfl (v := S.1 135 16) (((fu_20 135 rfl).1 16).trans ((fu_17 135 rfl).1 16)) dX2_pivot_77 ?_
        refine r_if_eq (tgt := 87) hx hb ⟨(by omega), (by omega)⟩ dX2_pivot_80 (by decide) (fun c_80 => ?_) (fun c_80 => ?_)
        · refine lv_iconst (v := iv 0) hx hb dX2_pivot_87 (by decide) ?_
          exact join_88 0 _ _ _ (by omega) hW hL (lv_sub hl [0, 1] rfl)
        · refine lv_iconst (v := iv (-1)) hx hb dX2_pivot_83 (by decide) ?_
          refine lv_goto (tgt := 88) hx hb dX2_pivot_84 (by decide) ?_
          exact join_88 ((-1)) _ _ _ (by omega) hW hL (lv_sub hl [0, 1] rfl)
      · refine lv_iconst (v := iv 0) hx hb dX2_pivot_31 (by decide) ?_
        exact sZret Cx hr hlk hW hL (by omega) ⟨hI, (Fr.rf : Fr S S pX), (by omega)⟩ dX2_pivot_32

set_option maxRecDepth 100000 in
set_option maxHeartbeats 4000000 in
theorem s_X2_addCut (l : Launch) (G : sG) (S : sS) {rr : Int} (hI : cX G S 0 0 0) (hrr : -1 ≤ rr ∧ rr ≤ 40) : Met l yX2_addCut (.code yX2_addCut cX2_addCut 3 none :: tb) (rmk 6 0 0) (sPc G 294 S [.ref (G.2.2.1 + 135), .int (iv rr)]) (sQv G 294 (fun u => cX G u 0 0 0 ∧ Fr S u pX)) 0 0 (sF G) := by
  refine sEnter (by decide) (Nat.le_of_ble_eq_true rfl) ?_
  intro p e s m args below meth c Cx hr hlk hnm hW ls hl
  have Cx : sC G p m c cX2_addCut 3 s args RX2 := Cx
  obtain ⟨hx, hb, hml, hown, hts⟩ := id Cx.1
  have hL : sL G [] := sL_nil
  have hl : lv_has ls 3 [(0, .ref (G.2.2.1 + 135)), (1, .int (iv rr))] := hl
  have hW0 := hW
  refine lv_aload_n hx hb dX2_addCut_0 rfl (lv_at hl 0 rfl) ?_
  have q_1 : 0 ≤ S.1 135 14 ∧ S.1 135 14 ≤ 40 := hI.fi 135 14 2 (by decide) rfl
  refine g_X2_66 Cx hW (k := 135) (by decide) rfl (v := S.1 135 14) rfl dX2_addCut_1 ?_
  refine lv_bipush (v := iv 40) hx hb dX2_addCut_4 (by decide) ?_
  refine r_icmp_lt (tgt := 10) hx hb ⟨(by omega), (by omega)⟩ ⟨(by omega), (by omega)⟩ dX2_addCut_6 (by decide) (fun c_2 => ?_) (fun c_2 => ?_)
  · refine lv_iconst (v := iv 0) hx hb dX2_addCut_10 (by decide) ?_
    refine lv_istore_n (lv' := [(2, .int (iv 0)), (0, .ref (G.2.2.1 + 135)), (1, .int (iv rr))]) hx hb dX2_addCut_11 rfl hl (by decide) rfl (fun ls hl => ?_)
    have loop_12 : ∀ (fuel : Nat) (S12 : sS) (j : Int) (H : Heap) (locs : List Loc) (ls : Array Slot), (14 - j).toNat < fuel → (cX G S12 0 0 0) → (Fr S S12 pX) → (Fr S S12 pN) → (0 ≤ j ∧ j ≤ 14) → sW G 294 S12 H → sL G locs → lv_has ls 3 [(2, .int (iv j)), (0, .ref (G.2.2.1 + 135)), (1, .int (iv rr))] → W p l e (rmk 6 0 0) s m args below meth c H locs 0 0 (MQ below (sQv G 294 (fun u => cX G u 0 0 0 ∧ Fr S u pX)) args s 0 0 (sF G)) (F0 m 12 ls []) := by
      intro fuel
      induction fuel with
      | zero => intro S12 j H locs ls hmeas hI12 hFm12 hL12_ hj hW hL hl; exact absurd hmeas (Nat.not_lt_zero _)
      | succ fuel ih_12 =>
        intro S12 j H locs ls hmeas hI12 hFm12 hL12_ hj hW hL hl
        refine lv_iload_n hx hb dX2_addCut_12 rfl (lv_at hl 0 rfl) ?_
        refine lv_aload_n hx hb dX2_addCut_13 rfl (lv_at hl 1 rfl) ?_
        have q_3 : 0 ≤ S.1 135 15 ∧ S.1 135 15 ≤ 13 := hI.fi 135 15 2 (by decide) rfl
        refine g_X2_67 Cx hW (k := 135) (by decide) rfl (v := S.1 135 15) ((hL12_ 135 rfl).1 15) dX2_addCut_14 ?_
        refine r_icmp_gt (tgt := 78) hx hb ⟨(by omega), (by omega)⟩ ⟨(by omega), (by omega)⟩ dX2_addCut_17 (by decide) (fun c_4 => ?_) (fun c_4 => ?_)
        · refine lv_aload_n hx hb dX2_addCut_78 rfl (lv_at hl 1 rfl) ?_
          have lk_5 : S12.1 135 14 = S.1 135 14 := (hL12_ 135 rfl).1 14
          refine sBv (sV (As := []) (rest := []) (k := 135) Cx (s_X2_addRow l G S12  hI12 (by omega)) (c_X2_206 Cx rfl rfl (rmk_ok (by omega) (by decide))) hW (by decide) rfl rfl rfl hl.1 rfl (Nat.le_of_ble_eq_true rfl) dX2_addCut_79 ⟨Nat.le_of_ble_eq_true rfl, Nat.le_of_ble_eq_true rfl⟩) hL (fun u_6 H locs k_7 hW hL => ?_)
          obtain ⟨iu_6, fu_6⟩ := k_7
          have F_8 := hFm12.trans fu_6
          exact sVret Cx hr hlk hW hL ⟨iu_6, F_8⟩ dX2_addCut_82
        · refine lv_aload_n hx hb dX2_addCut_20 rfl (lv_at hl 1 rfl) ?_
          refine g_X2_41 Cx hW (k := 135) (by decide) rfl (v := .ref (G.2.2.1 + 147)) (rf_135_8 hI12) dX2_addCut_21 ?_
          refine lv_aload_n hx hb dX2_addCut_24 rfl (lv_at hl 1 rfl) ?_
          obtain ⟨o_9, o_10, mo_9, mo_10, no_9, eo_9, eo_10⟩ := rm_135 hI
          refine g_X2_13 Cx hW (k := 135) (by decide) rfl (v := .ref (G.2.2.1 + o_9)) (((hL12_ 135 rfl).2.2.2 0).trans eo_9) dX2_addCut_25 ?_
          refine lv_iload_n hx hb dX2_addCut_28 rfl (lv_at hl 2 rfl) ?_
          refine lv_iload_n hx hb dX2_addCut_29 rfl (lv_at hl 0 rfl) ?_
          refine sBi (sSt (As := [.int (iv rr), .int (iv j)]) (rest := [.ref (G.2.2.1 + o_9), .ref (G.2.2.1 + 147)]) Cx (s_X2_at l G S12 (i := rr) (j := j) (by omega) (by omega)) (c_X2_77 Cx rfl rfl (rmk_ok (by omega) (by decide))) hW rfl hl.1 rfl (Nat.le_of_ble_eq_true rfl) dX2_addCut_30 ⟨Nat.le_of_ble_eq_true rfl, Nat.le_of_ble_eq_true rfl⟩) hL (fun r_13 u_11 H locs k_12 hW hL => ?_)
          obtain ⟨eu_11, xu_11⟩ := k_12
          rw [eu_11] at hW
          refine sBv (sV (As := [.ref (G.2.2.1 + o_9), .int (iv r_13)]) (rest := []) (k := 147) Cx (s_X0_load l G S12 (o := 147) (k := o_9) (a := r_13) (N := 4816) hI12 rfl (dic_a mo_9) (by omega)) (c_X2_106 Cx rfl rfl (rmk_ok (by omega) (by decide))) hW (by decide) rfl rfl rfl hl.1 rfl (Nat.le_of_ble_eq_true rfl) dX2_addCut_33 ⟨Nat.le_of_ble_eq_true rfl, Nat.le_of_ble_eq_true rfl⟩) hL (fun u_14 H locs k_15 hW hL => ?_)
          obtain ⟨iu_14, fu_14, xu_14⟩ := k_15
          have F_16 := hFm12.trans (fu_14.to (pB_sub rfl rfl))
          have F_17 := hL12_.trans (fu_14.to (pB_sub rfl rfl))
          have yu_14 : u_14.1 147 1 ≤ 6 := by have e := xu_14.1; rw [dic_L mo_9] at e; exact e
          refine lv_aload_n hx hb dX2_addCut_36 rfl (lv_at hl 1 rfl) ?_
          refine lv_aload_n hx hb dX2_addCut_37 rfl (lv_at hl 1 rfl) ?_
          refine g_X2_41 Cx hW (k := 135) (by decide) rfl (v := .ref (G.2.2.1 + 147)) (rf_135_8 iu_14) dX2_addCut_38 ?_
          have q_18 : 0 ≤ u_14.1 147 1 ∧ u_14.1 147 1 ≤ 32 := iu_14.fi 147 1 0 (by decide) rfl
          refine sBv (sV (As := [.ref (G.2.2.1 + 147)]) (rest := []) (k := 135) Cx (s_X2_remainder_147 l G u_14  iu_14 (by omega)) (c_X2_203 Cx rfl rfl (rmk_ok (by omega) (by decide))) hW (by decide) rfl rfl rfl hl.1 rfl (Nat.le_of_ble_eq_true rfl) dX2_addCut_41 ⟨Nat.le_of_ble_eq_true rfl, Nat.le_of_ble_eq_true rfl⟩) hL (fun u_19 H locs k_20 hW hL => ?_)
          obtain ⟨iu_19, fu_19, xu_19⟩ := k_20
          have F_21 := F_16.trans (fu_19.to (fun k h => (fun k h => pY_X k (pN_Y k h)) k ((pD4_sub rfl rfl rfl rfl rfl rfl rfl rfl) k h)))
          have F_22 := F_17.trans (fu_19.to (pD4_sub rfl rfl rfl rfl rfl rfl rfl rfl))
          refine lv_aload_n hx hb dX2_addCut_44 rfl (lv_at hl 1 rfl) ?_
          refine g_X2_41 Cx hW (k := 135) (by decide) rfl (v := .ref (G.2.2.1 + 147)) (rf_135_8 iu_19) dX2_addCut_45 ?_
          have q_23 : 0 ≤ u_19.1 147 1 ∧ u_19.1 147 1 ≤ 32 := iu_19.fi 147 1 0 (by decide) rfl
          have q_24 : (-1) ≤ u_19.1 147 2 ∧ u_19.1 147 2 ≤ 1 := iu_19.fi 147 2 0 (by decide) rfl
          refine sBv (sV (As := []) (rest := []) (k := 147) Cx (s_X0_turn l G u_19 (o := 147) iu_19 rfl) (c_X2_134 Cx rfl rfl (rmk_ok (by omega) (by decide))) hW (by decide) rfl rfl rfl hl.1 rfl (Nat.le_of_ble_eq_true rfl) dX2_addCut_48 ⟨Nat.le_of_ble_eq_true rfl, Nat.le_of_ble_eq_true rfl⟩) hL (fun u_25 H locs k_26 hW hL => ?_)
          obtain ⟨iu_25, fu_25, xu_25⟩ := k_26
          have F_27 := F_21.trans (fu_25.to (pB_sub rfl rfl))
          have F_28 := F_22.trans (fu_25.to (pB_sub rfl rfl))
          refine lv_aload_n hx hb dX2_addCut_51 rfl (lv_at hl 1 rfl) ?_
          refine g_X2_41 Cx hW (k := 135) (by decide) rfl (v := .ref (G.2.2.1 + 147)) (rf_135_8 iu_25) dX2_addCut_52 ?_
          refine lv_aload_n hx hb dX2_addCut_55 rfl (lv_at hl 1 rfl) ?_
          refine g_X2_13 Cx hW (k := 135) (by decide) rfl (v := .ref (G.2.2.1 + o_9)) ((((fu_25 135 rfl).2.2.2 0).trans (((fu_19 135 rfl).2.2.2 0).trans (((fu_14 135 rfl).2.2.2 0).trans ((hL12_ 135 rfl).2.2.2 0)))).trans eo_9) dX2_addCut_56 ?_
          refine lv_aload_n hx hb dX2_addCut_59 rfl (lv_at hl 1 rfl) ?_
          refine g_X2_66 Cx hW (k := 135) (by decide) rfl (v := S.1 135 14) (((fu_25 135 rfl).1 14).trans (((fu_19 135 rfl).1 14).trans (((fu_14 135 rfl).1 14).trans ((hL12_ 135 rfl).1 14)))) dX2_addCut_60 ?_
          refine lv_iconst (v := iv 1) hx hb dX2_addCut_63 (by decide) ?_
          refine r_iadd hx hb dX2_addCut_64 ?_
          refine lv_iload_n hx hb dX2_addCut_65 rfl (lv_at hl 0 rfl) ?_
          refine sBi (sSt (As := [.int (iv ((S.1 135 14) + 1)), .int (iv j)]) (rest := [.ref (G.2.2.1 + o_9), .ref (G.2.2.1 + 147)]) Cx (s_X2_at l G u_25 (i := (S.1 135 14) + 1) (j := j) (by omega) (by omega)) (c_X2_77 Cx rfl rfl (rmk_ok (by omega) (by decide))) hW rfl hl.1 rfl (Nat.le_of_ble_eq_true rfl) dX2_addCut_66 ⟨Nat.le_of_ble_eq_true rfl, Nat.le_of_ble_eq_true rfl⟩) hL (fun r_31 u_29 H locs k_30 hW hL => ?_)
          obtain ⟨eu_29, xu_29⟩ := k_30
          rw [eu_29] at hW
          have q_32 : 0 ≤ u_25.1 147 1 ∧ u_25.1 147 1 ≤ 32 := iu_25.fi 147 1 0 (by decide) rfl
          have q_33 : (-1) ≤ u_25.1 147 2 ∧ u_25.1 147 2 ≤ 1 := iu_25.fi 147 2 0 (by decide) rfl
          refine sBv (sV (As := [.ref (G.2.2.1 + o_9), .int (iv r_31)]) (rest := []) (k := 147) Cx (s_X0_save l G u_25 (o := 147) (k := o_9) (a := r_31) (N := 4816) iu_25 rfl (dic_a mo_9) (by omega) (dicSv mo_9 (by omega)) (fun _ q => by exfalso; omega)) (c_X2_154 Cx rfl rfl (rmk_ok (by omega) (by decide))) hW (by decide) rfl rfl rfl hl.1 rfl (Nat.le_of_ble_eq_true rfl) dX2_addCut_69 ⟨Nat.le_of_ble_eq_true rfl, Nat.le_of_ble_eq_true rfl⟩) hL (fun u_34 H locs k_35 hW hL => ?_)
          obtain ⟨iu_34, fu_34⟩ := k_35
          have F_36 := F_27.trans (fu_34.to (p1_sub ((fun k h => pF_X k (pZ_F k h)) _ (dic_z mo_9))))
          have F_37 := F_28.trans (fu_34.to (p1_sub (dic_p mo_9)))
          refine lv_iinc (v := iv (j + 1)) (lv' := [(2, .int (iv (j + 1))), (0, .ref (G.2.2.1 + 135)), (1, .int (iv rr))]) hx hb dX2_addCut_72 hl (k := 0) rfl ((Int32.ofInt_add _ _).symm) (by decide) rfl (fun ls hl => ?_)
          refine lv_goto (tgt := 12) hx hb dX2_addCut_75 (by decide) ?_
          exact ih_12 u_34 (j + 1) _ _ _ (by omega) iu_34 F_36 F_37 (by omega) hW hL (lv_sub hl [0, 1, 2] rfl)
    exact loop_12 (_ + 1) S 0 _ _ _ (Nat.lt_succ_self _) hI (Fr.rf : Fr S S pX) Fr.rf (by omega) hW hL (lv_sub hl [0, 1, 2] rfl)
  · exact sVret Cx hr hlk hW hL ⟨hI, (Fr.rf : Fr S S pX)⟩ dX2_addCut_9

set_option maxRecDepth 100000 in
set_option maxHeartbeats 4000000 in
theorem s_X2_addLimit (l : Launch) (G : sG) (S : sS) {rr ab : Int} (hI : cX G S 0 0 0) (hrr : -1 ≤ rr ∧ rr ≤ 40) (hab : 0 ≤ ab ∧ ab ≤ 1) : Met l yX2_addLimit (.code yX2_addLimit cX2_addLimit 4 none :: tb) (rmk 6 0 0) (sPc G 294 S [.ref (G.2.2.1 + 135), .int (iv rr), .int (iv ab)]) (sQv G 294 (fun u => cX G u 0 0 0 ∧ Fr S u pX)) 0 0 (sF G) := by
  refine sEnter (by decide) (Nat.le_of_ble_eq_true rfl) ?_
  intro p e s m args below meth c Cx hr hlk hnm hW ls hl
  have Cx : sC G p m c cX2_addLimit 4 s args RX2 := Cx
  obtain ⟨hx, hb, hml, hown, hts⟩ := id Cx.1
  have hL : sL G [] := sL_nil
  have hl : lv_has ls 4 [(0, .ref (G.2.2.1 + 135)), (1, .int (iv rr)), (2, .int (iv ab))] := hl
  have hW0 := hW
  refine lv_aload_n hx hb dX2_addLimit_0 rfl (lv_at hl 0 rfl) ?_
  have q_1 : 0 ≤ S.1 135 14 ∧ S.1 135 14 ≤ 40 := hI.fi 135 14 2 (by decide) rfl
  refine g_X2_66 Cx hW (k := 135) (by decide) rfl (v := S.1 135 14) rfl dX2_addLimit_1 ?_
  refine lv_bipush (v := iv 40) hx hb dX2_addLimit_4 (by decide) ?_
  refine r_icmp_lt (tgt := 10) hx hb ⟨(by omega), (by omega)⟩ ⟨(by omega), (by omega)⟩ dX2_addLimit_6 (by decide) (fun c_2 => ?_) (fun c_2 => ?_)
  · refine lv_aload_n hx hb dX2_addLimit_10 rfl (lv_at hl 0 rfl) ?_
    refine g_X2_41 Cx hW (k := 135) (by decide) rfl (v := .ref (G.2.2.1 + 147)) (rf_135_8 hI) dX2_addLimit_11 ?_
    refine lv_aload_n hx hb dX2_addLimit_14 rfl (lv_at hl 0 rfl) ?_
    obtain ⟨o_3, o_4, mo_3, mo_4, no_3, eo_3, eo_4⟩ := rm_135 hI
    refine g_X2_13 Cx hW (k := 135) (by decide) rfl (v := .ref (G.2.2.1 + o_3)) eo_3 dX2_addLimit_15 ?_
    refine lv_iload_n hx hb dX2_addLimit_18 rfl (lv_at hl 1 rfl) ?_
    refine lv_iconst (v := iv 0) hx hb dX2_addLimit_19 (by decide) ?_
    refine sBi (sSt (As := [.int (iv rr), .int (iv 0)]) (rest := [.ref (G.2.2.1 + o_3), .ref (G.2.2.1 + 147)]) Cx (s_X2_at l G S (i := rr) (j := 0) (by omega) (by omega)) (c_X2_77 Cx rfl rfl (rmk_ok (by omega) (by decide))) hW rfl hl.1 rfl (Nat.le_of_ble_eq_true rfl) dX2_addLimit_20 ⟨Nat.le_of_ble_eq_true rfl, Nat.le_of_ble_eq_true rfl⟩) hL (fun r_7 u_5 H locs k_6 hW hL => ?_)
    obtain ⟨eu_5, xu_5⟩ := k_6
    rw [eu_5] at hW
    refine sBv (sV (As := [.ref (G.2.2.1 + o_3), .int (iv r_7)]) (rest := []) (k := 147) Cx (s_X0_load l G S (o := 147) (k := o_3) (a := r_7) (N := 4816) hI rfl (dic_a mo_3) (by omega)) (c_X2_106 Cx rfl rfl (rmk_ok (by omega) (by decide))) hW (by decide) rfl rfl rfl hl.1 rfl (Nat.le_of_ble_eq_true rfl) dX2_addLimit_23 ⟨Nat.le_of_ble_eq_true rfl, Nat.le_of_ble_eq_true rfl⟩) hL (fun u_8 H locs k_9 hW hL => ?_)
    obtain ⟨iu_8, fu_8, xu_8⟩ := k_9
    have F_10 := (Fr.rf : Fr S S pX).trans (fu_8.to (pB_sub rfl rfl))
    have yu_8 : u_8.1 147 1 ≤ 6 := by have e := xu_8.1; rw [dic_L mo_3] at e; exact e
    refine lv_aload_n hx hb dX2_addLimit_26 rfl (lv_at hl 0 rfl) ?_
    refine lv_aload_n hx hb dX2_addLimit_27 rfl (lv_at hl 0 rfl) ?_
    refine g_X2_41 Cx hW (k := 135) (by decide) rfl (v := .ref (G.2.2.1 + 147)) (rf_135_8 iu_8) dX2_addLimit_28 ?_
    have q_11 : 0 ≤ u_8.1 147 1 ∧ u_8.1 147 1 ≤ 32 := iu_8.fi 147 1 0 (by decide) rfl
    refine sBv (sV (As := [.ref (G.2.2.1 + 147)]) (rest := []) (k := 135) Cx (s_X2_remainder_147 l G u_8  iu_8 (by omega)) (c_X2_203 Cx rfl rfl (rmk_ok (by omega) (by decide))) hW (by decide) rfl rfl rfl hl.1 rfl (Nat.le_of_ble_eq_true rfl) dX2_addLimit_31 ⟨Nat.le_of_ble_eq_true rfl, Nat.le_of_ble_eq_true rfl⟩) hL (fun u_12 H locs k_13 hW hL => ?_)
    obtain ⟨iu_12, fu_12, xu_12⟩ := k_13
    have F_14 := F_10.trans (fu_12.to (fun k h => (fun k h => pY_X k (pN_Y k h)) k ((pD4_sub rfl rfl rfl rfl rfl rfl rfl rfl) k h)))
    have join_60 : ∀ (S60 : sS)  (H : Heap) (locs : List Loc) (ls : Array Slot), (cX G S60 0 0 0) → (Fr S S60 pX) → (Fr u_12 S60 pN) → (S60.1 147 1 ≤ 6) → sW G 294 S60 H → sL G locs → lv_has ls 4 [(0, .ref (G.2.2.1 + 135)), (1, .int (iv rr)), (2, .int (iv ab))] → W p l e (rmk 6 0 0) s m args below meth c H locs 0 0 (MQ below (sQv G 294 (fun u => cX G u 0 0 0 ∧ Fr S u pX)) args s 0 0 (sF G)) (F0 m 60 ls []) := by
      intro S60  H locs ls hI60 hFm60 hL60_ hy6 hW hL hl
      refine lv_aload_n hx hb dX2_addLimit_60 rfl (lv_at hl 0 rfl) ?_
      refine g_X2_41 Cx hW (k := 135) (by decide) rfl (v := .ref (G.2.2.1 + 147)) (rf_135_8 hI60) dX2_addLimit_61 ?_
      refine lv_aload_n hx hb dX2_addLimit_64 rfl (lv_at hl 0 rfl) ?_
      refine g_X2_13 Cx hW (k := 135) (by decide) rfl (v := .ref (G.2.2.1 + o_3)) ((((hL60_ 135 rfl).2.2.2 0).trans (((fu_12 135 rfl).2.2.2 0).trans ((fu_8 135 rfl).2.2.2 0))).trans eo_3) dX2_addLimit_65 ?_
      refine lv_aload_n hx hb dX2_addLimit_68 rfl (lv_at hl 0 rfl) ?_
      refine g_X2_66 Cx hW (k := 135) (by decide) rfl (v := S.1 135 14) (((hL60_ 135 rfl).1 14).trans (((fu_12 135 rfl).1 14).trans ((fu_8 135 rfl).1 14))) dX2_addLimit_69 ?_
      refine lv_iconst (v := iv 1) hx hb dX2_addLimit_72 (by decide) ?_
      refine r_iadd hx hb dX2_addLimit_73 ?_
      refine lv_iconst (v := iv 0) hx hb dX2_addLimit_74 (by decide) ?_
      refine sBi (sSt (As := [.int (iv ((S.1 135 14) + 1)), .int (iv 0)]) (rest := [.ref (G.2.2.1 + o_3), .ref (G.2.2.1 + 147)]) Cx (s_X2_at l G S60 (i := (S.1 135 14) + 1) (j := 0) (by omega) (by omega)) (c_X2_77 Cx rfl rfl (rmk_ok (by omega) (by decide))) hW rfl hl.1 rfl (Nat.le_of_ble_eq_true rfl) dX2_addLimit_75 ⟨Nat.le_of_ble_eq_true rfl, Nat.le_of_ble_eq_true rfl⟩) hL (fun r_17 u_15 H locs k_16 hW hL => ?_)
      obtain ⟨eu_15, xu_15⟩ := k_16
      rw [eu_15] at hW
      have q_18 : 0 ≤ S60.1 147 1 ∧ S60.1 147 1 ≤ 32 := hI60.fi 147 1 0 (by decide) rfl
      have q_19 : (-1) ≤ S60.1 147 2 ∧ S60.1 147 2 ≤ 1 := hI60.fi 147 2 0 (by decide) rfl
      refine sBv (sV (As := [.ref (G.2.2.1 + o_3), .int (iv r_17)]) (rest := []) (k := 147) Cx (s_X0_save l G S60 (o := 147) (k := o_3) (a := r_17) (N := 4816) hI60 rfl (dic_a mo_3) (by omega) (dicSv mo_3 (by omega)) (fun _ q => by exfalso; omega)) (c_X2_154 Cx rfl rfl (rmk_ok (by omega) (by decide))) hW (by decide) rfl rfl rfl hl.1 rfl (Nat.le_of_ble_eq_true rfl) dX2_addLimit_78 ⟨Nat.le_of_ble_eq_true rfl, Nat.le_of_ble_eq_true rfl⟩) hL (fun u_20 H locs k_21 hW hL => ?_)
      obtain ⟨iu_20, fu_20⟩ := k_21
      have F_22 := hFm60.trans (fu_20.to (p1_sub ((fun k h => pF_X k (pZ_F k h)) _ (dic_z mo_3))))
      have F_23 := hL60_.trans (fu_20.to (p1_sub (dic_p mo_3)))
      refine lv_iconst (v := iv 1) hx hb dX2_addLimit_81 (by decide) ?_
      refine lv_istore_n (lv' := [(3, .int (iv 1)), (0, .ref (G.2.2.1 + 135)), (1, .int (iv rr)), (2, .int (iv ab))]) hx hb dX2_addLimit_82 rfl hl (by decide) rfl (fun ls hl => ?_)
      have loop_83 : ∀ (fuel : Nat) (S83 : sS) (j : Int) (H : Heap) (locs : List Loc) (ls : Array Slot), (14 - j).toNat < fuel → (cX G S83 0 0 0) → (Fr S S83 pX) → (Fr u_12 S83 pN) → (Fr u_20 S83 pN) → (1 ≤ j ∧ j ≤ 14) → sW G 294 S83 H → sL G locs → lv_has ls 4 [(3, .int (iv j)), (0, .ref (G.2.2.1 + 135)), (1, .int (iv rr)), (2, .int (iv ab))] → W p l e (rmk 6 0 0) s m args below meth c H locs 0 0 (MQ below (sQv G 294 (fun u => cX G u 0 0 0 ∧ Fr S u pX)) args s 0 0 (sF G)) (F0 m 83 ls []) := by
        intro fuel
        induction fuel with
        | zero => intro S83 j H locs ls hmeas hI83 hFm83 hFL6083 hL83_ hj hW hL hl; exact absurd hmeas (Nat.not_lt_zero _)
        | succ fuel ih_83 =>
          intro S83 j H locs ls hmeas hI83 hFm83 hFL6083 hL83_ hj hW hL hl
          refine lv_iload_n hx hb dX2_addLimit_83 rfl (lv_at hl 0 rfl) ?_
          refine lv_aload_n hx hb dX2_addLimit_84 rfl (lv_at hl 1 rfl) ?_
          have q_24 : 0 ≤ S.1 135 15 ∧ S.1 135 15 ≤ 13 := hI.fi 135 15 2 (by decide) rfl
          refine g_X2_67 Cx hW (k := 135) (by decide) rfl (v := S.1 135 15) (((hL83_ 135 rfl).1 15).trans (((fu_20 135 (p1_no (tau_ne (rfl : tau 135 = .inl 2) (dic_t mo_3) (fun h => by cases h)))).1 15).trans (((hL60_ 135 rfl).1 15).trans (((fu_12 135 rfl).1 15).trans ((fu_8 135 rfl).1 15))))) dX2_addLimit_85 ?_
          refine r_icmp_gt (tgt := 145) hx hb ⟨(by omega), (by omega)⟩ ⟨(by omega), (by omega)⟩ dX2_addLimit_88 (by decide) (fun c_25 => ?_) (fun c_25 => ?_)
          · refine lv_aload_n hx hb dX2_addLimit_145 rfl (lv_at hl 1 rfl) ?_
            have lk_26 : S83.1 135 14 = S.1 135 14 := ((hL83_ 135 rfl).1 14).trans (((fu_20 135 (p1_no (tau_ne (rfl : tau 135 = .inl 2) (dic_t mo_3) (fun h => by cases h)))).1 14).trans (((hL60_ 135 rfl).1 14).trans (((fu_12 135 rfl).1 14).trans ((fu_8 135 rfl).1 14))))
            refine sBv (sV (As := []) (rest := []) (k := 135) Cx (s_X2_addRow l G S83  hI83 (by omega)) (c_X2_206 Cx rfl rfl (rmk_ok (by omega) (by decide))) hW (by decide) rfl rfl rfl hl.1 rfl (Nat.le_of_ble_eq_true rfl) dX2_addLimit_146 ⟨Nat.le_of_ble_eq_true rfl, Nat.le_of_ble_eq_true rfl⟩) hL (fun u_27 H locs k_28 hW hL => ?_)
            obtain ⟨iu_27, fu_27⟩ := k_28
            have F_29 := hFm83.trans fu_27
            exact sVret Cx hr hlk hW hL ⟨iu_27, F_29⟩ dX2_addLimit_149
          · refine lv_aload_n hx hb dX2_addLimit_91 rfl (lv_at hl 1 rfl) ?_
            refine g_X2_41 Cx hW (k := 135) (by decide) rfl (v := .ref (G.2.2.1 + 147)) (rf_135_8 hI83) dX2_addLimit_92 ?_
            refine lv_aload_n hx hb dX2_addLimit_95 rfl (lv_at hl 1 rfl) ?_
            refine g_X2_13 Cx hW (k := 135) (by decide) rfl (v := .ref (G.2.2.1 + o_3)) ((((hL83_ 135 rfl).2.2.2 0).trans (((fu_20 135 (p1_no (tau_ne (rfl : tau 135 = .inl 2) (dic_t mo_3) (fun h => by cases h)))).2.2.2 0).trans (((hL60_ 135 rfl).2.2.2 0).trans (((fu_12 135 rfl).2.2.2 0).trans ((fu_8 135 rfl).2.2.2 0))))).trans eo_3) dX2_addLimit_96 ?_
            refine lv_iload_n hx hb dX2_addLimit_99 rfl (lv_at hl 2 rfl) ?_
            refine lv_iload_n hx hb dX2_addLimit_100 rfl (lv_at hl 0 rfl) ?_
            refine sBi (sSt (As := [.int (iv rr), .int (iv j)]) (rest := [.ref (G.2.2.1 + o_3), .ref (G.2.2.1 + 147)]) Cx (s_X2_at l G S83 (i := rr) (j := j) (by omega) (by omega)) (c_X2_77 Cx rfl rfl (rmk_ok (by omega) (by decide))) hW rfl hl.1 rfl (Nat.le_of_ble_eq_true rfl) dX2_addLimit_101 ⟨Nat.le_of_ble_eq_true rfl, Nat.le_of_ble_eq_true rfl⟩) hL (fun r_32 u_30 H locs k_31 hW hL => ?_)
            obtain ⟨eu_30, xu_30⟩ := k_31
            rw [eu_30] at hW
            refine sBv (sV (As := [.ref (G.2.2.1 + o_3), .int (iv r_32)]) (rest := []) (k := 147) Cx (s_X0_load l G S83 (o := 147) (k := o_3) (a := r_32) (N := 4816) hI83 rfl (dic_a mo_3) (by omega)) (c_X2_106 Cx rfl rfl (rmk_ok (by omega) (by decide))) hW (by decide) rfl rfl rfl hl.1 rfl (Nat.le_of_ble_eq_true rfl) dX2_addLimit_104 ⟨Nat.le_of_ble_eq_true rfl, Nat.le_of_ble_eq_true rfl⟩) hL (fun u_33 H locs k_34 hW hL => ?_)
            obtain ⟨iu_33, fu_33, xu_33⟩ := k_34
            have F_35 := hFm83.trans (fu_33.to (pB_sub rfl rfl))
            have F_36 := hFL6083.trans (fu_33.to (pB_sub rfl rfl))
            have F_37 := hL83_.trans (fu_33.to (pB_sub rfl rfl))
            have yu_33 : u_33.1 147 1 ≤ 6 := by have e := xu_33.1; rw [dic_L mo_3] at e; exact e
            have join_118 : ∀ (S118 : sS)  (H : Heap) (locs : List Loc) (ls : Array Slot), (cX G S118 0 0 0) → (Fr S S118 pX) → (Fr u_12 S118 pN) → (Fr u_20 S118 pN) → (Fr u_33 S118 pN) → (S118.1 147 1 ≤ 6) → sW G 294 S118 H → sL G locs → lv_has ls 4 [(3, .int (iv j)), (0, .ref (G.2.2.1 + 135)), (1, .int (iv rr)), (2, .int (iv ab))] → W p l e (rmk 6 0 0) s m args below meth c H locs 0 0 (MQ below (sQv G 294 (fun u => cX G u 0 0 0 ∧ Fr S u pX)) args s 0 0 (sF G)) (F0 m 118 ls []) := by
              intro S118  H locs ls hI118 hFm118 hFL60118 hFL83118 hL118_ hy7 hW hL hl
              refine lv_aload_n hx hb dX2_addLimit_118 rfl (lv_at hl 1 rfl) ?_
              refine g_X2_41 Cx hW (k := 135) (by decide) rfl (v := .ref (G.2.2.1 + 147)) (rf_135_8 hI118) dX2_addLimit_119 ?_
              refine lv_aload_n hx hb dX2_addLimit_122 rfl (lv_at hl 1 rfl) ?_
              refine g_X2_13 Cx hW (k := 135) (by decide) rfl (v := .ref (G.2.2.1 + o_3)) ((((hL118_ 135 rfl).2.2.2 0).trans (((fu_33 135 rfl).2.2.2 0).trans (((hL83_ 135 rfl).2.2.2 0).trans (((fu_20 135 (p1_no (tau_ne (rfl : tau 135 = .inl 2) (dic_t mo_3) (fun h => by cases h)))).2.2.2 0).trans (((hL60_ 135 rfl).2.2.2 0).trans (((fu_12 135 rfl).2.2.2 0).trans ((fu_8 135 rfl).2.2.2 0))))))).trans eo_3) dX2_addLimit_123 ?_
              refine lv_aload_n hx hb dX2_addLimit_126 rfl (lv_at hl 1 rfl) ?_
              refine g_X2_66 Cx hW (k := 135) (by decide) rfl (v := S.1 135 14) (((hL118_ 135 rfl).1 14).trans (((fu_33 135 rfl).1 14).trans (((hL83_ 135 rfl).1 14).trans (((fu_20 135 (p1_no (tau_ne (rfl : tau 135 = .inl 2) (dic_t mo_3) (fun h => by cases h)))).1 14).trans (((hL60_ 135 rfl).1 14).trans (((fu_12 135 rfl).1 14).trans ((fu_8 135 rfl).1 14))))))) dX2_addLimit_127 ?_
              refine lv_iconst (v := iv 1) hx hb dX2_addLimit_130 (by decide) ?_
              refine r_iadd hx hb dX2_addLimit_131 ?_
              refine lv_iload_n hx hb dX2_addLimit_132 rfl (lv_at hl 0 rfl) ?_
              refine sBi (sSt (As := [.int (iv ((S.1 135 14) + 1)), .int (iv j)]) (rest := [.ref (G.2.2.1 + o_3), .ref (G.2.2.1 + 147)]) Cx (s_X2_at l G S118 (i := (S.1 135 14) + 1) (j := j) (by omega) (by omega)) (c_X2_77 Cx rfl rfl (rmk_ok (by omega) (by decide))) hW rfl hl.1 rfl (Nat.le_of_ble_eq_true rfl) dX2_addLimit_133 ⟨Nat.le_of_ble_eq_true rfl, Nat.le_of_ble_eq_true rfl⟩) hL (fun r_40 u_38 H locs k_39 hW hL => ?_)
              obtain ⟨eu_38, xu_38⟩ := k_39
              rw [eu_38] at hW
              have q_41 : 0 ≤ S118.1 147 1 ∧ S118.1 147 1 ≤ 32 := hI118.fi 147 1 0 (by decide) rfl
              have q_42 : (-1) ≤ S118.1 147 2 ∧ S118.1 147 2 ≤ 1 := hI118.fi 147 2 0 (by decide) rfl
              refine sBv (sV (As := [.ref (G.2.2.1 + o_3), .int (iv r_40)]) (rest := []) (k := 147) Cx (s_X0_save l G S118 (o := 147) (k := o_3) (a := r_40) (N := 4816) hI118 rfl (dic_a mo_3) (by omega) (dicSv mo_3 (by omega)) (fun _ q => by exfalso; omega)) (c_X2_154 Cx rfl rfl (rmk_ok (by omega) (by decide))) hW (by decide) rfl rfl rfl hl.1 rfl (Nat.le_of_ble_eq_true rfl) dX2_addLimit_136 ⟨Nat.le_of_ble_eq_true rfl, Nat.le_of_ble_eq_true rfl⟩) hL (fun u_43 H locs k_44 hW hL => ?_)
              obtain ⟨iu_43, fu_43⟩ := k_44
              have F_45 := hFm118.trans (fu_43.to (p1_sub ((fun k h => pF_X k (pZ_F k h)) _ (dic_z mo_3))))
              have F_46 := hFL60118.trans (fu_43.to (p1_sub (dic_p mo_3)))
              have F_47 := hFL83118.trans (fu_43.to (p1_sub (dic_p mo_3)))
              have F_48 := hL118_.trans (fu_43.to (p1_sub (dic_p mo_3)))
              refine lv_iinc (v := iv (j + 1)) (lv' := [(3, .int (iv (j + 1))), (0, .ref (G.2.2.1 + 135)), (1, .int (iv rr)), (2, .int (iv ab))]) hx hb dX2_addLimit_139 hl (k := 0) rfl ((Int32.ofInt_add _ _).symm) (by decide) rfl (fun ls hl => ?_)
              refine lv_goto (tgt := 83) hx hb dX2_addLimit_142 (by decide) ?_
              exact ih_83 u_43 (j + 1) _ _ _ (by omega) iu_43 F_45 F_46 F_47 (by omega) hW hL (lv_sub hl [0, 1, 2, 3] rfl)
            refine lv_iload_n hx hb dX2_addLimit_107 rfl (lv_at hl 3 rfl) ?_
            refine r_if_ne (tgt := 118) hx hb ⟨(by omega), (by omega)⟩ dX2_addLimit_108 (by decide) (fun c_49 => ?_) (fun c_49 => ?_)
            · have q_50 : 0 ≤ u_33.1 147 1 ∧ u_33.1 147 1 ≤ 32 := iu_33.fi 147 1 0 (by decide) rfl
              exact join_118 u_33  _ _ _ iu_33 F_35 F_36 F_37 (Fr.rf : Fr u_33 u_33 pN) (by omega) hW hL (lv_sub hl [0, 1, 2, 3] rfl)
            · refine lv_aload_n hx hb dX2_addLimit_111 rfl (lv_at hl 1 rfl) ?_
              refine g_X2_41 Cx hW (k := 135) (by decide) rfl (v := .ref (G.2.2.1 + 147)) (rf_135_8 iu_33) dX2_addLimit_112 ?_
              have q_51 : 0 ≤ u_33.1 147 1 ∧ u_33.1 147 1 ≤ 32 := iu_33.fi 147 1 0 (by decide) rfl
              have q_52 : (-1) ≤ u_33.1 147 2 ∧ u_33.1 147 2 ≤ 1 := iu_33.fi 147 2 0 (by decide) rfl
              refine sBv (sV (As := []) (rest := []) (k := 147) Cx (s_X0_turn l G u_33 (o := 147) iu_33 rfl) (c_X2_134 Cx rfl rfl (rmk_ok (by omega) (by decide))) hW (by decide) rfl rfl rfl hl.1 rfl (Nat.le_of_ble_eq_true rfl) dX2_addLimit_115 ⟨Nat.le_of_ble_eq_true rfl, Nat.le_of_ble_eq_true rfl⟩) hL (fun u_53 H locs k_54 hW hL => ?_)
              obtain ⟨iu_53, fu_53, xu_53⟩ := k_54
              have F_55 := F_35.trans (fu_53.to (pB_sub rfl rfl))
              have F_56 := F_36.trans (fu_53.to (pB_sub rfl rfl))
              have F_57 := F_37.trans (fu_53.to (pB_sub rfl rfl))
              have F_58 := (Fr.rf : Fr u_33 u_33 pN).trans (fu_53.to (pB_sub rfl rfl))
              have q_59 : 0 ≤ u_53.1 147 1 ∧ u_53.1 147 1 ≤ 32 := iu_53.fi 147 1 0 (by decide) rfl
              exact join_118 u_53  _ _ _ iu_53 F_55 F_56 F_57 F_58 (by omega) hW hL (lv_sub hl [0, 1, 2, 3] rfl)
      exact loop_83 (_ + 1) u_20 1 _ _ _ (Nat.lt_succ_self _) iu_20 F_22 F_23 Fr.rf (by omega) hW hL (lv_sub hl [0, 1, 2, 3] rfl)
    refine lv_iload_n hx hb dX2_addLimit_34 rfl (lv_at hl 2 rfl) ?_
    refine r_if_eq (tgt := 53) hx hb ⟨(by omega), (by omega)⟩ dX2_addLimit_35 (by decide) (fun c_60 => ?_) (fun c_60 => ?_)
    · refine lv_aload_n hx hb dX2_addLimit_53 rfl (lv_at hl 0 rfl) ?_
      refine g_X2_41 Cx hW (k := 135) (by decide) rfl (v := .ref (G.2.2.1 + 147)) (rf_135_8 iu_12) dX2_addLimit_54 ?_
      have q_61 : 0 ≤ u_12.1 147 1 ∧ u_12.1 147 1 ≤ 32 := iu_12.fi 147 1 0 (by decide) rfl
      have q_62 : (-1) ≤ u_12.1 147 2 ∧ u_12.1 147 2 ≤ 1 := iu_12.fi 147 2 0 (by decide) rfl
      refine sBv (sV (As := []) (rest := []) (k := 147) Cx (s_X0_turn l G u_12 (o := 147) iu_12 rfl) (c_X2_134 Cx rfl rfl (rmk_ok (by omega) (by decide))) hW (by decide) rfl rfl rfl hl.1 rfl (Nat.le_of_ble_eq_true rfl) dX2_addLimit_57 ⟨Nat.le_of_ble_eq_true rfl, Nat.le_of_ble_eq_true rfl⟩) hL (fun u_63 H locs k_64 hW hL => ?_)
      obtain ⟨iu_63, fu_63, xu_63⟩ := k_64
      have F_65 := F_14.trans (fu_63.to (pB_sub rfl rfl))
      have F_66 := (Fr.rf : Fr u_12 u_12 pN).trans (fu_63.to (pB_sub rfl rfl))
      have q_67 : 0 ≤ u_63.1 147 1 ∧ u_63.1 147 1 ≤ 32 := iu_63.fi 147 1 0 (by decide) rfl
      exact join_60 u_63  _ _ _ iu_63 F_65 F_66 (by omega) hW hL (lv_sub hl [0, 1, 2] rfl)
    · refine lv_aload_n hx hb dX2_addLimit_38 rfl (lv_at hl 0 rfl) ?_
      refine g_X2_41 Cx hW (k := 135) (by decide) rfl (v := .ref (G.2.2.1 + 147)) (rf_135_8 iu_12) dX2_addLimit_39 ?_
      refine lv_aload_n hx hb dX2_addLimit_42 rfl (lv_at hl 0 rfl) ?_
      refine g_X2_35 Cx hW (k := 135) (by decide) rfl (v := .ref (G.2.2.1 + 143)) (rf_135_6 iu_12) dX2_addLimit_43 ?_
      refine lv_iconst (v := iv (-1)) hx hb dX2_addLimit_46 (by decide) ?_
      have q_68 : 0 ≤ u_12.1 143 1 ∧ u_12.1 143 1 ≤ 32 := iu_12.fi 143 1 0 (by decide) rfl
      have q_69 : 0 ≤ u_12.1 147 1 ∧ u_12.1 147 1 ≤ 32 := iu_12.fi 147 1 0 (by decide) rfl
      have q_70 : (-1) ≤ u_12.1 147 2 ∧ u_12.1 147 2 ≤ 1 := iu_12.fi 147 2 0 (by decide) rfl
      have q_71 : (-1) ≤ u_12.1 143 2 ∧ u_12.1 143 2 ≤ 1 := iu_12.fi 143 2 0 (by decide) rfl
      refine sBv (sV (As := [.ref (G.2.2.1 + 143), .int (iv ((-1)))]) (rest := []) (k := 147) Cx (t_X0_add_m l G u_12 (o := 147) (a := 143) (n := 6) (t := 0) iu_12 rfl rfl (show (147 : Nat) ≠ 143 by decide) (by omega) (fun q => absurd q (by omega))) (c_X2_196 Cx rfl rfl (rmk_ok (by omega) (by decide))) hW (by decide) rfl rfl rfl hl.1 rfl (Nat.le_of_ble_eq_true rfl) dX2_addLimit_47 ⟨Nat.le_of_ble_eq_true rfl, Nat.le_of_ble_eq_true rfl⟩) hL (fun u_72 H locs k_73 hW hL => ?_)
      obtain ⟨iu_72, fu_72, xu_72⟩ := k_73
      have F_74 := F_14.trans (fu_72.to (pB_sub rfl rfl))
      have F_75 := (Fr.rf : Fr u_12 u_12 pN).trans (fu_72.to (pB_sub rfl rfl))
      have hop := xu_72.2.2 (by omega)
      refine lv_goto (tgt := 60) hx hb dX2_addLimit_50 (by decide) ?_
      have q_76 : 0 ≤ u_72.1 147 1 ∧ u_72.1 147 1 ≤ 32 := iu_72.fi 147 1 0 (by decide) rfl
      exact join_60 u_72  _ _ _ iu_72 F_74 F_75 (by omega) hW hL (lv_sub hl [0, 1, 2] rfl)
  · exact sVret Cx hr hlk hW hL ⟨hI, (Fr.rf : Fr S S pX)⟩ dX2_addLimit_9

set_option maxRecDepth 100000 in
set_option maxHeartbeats 4000000 in
theorem s_X2_keep (l : Launch) (G : sG) (S : sS) {q : Int} (hI : cX G S 0 0 0) (hq : -1 ≤ q ∧ q ≤ 40) : Met l yX2_keep (.code yX2_keep cX2_keep 4 none :: tb) (rmk 2 0 0) (sPc G 294 S [.ref (G.2.2.1 + 135), .int (iv q)]) (sQv G 294 (fun u => cX G u 0 0 0 ∧ Fr S u pJ)) 0 0 (sF G) := by
  refine sEnter (by decide) (Nat.le_of_ble_eq_true rfl) ?_
  intro p e s m args below meth c Cx hr hlk hnm hW ls hl
  have Cx : sC G p m c cX2_keep 4 s args RX2 := Cx
  obtain ⟨hx, hb, hml, hown, hts⟩ := id Cx.1
  have hL : sL G [] := sL_nil
  have hl : lv_has ls 4 [(0, .ref (G.2.2.1 + 135)), (1, .int (iv q))] := hl
  have hW0 := hW
  refine lv_aload_n hx hb dX2_keep_0 rfl (lv_at hl 0 rfl) ?_
  have q_1 : 0 ≤ S.1 135 14 ∧ S.1 135 14 ≤ 40 := hI.fi 135 14 2 (by decide) rfl
  refine g_X2_66 Cx hW (k := 135) (by decide) rfl (v := S.1 135 14) rfl dX2_keep_1 ?_
  refine lv_iconst (v := iv 1) hx hb dX2_keep_4 (by decide) ?_
  refine r_iadd hx hb dX2_keep_5 ?_
  refine lv_iconst (v := iv 0) hx hb dX2_keep_6 (by decide) ?_
  refine sBi (sSt (As := [.int (iv ((S.1 135 14) + 1)), .int (iv 0)]) (rest := []) Cx (s_X2_at l G S (i := (S.1 135 14) + 1) (j := 0) (by omega) (by omega)) (c_X2_77 Cx rfl rfl (rmk_ok (by omega) (by decide))) hW rfl hl.1 rfl (Nat.le_of_ble_eq_true rfl) dX2_keep_7 ⟨Nat.le_of_ble_eq_true rfl, Nat.le_of_ble_eq_true rfl⟩) hL (fun r_4 u_2 H locs k_3 hW hL => ?_)
  obtain ⟨eu_2, xu_2⟩ := k_3
  rw [eu_2] at hW
  refine lv_istore_n (lv' := [(2, .int (iv r_4)), (0, .ref (G.2.2.1 + 135)), (1, .int (iv q))]) hx hb dX2_keep_10 rfl hl (by decide) rfl (fun ls hl => ?_)
  refine lv_aload_n hx hb dX2_keep_11 rfl (lv_at hl 1 rfl) ?_
  have q_5 : 0 ≤ S.1 135 19 ∧ S.1 135 19 ≤ 102220 := hI.fi 135 19 2 (by decide) rfl
  refine g_X2_74 Cx hW (k := 135) (by decide) rfl (v := S.1 135 19) rfl dX2_keep_12 ?_
  refine lv_iload_n hx hb dX2_keep_15 rfl (lv_at hl 0 rfl) ?_
  refine r_iadd hx hb dX2_keep_16 ?_
  refine lv_aload_n hx hb dX2_keep_17 rfl (lv_at hl 1 rfl) ?_
  refine g_X2_66 Cx hW (k := 135) (by decide) rfl (v := S.1 135 14) rfl dX2_keep_18 ?_
  refine r_iadd hx hb dX2_keep_21 ?_
  refine lv_aload_n hx hb dX2_keep_22 rfl (lv_at hl 1 rfl) ?_
  have q_6 : 0 ≤ S.1 135 15 ∧ S.1 135 15 ≤ 13 := hI.fi 135 15 2 (by decide) rfl
  refine g_X2_67 Cx hW (k := 135) (by decide) rfl (v := S.1 135 15) rfl dX2_keep_23 ?_
  refine r_iadd hx hb dX2_keep_26 ?_
  refine lv_iconst (v := iv 3) hx hb dX2_keep_27 (by decide) ?_
  refine r_iadd hx hb dX2_keep_28 ?_
  refine lv_istore_n (lv' := [(3, .int (iv (((((S.1 135 19) + r_4) + (S.1 135 14)) + (S.1 135 15)) + 3))), (2, .int (iv r_4)), (0, .ref (G.2.2.1 + 135)), (1, .int (iv q))]) hx hb dX2_keep_29 rfl hl (by decide) rfl (fun ls hl => ?_)
  refine lv_iload_n hx hb dX2_keep_30 rfl (lv_at hl 0 rfl) ?_
  refine lv_aload_n hx hb dX2_keep_31 rfl (lv_at hl 2 rfl) ?_
  refine g_X2_27 Cx hW (k := 135) (by decide) rfl (v := .ref (G.2.2.1 + 140)) (rf_135_4 hI) dX2_keep_32 ?_
  refine sAlen Cx hW (k := 140) (by decide) rfl 0 rfl dX2_keep_35 ?_
  refine r_icmp_le (tgt := 40) hx hb ⟨(by omega), (by omega)⟩ ⟨(by omega), (by omega)⟩ dX2_keep_36 (by decide) (fun c_7 => ?_) (fun c_7 => ?_)
  · obtain ⟨⟨nk, hkn⟩, hdd⟩ := hI.ko
    refine lv_aload_n hx hb dX2_keep_40 rfl (lv_at hl 2 rfl) ?_
    obtain ⟨o_8, o_9, mo_8, mo_9, no_8, eo_8, eo_9⟩ := rm_135 hI
    refine g_X2_13 Cx hW (k := 135) (by decide) rfl (v := .ref (G.2.2.1 + o_8)) eo_8 dX2_keep_41 ?_
    refine lv_iconst (v := iv 0) hx hb dX2_keep_44 (by decide) ?_
    refine lv_aload_n hx hb dX2_keep_45 rfl (lv_at hl 2 rfl) ?_
    refine g_X2_27 Cx hW (k := 135) (by decide) rfl (v := .ref (G.2.2.1 + 140)) (rf_135_4 hI) dX2_keep_46 ?_
    refine lv_aload_n hx hb dX2_keep_49 rfl (lv_at hl 2 rfl) ?_
    refine g_X2_74 Cx hW (k := 135) (by decide) rfl (v := S.1 135 19) rfl dX2_keep_50 ?_
    refine lv_iload_n hx hb dX2_keep_53 rfl (lv_at hl 1 rfl) ?_
    refine rCopyI Cx hW hL (hml.trans hl.1.symm) w_1546 w_1089 w_1088 w_224 (k0 := o_8) (k1 := 140) (dic_l mo_8) (dic_t mo_8) (by decide) rfl (by decide) (by decide) (by omega) (by omega) (by omega) (by omega) (by omega) (rmk_f (by omega)) (rmk_l (by omega) (by decide)) dX2_keep_54 (fun H locs hW hL => ?_)
    have F_10 : Fr S (uC S o_8 0 140 (S.1 135 19) r_4) pJ := (Fr.rf : Fr S S pJ).C rfl
    have i_11 : cX G (uC S o_8 0 140 (S.1 135 19) r_4) 0 0 0 := hI.kC (by omega) (fun j => sla_r (dic_a mo_8) hI j)
    refine lv_aload_n hx hb dX2_keep_57 rfl (lv_at hl 2 rfl) ?_
    refine g_X2_20 Cx hW (k := 135) (by decide) rfl (v := .ref (G.2.2.1 + 138)) (rf_135_2 i_11) dX2_keep_58 ?_
    refine lv_iconst (v := iv 1) hx hb dX2_keep_61 (by decide) ?_
    refine lv_aload_n hx hb dX2_keep_62 rfl (lv_at hl 2 rfl) ?_
    refine g_X2_27 Cx hW (k := 135) (by decide) rfl (v := .ref (G.2.2.1 + 140)) (rf_135_4 i_11) dX2_keep_63 ?_
    refine lv_aload_n hx hb dX2_keep_66 rfl (lv_at hl 2 rfl) ?_
    refine g_X2_74 Cx hW (k := 135) (by decide) rfl (v := S.1 135 19) uC_f dX2_keep_67 ?_
    refine lv_iload_n hx hb dX2_keep_70 rfl (lv_at hl 1 rfl) ?_
    refine r_iadd hx hb dX2_keep_71 ?_
    refine lv_aload_n hx hb dX2_keep_72 rfl (lv_at hl 2 rfl) ?_
    refine g_X2_66 Cx hW (k := 135) (by decide) rfl (v := S.1 135 14) uC_f dX2_keep_73 ?_
    refine rCopyI Cx hW hL (hml.trans hl.1.symm) w_1546 w_1089 w_1088 w_224 (k0 := 138) (k1 := 140) (by decide) rfl (by decide) rfl (by decide) (by decide) (by omega) (by omega) (by omega) (by omega) (by omega) (rmk_f (by omega)) (rmk_l (by omega) (by decide)) dX2_keep_76 (fun H locs hW hL => ?_)
    have lk_12 : (uC S o_8 0 140 (S.1 135 19) r_4).1 135 19 = S.1 135 19 := uC_f
    have lk_13 : (uC S o_8 0 140 (S.1 135 19) r_4).1 135 14 = S.1 135 14 := uC_f
    have lk_14 : (uC S o_8 0 140 (S.1 135 19) r_4).1 135 15 = S.1 135 15 := uC_f
    have F_15 : Fr S (uC (uC S o_8 0 140 (S.1 135 19) r_4) 138 1 140 ((S.1 135 19) + r_4) (S.1 135 14)) pJ := F_10.C rfl
    have i_16 : cX G (uC (uC S o_8 0 140 (S.1 135 19) r_4) 138 1 140 ((S.1 135 19) + r_4) (S.1 135 14)) 0 0 0 := i_11.kC (by omega) (fun j => i_11.ai 138 j (by decide))
    refine lv_aload_n hx hb dX2_keep_79 rfl (lv_at hl 2 rfl) ?_
    refine g_X2_23 Cx hW (k := 135) (by decide) rfl (v := .ref (G.2.2.1 + 139)) (rf_135_3 i_16) dX2_keep_80 ?_
    refine lv_iconst (v := iv 1) hx hb dX2_keep_83 (by decide) ?_
    refine lv_aload_n hx hb dX2_keep_84 rfl (lv_at hl 2 rfl) ?_
    refine g_X2_27 Cx hW (k := 135) (by decide) rfl (v := .ref (G.2.2.1 + 140)) (rf_135_4 i_16) dX2_keep_85 ?_
    refine lv_aload_n hx hb dX2_keep_88 rfl (lv_at hl 2 rfl) ?_
    refine g_X2_74 Cx hW (k := 135) (by decide) rfl (v := S.1 135 19) ((uC_f).trans (uC_f)) dX2_keep_89 ?_
    refine lv_iload_n hx hb dX2_keep_92 rfl (lv_at hl 1 rfl) ?_
    refine r_iadd hx hb dX2_keep_93 ?_
    refine lv_aload_n hx hb dX2_keep_94 rfl (lv_at hl 2 rfl) ?_
    refine g_X2_66 Cx hW (k := 135) (by decide) rfl (v := S.1 135 14) ((uC_f).trans (uC_f)) dX2_keep_95 ?_
    refine r_iadd hx hb dX2_keep_98 ?_
    refine lv_aload_n hx hb dX2_keep_99 rfl (lv_at hl 2 rfl) ?_
    refine g_X2_67 Cx hW (k := 135) (by decide) rfl (v := S.1 135 15) ((uC_f).trans (uC_f)) dX2_keep_100 ?_
    refine rCopyI Cx hW hL (hml.trans hl.1.symm) w_1546 w_1089 w_1088 w_224 (k0 := 139) (k1 := 140) (by decide) rfl (by decide) rfl (by decide) (by decide) (by omega) (by omega) (by omega) (by omega) (by omega) (rmk_f (by omega)) (rmk_l (by omega) (by decide)) dX2_keep_103 (fun H locs hW hL => ?_)
    have lk_17 : (uC (uC S o_8 0 140 (S.1 135 19) r_4) 138 1 140 ((S.1 135 19) + r_4) (S.1 135 14)).1 135 19 = S.1 135 19 := (uC_f).trans (uC_f)
    have lk_18 : (uC (uC S o_8 0 140 (S.1 135 19) r_4) 138 1 140 ((S.1 135 19) + r_4) (S.1 135 14)).1 135 14 = S.1 135 14 := (uC_f).trans (uC_f)
    have lk_19 : (uC (uC S o_8 0 140 (S.1 135 19) r_4) 138 1 140 ((S.1 135 19) + r_4) (S.1 135 14)).1 135 15 = S.1 135 15 := (uC_f).trans (uC_f)
    have F_20 : Fr S (uC (uC (uC S o_8 0 140 (S.1 135 19) r_4) 138 1 140 ((S.1 135 19) + r_4) (S.1 135 14)) 139 1 140 (((S.1 135 19) + r_4) + (S.1 135 14)) (S.1 135 15)) pJ := F_15.C rfl
    have i_21 : cX G (uC (uC (uC S o_8 0 140 (S.1 135 19) r_4) 138 1 140 ((S.1 135 19) + r_4) (S.1 135 14)) 139 1 140 (((S.1 135 19) + r_4) + (S.1 135 14)) (S.1 135 15)) 0 0 0 := i_16.kC (by omega) (fun j => i_16.ai 139 j (by decide))
    refine lv_aload_n hx hb dX2_keep_106 rfl (lv_at hl 2 rfl) ?_
    refine g_X2_27 Cx hW (k := 135) (by decide) rfl (v := .ref (G.2.2.1 + 140)) (rf_135_4 i_21) dX2_keep_107 ?_
    refine lv_iload_n hx hb dX2_keep_110 rfl (lv_at hl 0 rfl) ?_
    refine lv_iconst (v := iv 3) hx hb dX2_keep_111 (by decide) ?_
    refine r_isub hx hb dX2_keep_112 ?_
    refine lv_iload_n hx hb dX2_keep_113 rfl (lv_at hl 3 rfl) ?_
    refine rIast Cx hW hL (k := 140) (by decide) rfl (by decide) (by omega) (by omega) dX2_keep_114 (fun H locs hW hL => ?_)
    have lk_22 : (uC (uC (uC S o_8 0 140 (S.1 135 19) r_4) 138 1 140 ((S.1 135 19) + r_4) (S.1 135 14)) 139 1 140 (((S.1 135 19) + r_4) + (S.1 135 14)) (S.1 135 15)).1 135 19 = S.1 135 19 := (uC_f).trans ((uC_f).trans (uC_f))
    have lk_23 : (uC (uC (uC S o_8 0 140 (S.1 135 19) r_4) 138 1 140 ((S.1 135 19) + r_4) (S.1 135 14)) 139 1 140 (((S.1 135 19) + r_4) + (S.1 135 14)) (S.1 135 15)).1 135 14 = S.1 135 14 := (uC_f).trans ((uC_f).trans (uC_f))
    have lk_24 : (uC (uC (uC S o_8 0 140 (S.1 135 19) r_4) 138 1 140 ((S.1 135 19) + r_4) (S.1 135 14)) 139 1 140 (((S.1 135 19) + r_4) + (S.1 135 14)) (S.1 135 15)).1 135 15 = S.1 135 15 := (uC_f).trans ((uC_f).trans (uC_f))
    have F_25 : Fr S (uA (uC (uC (uC S o_8 0 140 (S.1 135 19) r_4) 138 1 140 ((S.1 135 19) + r_4) (S.1 135 14)) 139 1 140 (((S.1 135 19) + r_4) + (S.1 135 14)) (S.1 135 15)) 140 ((((((S.1 135 19) + r_4) + (S.1 135 14)) + (S.1 135 15)) + 3) - 3) q) pJ := F_20.A rfl
    have i_26 : cX G (uA (uC (uC (uC S o_8 0 140 (S.1 135 19) r_4) 138 1 140 ((S.1 135 19) + r_4) (S.1 135 14)) 139 1 140 (((S.1 135 19) + r_4) + (S.1 135 14)) (S.1 135 15)) 140 ((((((S.1 135 19) + r_4) + (S.1 135 14)) + (S.1 135 15)) + 3) - 3) q) 0 0 0 := i_21.kA (by omega) ⟨by omega, by omega⟩
    refine lv_aload_n hx hb dX2_keep_115 rfl (lv_at hl 2 rfl) ?_
    refine g_X2_27 Cx hW (k := 135) (by decide) rfl (v := .ref (G.2.2.1 + 140)) (rf_135_4 i_26) dX2_keep_116 ?_
    refine lv_iload_n hx hb dX2_keep_119 rfl (lv_at hl 0 rfl) ?_
    refine lv_iconst (v := iv 2) hx hb dX2_keep_120 (by decide) ?_
    refine r_isub hx hb dX2_keep_121 ?_
    refine lv_aload_n hx hb dX2_keep_122 rfl (lv_at hl 2 rfl) ?_
    refine g_X2_66 Cx hW (k := 135) (by decide) rfl (v := S.1 135 14) ((uA_f).trans ((uC_f).trans ((uC_f).trans (uC_f)))) dX2_keep_123 ?_
    refine rIast Cx hW hL (k := 140) (by decide) rfl (by decide) (by omega) (by omega) dX2_keep_126 (fun H locs hW hL => ?_)
    have lk_27 : (uA (uC (uC (uC S o_8 0 140 (S.1 135 19) r_4) 138 1 140 ((S.1 135 19) + r_4) (S.1 135 14)) 139 1 140 (((S.1 135 19) + r_4) + (S.1 135 14)) (S.1 135 15)) 140 ((((((S.1 135 19) + r_4) + (S.1 135 14)) + (S.1 135 15)) + 3) - 3) q).1 135 19 = S.1 135 19 := (uA_f).trans ((uC_f).trans ((uC_f).trans (uC_f)))
    have lk_28 : (uA (uC (uC (uC S o_8 0 140 (S.1 135 19) r_4) 138 1 140 ((S.1 135 19) + r_4) (S.1 135 14)) 139 1 140 (((S.1 135 19) + r_4) + (S.1 135 14)) (S.1 135 15)) 140 ((((((S.1 135 19) + r_4) + (S.1 135 14)) + (S.1 135 15)) + 3) - 3) q).1 135 14 = S.1 135 14 := (uA_f).trans ((uC_f).trans ((uC_f).trans (uC_f)))
    have lk_29 : (uA (uC (uC (uC S o_8 0 140 (S.1 135 19) r_4) 138 1 140 ((S.1 135 19) + r_4) (S.1 135 14)) 139 1 140 (((S.1 135 19) + r_4) + (S.1 135 14)) (S.1 135 15)) 140 ((((((S.1 135 19) + r_4) + (S.1 135 14)) + (S.1 135 15)) + 3) - 3) q).1 135 15 = S.1 135 15 := (uA_f).trans ((uC_f).trans ((uC_f).trans (uC_f)))
    have F_30 : Fr S (uA (uA (uC (uC (uC S o_8 0 140 (S.1 135 19) r_4) 138 1 140 ((S.1 135 19) + r_4) (S.1 135 14)) 139 1 140 (((S.1 135 19) + r_4) + (S.1 135 14)) (S.1 135 15)) 140 ((((((S.1 135 19) + r_4) + (S.1 135 14)) + (S.1 135 15)) + 3) - 3) q) 140 ((((((S.1 135 19) + r_4) + (S.1 135 14)) + (S.1 135 15)) + 3) - 2) (S.1 135 14)) pJ := F_25.A rfl
    have i_31 : cX G (uA (uA (uC (uC (uC S o_8 0 140 (S.1 135 19) r_4) 138 1 140 ((S.1 135 19) + r_4) (S.1 135 14)) 139 1 140 (((S.1 135 19) + r_4) + (S.1 135 14)) (S.1 135 15)) 140 ((((((S.1 135 19) + r_4) + (S.1 135 14)) + (S.1 135 15)) + 3) - 3) q) 140 ((((((S.1 135 19) + r_4) + (S.1 135 14)) + (S.1 135 15)) + 3) - 2) (S.1 135 14)) 0 0 0 := i_26.kA (by omega) ⟨by omega, by omega⟩
    refine lv_aload_n hx hb dX2_keep_127 rfl (lv_at hl 2 rfl) ?_
    refine g_X2_27 Cx hW (k := 135) (by decide) rfl (v := .ref (G.2.2.1 + 140)) (rf_135_4 i_31) dX2_keep_128 ?_
    refine lv_iload_n hx hb dX2_keep_131 rfl (lv_at hl 0 rfl) ?_
    refine lv_iconst (v := iv 1) hx hb dX2_keep_132 (by decide) ?_
    refine r_isub hx hb dX2_keep_133 ?_
    refine lv_aload_n hx hb dX2_keep_134 rfl (lv_at hl 2 rfl) ?_
    refine g_X2_67 Cx hW (k := 135) (by decide) rfl (v := S.1 135 15) ((uA_f).trans ((uA_f).trans ((uC_f).trans ((uC_f).trans (uC_f))))) dX2_keep_135 ?_
    refine rIast Cx hW hL (k := 140) (by decide) rfl (by decide) (by omega) (by omega) dX2_keep_138 (fun H locs hW hL => ?_)
    have lk_32 : (uA (uA (uC (uC (uC S o_8 0 140 (S.1 135 19) r_4) 138 1 140 ((S.1 135 19) + r_4) (S.1 135 14)) 139 1 140 (((S.1 135 19) + r_4) + (S.1 135 14)) (S.1 135 15)) 140 ((((((S.1 135 19) + r_4) + (S.1 135 14)) + (S.1 135 15)) + 3) - 3) q) 140 ((((((S.1 135 19) + r_4) + (S.1 135 14)) + (S.1 135 15)) + 3) - 2) (S.1 135 14)).1 135 19 = S.1 135 19 := (uA_f).trans ((uA_f).trans ((uC_f).trans ((uC_f).trans (uC_f))))
    have lk_33 : (uA (uA (uC (uC (uC S o_8 0 140 (S.1 135 19) r_4) 138 1 140 ((S.1 135 19) + r_4) (S.1 135 14)) 139 1 140 (((S.1 135 19) + r_4) + (S.1 135 14)) (S.1 135 15)) 140 ((((((S.1 135 19) + r_4) + (S.1 135 14)) + (S.1 135 15)) + 3) - 3) q) 140 ((((((S.1 135 19) + r_4) + (S.1 135 14)) + (S.1 135 15)) + 3) - 2) (S.1 135 14)).1 135 14 = S.1 135 14 := (uA_f).trans ((uA_f).trans ((uC_f).trans ((uC_f).trans (uC_f))))
    have lk_34 : (uA (uA (uC (uC (uC S o_8 0 140 (S.1 135 19) r_4) 138 1 140 ((S.1 135 19) + r_4) (S.1 135 14)) 139 1 140 (((S.1 135 19) + r_4) + (S.1 135 14)) (S.1 135 15)) 140 ((((((S.1 135 19) + r_4) + (S.1 135 14)) + (S.1 135 15)) + 3) - 3) q) 140 ((((((S.1 135 19) + r_4) + (S.1 135 14)) + (S.1 135 15)) + 3) - 2) (S.1 135 14)).1 135 15 = S.1 135 15 := (uA_f).trans ((uA_f).trans ((uC_f).trans ((uC_f).trans (uC_f))))
    have F_35 : Fr S (uA (uA (uA (uC (uC (uC S o_8 0 140 (S.1 135 19) r_4) 138 1 140 ((S.1 135 19) + r_4) (S.1 135 14)) 139 1 140 (((S.1 135 19) + r_4) + (S.1 135 14)) (S.1 135 15)) 140 ((((((S.1 135 19) + r_4) + (S.1 135 14)) + (S.1 135 15)) + 3) - 3) q) 140 ((((((S.1 135 19) + r_4) + (S.1 135 14)) + (S.1 135 15)) + 3) - 2) (S.1 135 14)) 140 ((((((S.1 135 19) + r_4) + (S.1 135 14)) + (S.1 135 15)) + 3) - 1) (S.1 135 15)) pJ := F_30.A rfl
    have i_36 : cX G (uA (uA (uA (uC (uC (uC S o_8 0 140 (S.1 135 19) r_4) 138 1 140 ((S.1 135 19) + r_4) (S.1 135 14)) 139 1 140 (((S.1 135 19) + r_4) + (S.1 135 14)) (S.1 135 15)) 140 ((((((S.1 135 19) + r_4) + (S.1 135 14)) + (S.1 135 15)) + 3) - 3) q) 140 ((((((S.1 135 19) + r_4) + (S.1 135 14)) + (S.1 135 15)) + 3) - 2) (S.1 135 14)) 140 ((((((S.1 135 19) + r_4) + (S.1 135 14)) + (S.1 135 15)) + 3) - 1) (S.1 135 15)) 0 0 0 := i_31.kA (by omega) ⟨by omega, by omega⟩
    refine lv_aload_n hx hb dX2_keep_139 rfl (lv_at hl 2 rfl) ?_
    refine lv_iload_n hx hb dX2_keep_140 rfl (lv_at hl 0 rfl) ?_
    refine p_X2_74 Cx hW hL (k := 135) (by decide) rfl dX2_keep_141 (fun H locs hW hL => ?_)
    have F_37 : Fr S (uF (uA (uA (uA (uC (uC (uC S o_8 0 140 (S.1 135 19) r_4) 138 1 140 ((S.1 135 19) + r_4) (S.1 135 14)) 139 1 140 (((S.1 135 19) + r_4) + (S.1 135 14)) (S.1 135 15)) 140 ((((((S.1 135 19) + r_4) + (S.1 135 14)) + (S.1 135 15)) + 3) - 3) q) 140 ((((((S.1 135 19) + r_4) + (S.1 135 14)) + (S.1 135 15)) + 3) - 2) (S.1 135 14)) 140 ((((((S.1 135 19) + r_4) + (S.1 135 14)) + (S.1 135 15)) + 3) - 1) (S.1 135 15)) 135 19 (((((S.1 135 19) + r_4) + (S.1 135 14)) + (S.1 135 15)) + 3)) pJ := F_35.F rfl
    have i_38 : cX G (uF (uA (uA (uA (uC (uC (uC S o_8 0 140 (S.1 135 19) r_4) 138 1 140 ((S.1 135 19) + r_4) (S.1 135 14)) 139 1 140 (((S.1 135 19) + r_4) + (S.1 135 14)) (S.1 135 15)) 140 ((((((S.1 135 19) + r_4) + (S.1 135 14)) + (S.1 135 15)) + 3) - 3) q) 140 ((((((S.1 135 19) + r_4) + (S.1 135 14)) + (S.1 135 15)) + 3) - 2) (S.1 135 14)) 140 ((((((S.1 135 19) + r_4) + (S.1 135 14)) + (S.1 135 15)) + 3) - 1) (S.1 135 15)) 135 19 (((((S.1 135 19) + r_4) + (S.1 135 14)) + (S.1 135 15)) + 3)) 0 0 0 := i_36.kend ⟨by omega, by omega⟩ (keepK hkn (by omega) mo_8 (by omega) (by omega) hq (by omega) (by omega) (by omega) (by omega) (by omega) (by omega) (by omega) (fun j => hI.ai 140 j (by decide)) (fun j => hI.ai 138 j (by decide)) (fun j => hI.ai 139 j (by decide)) (fun j => sla_r (dic_a mo_8) hI j) (dicD hI mo_8) (fun a a0 a1 a2 => dicS hI mo_8 (by omega)))
    exact sVret Cx hr hlk hW hL ⟨i_38, F_37⟩ dX2_keep_144
  · exact sVret Cx hr hlk hW hL ⟨hI, (Fr.rf : Fr S S pJ)⟩ dX2_keep_39

set_option maxRecDepth 100000 in
set_option maxHeartbeats 4000000 in
theorem s_X2_restore (l : Launch) (G : sG) (S : sS)  (hI : cX G S 0 0 0) : Met l yX2_restore (.code yX2_restore cX2_restore 6 (some .int) :: tb) (rmk 2 0 0) (sPc G 294 S [.ref (G.2.2.1 + 135)]) (sQi G 294 (fun r u => cX G u 0 0 0 ∧ Fr S u pX ∧ (-1 ≤ r ∧ r ≤ 40))) 0 0 (sF G) := by
  refine sEnter (by decide) (Nat.le_of_ble_eq_true rfl) ?_
  intro p e s m args below meth c Cx hr hlk hnm hW ls hl
  have Cx : sC G p m c cX2_restore 6 s args RX2 := Cx
  obtain ⟨hx, hb, hml, hown, hts⟩ := id Cx.1
  have hL : sL G [] := sL_nil
  have hl : lv_has ls 6 [(0, .ref (G.2.2.1 + 135))] := hl
  have hW0 := hW
  refine lv_aload_n hx hb dX2_restore_0 rfl (lv_at hl 0 rfl) ?_
  have q_1 : 0 ≤ S.1 135 19 ∧ S.1 135 19 ≤ 102220 := hI.fi 135 19 2 (by decide) rfl
  refine g_X2_74 Cx hW (k := 135) (by decide) rfl (v := S.1 135 19) rfl dX2_restore_1 ?_
  refine lv_iconst (v := iv 3) hx hb dX2_restore_4 (by decide) ?_
  refine r_icmp_ge (tgt := 10) hx hb ⟨(by omega), (by omega)⟩ ⟨(by omega), (by omega)⟩ dX2_restore_5 (by decide) (fun c_2 => ?_) (fun c_2 => ?_)
  · obtain ⟨⟨nk, hkn⟩, hdd⟩ := hI.ko
    have hop := hkn.op (by omega)
    have ho1 := hop.1
    have ho2 := hop.2.1
    have ho3 := hop.2.2.1
    refine lv_aload_n hx hb dX2_restore_10 rfl (lv_at hl 0 rfl) ?_
    refine g_X2_27 Cx hW (k := 135) (by decide) rfl (v := .ref (G.2.2.1 + 140)) (rf_135_4 hI) dX2_restore_11 ?_
    refine lv_aload_n hx hb dX2_restore_14 rfl (lv_at hl 0 rfl) ?_
    refine g_X2_74 Cx hW (k := 135) (by decide) rfl (v := S.1 135 19) rfl dX2_restore_15 ?_
    refine lv_iconst (v := iv 3) hx hb dX2_restore_18 (by decide) ?_
    refine r_isub hx hb dX2_restore_19 ?_
    refine rIald Cx hW (k := 140) (by decide) rfl (by decide) (by omega) (by omega) dX2_restore_20 ?_
    have q_3 : (-2147483648) ≤ S.2.1 140 ((S.1 135 19) - 3) ∧ S.2.1 140 ((S.1 135 19) - 3) ≤ 2147483647 := hI.ai 140 ((S.1 135 19) - 3) (by decide)
    refine r_i (b := S.2.1 140 ((S.1 135 19) - 3)) rfl ?_
    refine lv_istore_n (lv' := [(1, .int (iv (S.2.1 140 ((S.1 135 19) - 3)))), (0, .ref (G.2.2.1 + 135))]) hx hb dX2_restore_21 rfl hl (by decide) rfl (fun ls hl => ?_)
    refine lv_aload_n hx hb dX2_restore_22 rfl (lv_at hl 1 rfl) ?_
    refine g_X2_27 Cx hW (k := 135) (by decide) rfl (v := .ref (G.2.2.1 + 140)) (rf_135_4 hI) dX2_restore_23 ?_
    refine lv_aload_n hx hb dX2_restore_26 rfl (lv_at hl 1 rfl) ?_
    refine g_X2_74 Cx hW (k := 135) (by decide) rfl (v := S.1 135 19) rfl dX2_restore_27 ?_
    refine lv_iconst (v := iv 2) hx hb dX2_restore_30 (by decide) ?_
    refine r_isub hx hb dX2_restore_31 ?_
    refine rIald Cx hW (k := 140) (by decide) rfl (by decide) (by omega) (by omega) dX2_restore_32 ?_
    have q_4 : (-2147483648) ≤ S.2.1 140 ((S.1 135 19) - 2) ∧ S.2.1 140 ((S.1 135 19) - 2) ≤ 2147483647 := hI.ai 140 ((S.1 135 19) - 2) (by decide)
    refine r_i (b := S.2.1 140 ((S.1 135 19) - 2)) rfl ?_
    refine lv_istore_n (lv' := [(2, .int (iv (S.2.1 140 ((S.1 135 19) - 2)))), (1, .int (iv (S.2.1 140 ((S.1 135 19) - 3)))), (0, .ref (G.2.2.1 + 135))]) hx hb dX2_restore_33 rfl hl (by decide) rfl (fun ls hl => ?_)
    refine lv_aload_n hx hb dX2_restore_34 rfl (lv_at hl 2 rfl) ?_
    refine g_X2_27 Cx hW (k := 135) (by decide) rfl (v := .ref (G.2.2.1 + 140)) (rf_135_4 hI) dX2_restore_35 ?_
    refine lv_aload_n hx hb dX2_restore_38 rfl (lv_at hl 2 rfl) ?_
    refine g_X2_74 Cx hW (k := 135) (by decide) rfl (v := S.1 135 19) rfl dX2_restore_39 ?_
    refine lv_iconst (v := iv 1) hx hb dX2_restore_42 (by decide) ?_
    refine r_isub hx hb dX2_restore_43 ?_
    refine rIald Cx hW (k := 140) (by decide) rfl (by decide) (by omega) (by omega) dX2_restore_44 ?_
    have q_5 : (-2147483648) ≤ S.2.1 140 ((S.1 135 19) - 1) ∧ S.2.1 140 ((S.1 135 19) - 1) ≤ 2147483647 := hI.ai 140 ((S.1 135 19) - 1) (by decide)
    refine r_i (b := S.2.1 140 ((S.1 135 19) - 1)) rfl ?_
    refine lv_istore_n (lv' := [(3, .int (iv (S.2.1 140 ((S.1 135 19) - 1)))), (2, .int (iv (S.2.1 140 ((S.1 135 19) - 2)))), (1, .int (iv (S.2.1 140 ((S.1 135 19) - 3)))), (0, .ref (G.2.2.1 + 135))]) hx hb dX2_restore_45 rfl hl (by decide) rfl (fun ls hl => ?_)
    refine lv_iload_n hx hb dX2_restore_46 rfl (lv_at hl 1 rfl) ?_
    refine lv_iconst (v := iv 1) hx hb dX2_restore_47 (by decide) ?_
    refine r_iadd hx hb dX2_restore_48 ?_
    refine lv_iconst (v := iv 0) hx hb dX2_restore_49 (by decide) ?_
    refine sBi (sSt (As := [.int (iv ((S.2.1 140 ((S.1 135 19) - 2)) + 1)), .int (iv 0)]) (rest := []) Cx (s_X2_at l G S (i := (S.2.1 140 ((S.1 135 19) - 2)) + 1) (j := 0) (by omega) (by omega)) (c_X2_77 Cx rfl rfl (rmk_ok (by omega) (by decide))) hW rfl hl.1 rfl (Nat.le_of_ble_eq_true rfl) dX2_restore_50 ⟨Nat.le_of_ble_eq_true rfl, Nat.le_of_ble_eq_true rfl⟩) hL (fun r_8 u_6 H locs k_7 hW hL => ?_)
    obtain ⟨eu_6, xu_6⟩ := k_7
    rw [eu_6] at hW
    refine lv_istore (lv' := [(4, .int (iv r_8)), (3, .int (iv (S.2.1 140 ((S.1 135 19) - 1)))), (2, .int (iv (S.2.1 140 ((S.1 135 19) - 2)))), (1, .int (iv (S.2.1 140 ((S.1 135 19) - 3)))), (0, .ref (G.2.2.1 + 135))]) hx hb dX2_restore_53 hl (by decide) rfl (fun ls hl => ?_)
    refine lv_aload_n hx hb dX2_restore_55 rfl (lv_at hl 4 rfl) ?_
    refine g_X2_74 Cx hW (k := 135) (by decide) rfl (v := S.1 135 19) rfl dX2_restore_56 ?_
    refine lv_iconst (v := iv 3) hx hb dX2_restore_59 (by decide) ?_
    refine r_isub hx hb dX2_restore_60 ?_
    refine lv_iload_n hx hb dX2_restore_61 rfl (lv_at hl 1 rfl) ?_
    refine r_isub hx hb dX2_restore_62 ?_
    refine lv_iload_n hx hb dX2_restore_63 rfl (lv_at hl 2 rfl) ?_
    refine r_isub hx hb dX2_restore_64 ?_
    refine lv_iload hx hb dX2_restore_65 (lv_at hl 0 rfl) ?_
    refine r_isub hx hb dX2_restore_67 ?_
    refine lv_istore (lv' := [(5, .int (iv (((((S.1 135 19) - 3) - (S.2.1 140 ((S.1 135 19) - 1))) - (S.2.1 140 ((S.1 135 19) - 2))) - r_8))), (4, .int (iv r_8)), (3, .int (iv (S.2.1 140 ((S.1 135 19) - 1)))), (2, .int (iv (S.2.1 140 ((S.1 135 19) - 2)))), (1, .int (iv (S.2.1 140 ((S.1 135 19) - 3)))), (0, .ref (G.2.2.1 + 135))]) hx hb dX2_restore_68 hl (by decide) rfl (fun ls hl => ?_)
    refine lv_iload hx hb dX2_restore_70 (lv_at hl 0 rfl) ?_
    refine r_if_ge (tgt := 77) hx hb ⟨(by omega), (by omega)⟩ dX2_restore_72 (by decide) (fun c_9 => ?_) (fun c_9 => ?_)
    · refine lv_aload_n hx hb dX2_restore_77 rfl (lv_at hl 5 rfl) ?_
      refine g_X2_27 Cx hW (k := 135) (by decide) rfl (v := .ref (G.2.2.1 + 140)) (rf_135_4 hI) dX2_restore_78 ?_
      refine lv_iload hx hb dX2_restore_81 (lv_at hl 0 rfl) ?_
      refine lv_aload_n hx hb dX2_restore_83 rfl (lv_at hl 5 rfl) ?_
      obtain ⟨o_10, o_11, mo_10, mo_11, no_10, eo_10, eo_11⟩ := rm_135 hI
      refine g_X2_13 Cx hW (k := 135) (by decide) rfl (v := .ref (G.2.2.1 + o_10)) eo_10 dX2_restore_84 ?_
      refine lv_iconst (v := iv 0) hx hb dX2_restore_87 (by decide) ?_
      refine lv_iload hx hb dX2_restore_88 (lv_at hl 1 rfl) ?_
      refine rCopyI Cx hW hL (hml.trans hl.1.symm) w_1546 w_1089 w_1088 w_224 (k0 := 140) (k1 := o_10) (by decide) rfl (dic_l mo_10) (dic_t mo_10) (by decide) (by decide) (by omega) (by omega) (by omega) (by omega) (by omega) (rmk_f (by omega)) (rmk_l (by omega) (by decide)) dX2_restore_90 (fun H locs hW hL => ?_)
      have ebg : ((((S.1 135 19) - 3) - (S.2.1 140 ((S.1 135 19) - 1))) - (S.2.1 140 ((S.1 135 19) - 2))) - r_8 = S.1 135 19 - 3 - S.2.1 140 (S.1 135 19 - 1) - S.2.1 140 (S.1 135 19 - 2) - (S.2.1 140 (S.1 135 19 - 2) + 3) * 112 := by omega
      have F_12 : Fr S (uC S 140 (((((S.1 135 19) - 3) - (S.2.1 140 ((S.1 135 19) - 1))) - (S.2.1 140 ((S.1 135 19) - 2))) - r_8) o_10 0 r_8) pX := (Fr.rf : Fr S S pX).C ((fun k h => pF_X k (pZ_F k h)) _ (dic_z mo_10))
      have i_13 : cX G (uC S 140 (((((S.1 135 19) - 3) - (S.2.1 140 ((S.1 135 19) - 1))) - (S.2.1 140 ((S.1 135 19) - 2))) - r_8) o_10 0 r_8) 0 0 0 := hI.rest mo_10 (by omega) (by rw [ebg]; exact hop.2.2.2.2.1) (fun j _ _ => hI.ai 140 _ (by decide)) (by rw [ebg]; intro a a0 a1 a2; exact hop.2.2.2.2.2.1 a a0 a1 (by omega))
      refine lv_aload_n hx hb dX2_restore_93 rfl (lv_at hl 5 rfl) ?_
      refine g_X2_27 Cx hW (k := 135) (by decide) rfl (v := .ref (G.2.2.1 + 140)) (rf_135_4 i_13) dX2_restore_94 ?_
      refine lv_iload hx hb dX2_restore_97 (lv_at hl 0 rfl) ?_
      refine lv_iload hx hb dX2_restore_99 (lv_at hl 1 rfl) ?_
      refine r_iadd hx hb dX2_restore_101 ?_
      refine lv_aload_n hx hb dX2_restore_102 rfl (lv_at hl 5 rfl) ?_
      refine g_X2_20 Cx hW (k := 135) (by decide) rfl (v := .ref (G.2.2.1 + 138)) (rf_135_2 i_13) dX2_restore_103 ?_
      refine lv_iconst (v := iv 1) hx hb dX2_restore_106 (by decide) ?_
      refine lv_iload_n hx hb dX2_restore_107 rfl (lv_at hl 3 rfl) ?_
      refine rCopyI Cx hW hL (hml.trans hl.1.symm) w_1546 w_1089 w_1088 w_224 (k0 := 140) (k1 := 138) (by decide) rfl (by decide) rfl (by decide) (by decide) (by omega) (by omega) (by omega) (by omega) (by omega) (rmk_f (by omega)) (rmk_l (by omega) (by decide)) dX2_restore_108 (fun H locs hW hL => ?_)
      have F_14 : Fr S (uC (uC S 140 (((((S.1 135 19) - 3) - (S.2.1 140 ((S.1 135 19) - 1))) - (S.2.1 140 ((S.1 135 19) - 2))) - r_8) o_10 0 r_8) 140 ((((((S.1 135 19) - 3) - (S.2.1 140 ((S.1 135 19) - 1))) - (S.2.1 140 ((S.1 135 19) - 2))) - r_8) + r_8) 138 1 (S.2.1 140 ((S.1 135 19) - 2))) pX := F_12.C rfl
      have i_15 : cX G (uC (uC S 140 (((((S.1 135 19) - 3) - (S.2.1 140 ((S.1 135 19) - 1))) - (S.2.1 140 ((S.1 135 19) - 2))) - r_8) o_10 0 r_8) 140 ((((((S.1 135 19) - 3) - (S.2.1 140 ((S.1 135 19) - 1))) - (S.2.1 140 ((S.1 135 19) - 2))) - r_8) + r_8) 138 1 (S.2.1 140 ((S.1 135 19) - 2))) 0 0 0 := i_13.plC rfl (fun j _ _ => i_13.ai 140 _ (by decide))
      refine lv_aload_n hx hb dX2_restore_111 rfl (lv_at hl 5 rfl) ?_
      refine g_X2_27 Cx hW (k := 135) (by decide) rfl (v := .ref (G.2.2.1 + 140)) (rf_135_4 i_15) dX2_restore_112 ?_
      refine lv_iload hx hb dX2_restore_115 (lv_at hl 0 rfl) ?_
      refine lv_iload hx hb dX2_restore_117 (lv_at hl 1 rfl) ?_
      refine r_iadd hx hb dX2_restore_119 ?_
      refine lv_iload_n hx hb dX2_restore_120 rfl (lv_at hl 3 rfl) ?_
      refine r_iadd hx hb dX2_restore_121 ?_
      refine lv_aload_n hx hb dX2_restore_122 rfl (lv_at hl 5 rfl) ?_
      refine g_X2_23 Cx hW (k := 135) (by decide) rfl (v := .ref (G.2.2.1 + 139)) (rf_135_3 i_15) dX2_restore_123 ?_
      refine lv_iconst (v := iv 1) hx hb dX2_restore_126 (by decide) ?_
      refine lv_iload_n hx hb dX2_restore_127 rfl (lv_at hl 2 rfl) ?_
      refine rCopyI Cx hW hL (hml.trans hl.1.symm) w_1546 w_1089 w_1088 w_224 (k0 := 140) (k1 := 139) (by decide) rfl (by decide) rfl (by decide) (by decide) (by omega) (by omega) (by omega) (by omega) (by omega) (rmk_f (by omega)) (rmk_l (by omega) (by decide)) dX2_restore_128 (fun H locs hW hL => ?_)
      have F_16 : Fr S (uC (uC (uC S 140 (((((S.1 135 19) - 3) - (S.2.1 140 ((S.1 135 19) - 1))) - (S.2.1 140 ((S.1 135 19) - 2))) - r_8) o_10 0 r_8) 140 ((((((S.1 135 19) - 3) - (S.2.1 140 ((S.1 135 19) - 1))) - (S.2.1 140 ((S.1 135 19) - 2))) - r_8) + r_8) 138 1 (S.2.1 140 ((S.1 135 19) - 2))) 140 (((((((S.1 135 19) - 3) - (S.2.1 140 ((S.1 135 19) - 1))) - (S.2.1 140 ((S.1 135 19) - 2))) - r_8) + r_8) + (S.2.1 140 ((S.1 135 19) - 2))) 139 1 (S.2.1 140 ((S.1 135 19) - 1))) pX := F_14.C rfl
      have i_17 : cX G (uC (uC (uC S 140 (((((S.1 135 19) - 3) - (S.2.1 140 ((S.1 135 19) - 1))) - (S.2.1 140 ((S.1 135 19) - 2))) - r_8) o_10 0 r_8) 140 ((((((S.1 135 19) - 3) - (S.2.1 140 ((S.1 135 19) - 1))) - (S.2.1 140 ((S.1 135 19) - 2))) - r_8) + r_8) 138 1 (S.2.1 140 ((S.1 135 19) - 2))) 140 (((((((S.1 135 19) - 3) - (S.2.1 140 ((S.1 135 19) - 1))) - (S.2.1 140 ((S.1 135 19) - 2))) - r_8) + r_8) + (S.2.1 140 ((S.1 135 19) - 2))) 139 1 (S.2.1 140 ((S.1 135 19) - 1))) 0 0 0 := i_15.plC rfl (fun j _ _ => i_15.ai 140 _ (by decide))
      refine lv_aload_n hx hb dX2_restore_131 rfl (lv_at hl 5 rfl) ?_
      refine lv_iload_n hx hb dX2_restore_132 rfl (lv_at hl 3 rfl) ?_
      refine p_X2_66 Cx hW hL (k := 135) (by decide) rfl dX2_restore_133 (fun H locs hW hL => ?_)
      have F_18 : Fr S (uF (uC (uC (uC S 140 (((((S.1 135 19) - 3) - (S.2.1 140 ((S.1 135 19) - 1))) - (S.2.1 140 ((S.1 135 19) - 2))) - r_8) o_10 0 r_8) 140 ((((((S.1 135 19) - 3) - (S.2.1 140 ((S.1 135 19) - 1))) - (S.2.1 140 ((S.1 135 19) - 2))) - r_8) + r_8) 138 1 (S.2.1 140 ((S.1 135 19) - 2))) 140 (((((((S.1 135 19) - 3) - (S.2.1 140 ((S.1 135 19) - 1))) - (S.2.1 140 ((S.1 135 19) - 2))) - r_8) + r_8) + (S.2.1 140 ((S.1 135 19) - 2))) 139 1 (S.2.1 140 ((S.1 135 19) - 1))) 135 14 (S.2.1 140 ((S.1 135 19) - 2))) pX := F_16.F rfl
      have i_19 : cX G (uF (uC (uC (uC S 140 (((((S.1 135 19) - 3) - (S.2.1 140 ((S.1 135 19) - 1))) - (S.2.1 140 ((S.1 135 19) - 2))) - r_8) o_10 0 r_8) 140 ((((((S.1 135 19) - 3) - (S.2.1 140 ((S.1 135 19) - 1))) - (S.2.1 140 ((S.1 135 19) - 2))) - r_8) + r_8) 138 1 (S.2.1 140 ((S.1 135 19) - 2))) 140 (((((((S.1 135 19) - 3) - (S.2.1 140 ((S.1 135 19) - 1))) - (S.2.1 140 ((S.1 135 19) - 2))) - r_8) + r_8) + (S.2.1 140 ((S.1 135 19) - 2))) 139 1 (S.2.1 140 ((S.1 135 19) - 1))) 135 14 (S.2.1 140 ((S.1 135 19) - 2))) 0 0 0 := i_17.F rfl rfl (show 0 ≤ S.2.1 140 ((S.1 135 19) - 2) ∧ S.2.1 140 ((S.1 135 19) - 2) ≤ 40 from ⟨by omega, by omega⟩)
      refine lv_aload_n hx hb dX2_restore_136 rfl (lv_at hl 5 rfl) ?_
      refine lv_iload_n hx hb dX2_restore_137 rfl (lv_at hl 2 rfl) ?_
      refine p_X2_67 Cx hW hL (k := 135) (by decide) rfl dX2_restore_138 (fun H locs hW hL => ?_)
      have F_20 : Fr S (uF (uF (uC (uC (uC S 140 (((((S.1 135 19) - 3) - (S.2.1 140 ((S.1 135 19) - 1))) - (S.2.1 140 ((S.1 135 19) - 2))) - r_8) o_10 0 r_8) 140 ((((((S.1 135 19) - 3) - (S.2.1 140 ((S.1 135 19) - 1))) - (S.2.1 140 ((S.1 135 19) - 2))) - r_8) + r_8) 138 1 (S.2.1 140 ((S.1 135 19) - 2))) 140 (((((((S.1 135 19) - 3) - (S.2.1 140 ((S.1 135 19) - 1))) - (S.2.1 140 ((S.1 135 19) - 2))) - r_8) + r_8) + (S.2.1 140 ((S.1 135 19) - 2))) 139 1 (S.2.1 140 ((S.1 135 19) - 1))) 135 14 (S.2.1 140 ((S.1 135 19) - 2))) 135 15 (S.2.1 140 ((S.1 135 19) - 1))) pX := F_18.F rfl
      have i_21 : cX G (uF (uF (uC (uC (uC S 140 (((((S.1 135 19) - 3) - (S.2.1 140 ((S.1 135 19) - 1))) - (S.2.1 140 ((S.1 135 19) - 2))) - r_8) o_10 0 r_8) 140 ((((((S.1 135 19) - 3) - (S.2.1 140 ((S.1 135 19) - 1))) - (S.2.1 140 ((S.1 135 19) - 2))) - r_8) + r_8) 138 1 (S.2.1 140 ((S.1 135 19) - 2))) 140 (((((((S.1 135 19) - 3) - (S.2.1 140 ((S.1 135 19) - 1))) - (S.2.1 140 ((S.1 135 19) - 2))) - r_8) + r_8) + (S.2.1 140 ((S.1 135 19) - 2))) 139 1 (S.2.1 140 ((S.1 135 19) - 1))) 135 14 (S.2.1 140 ((S.1 135 19) - 2))) 135 15 (S.2.1 140 ((S.1 135 19) - 1))) 0 0 0 := i_19.F rfl rfl (show 0 ≤ S.2.1 140 ((S.1 135 19) - 1) ∧ S.2.1 140 ((S.1 135 19) - 1) ≤ 13 from ⟨by omega, by omega⟩)
      refine lv_aload_n hx hb dX2_restore_141 rfl (lv_at hl 5 rfl) ?_
      refine lv_iload hx hb dX2_restore_142 (lv_at hl 0 rfl) ?_
      refine p_X2_74 Cx hW hL (k := 135) (by decide) rfl dX2_restore_144 (fun H locs hW hL => ?_)
      have F_22 : Fr S (uF (uF (uF (uC (uC (uC S 140 (((((S.1 135 19) - 3) - (S.2.1 140 ((S.1 135 19) - 1))) - (S.2.1 140 ((S.1 135 19) - 2))) - r_8) o_10 0 r_8) 140 ((((((S.1 135 19) - 3) - (S.2.1 140 ((S.1 135 19) - 1))) - (S.2.1 140 ((S.1 135 19) - 2))) - r_8) + r_8) 138 1 (S.2.1 140 ((S.1 135 19) - 2))) 140 (((((((S.1 135 19) - 3) - (S.2.1 140 ((S.1 135 19) - 1))) - (S.2.1 140 ((S.1 135 19) - 2))) - r_8) + r_8) + (S.2.1 140 ((S.1 135 19) - 2))) 139 1 (S.2.1 140 ((S.1 135 19) - 1))) 135 14 (S.2.1 140 ((S.1 135 19) - 2))) 135 15 (S.2.1 140 ((S.1 135 19) - 1))) 135 19 (((((S.1 135 19) - 3) - (S.2.1 140 ((S.1 135 19) - 1))) - (S.2.1 140 ((S.1 135 19) - 2))) - r_8)) pX := F_20.F rfl
      have i_23 : cX G (uF (uF (uF (uC (uC (uC S 140 (((((S.1 135 19) - 3) - (S.2.1 140 ((S.1 135 19) - 1))) - (S.2.1 140 ((S.1 135 19) - 2))) - r_8) o_10 0 r_8) 140 ((((((S.1 135 19) - 3) - (S.2.1 140 ((S.1 135 19) - 1))) - (S.2.1 140 ((S.1 135 19) - 2))) - r_8) + r_8) 138 1 (S.2.1 140 ((S.1 135 19) - 2))) 140 (((((((S.1 135 19) - 3) - (S.2.1 140 ((S.1 135 19) - 1))) - (S.2.1 140 ((S.1 135 19) - 2))) - r_8) + r_8) + (S.2.1 140 ((S.1 135 19) - 2))) 139 1 (S.2.1 140 ((S.1 135 19) - 1))) 135 14 (S.2.1 140 ((S.1 135 19) - 2))) 135 15 (S.2.1 140 ((S.1 135 19) - 1))) 135 19 (((((S.1 135 19) - 3) - (S.2.1 140 ((S.1 135 19) - 1))) - (S.2.1 140 ((S.1 135 19) - 2))) - r_8)) 0 0 0 := i_21.kend ⟨by omega, by omega⟩ (by obtain ⟨mk, hmk⟩ := hop.2.2.2.2.2.2; refine ⟨mk, ?_⟩; have e := hmk.put (g := (uF (uF (uC (uC (uC S 140 (((((S.1 135 19) - 3) - (S.2.1 140 ((S.1 135 19) - 1))) - (S.2.1 140 ((S.1 135 19) - 2))) - r_8) o_10 0 r_8) 140 ((((((S.1 135 19) - 3) - (S.2.1 140 ((S.1 135 19) - 1))) - (S.2.1 140 ((S.1 135 19) - 2))) - r_8) + r_8) 138 1 (S.2.1 140 ((S.1 135 19) - 2))) 140 (((((((S.1 135 19) - 3) - (S.2.1 140 ((S.1 135 19) - 1))) - (S.2.1 140 ((S.1 135 19) - 2))) - r_8) + r_8) + (S.2.1 140 ((S.1 135 19) - 2))) 139 1 (S.2.1 140 ((S.1 135 19) - 1))) 135 14 (S.2.1 140 ((S.1 135 19) - 2))) 135 15 (S.2.1 140 ((S.1 135 19) - 1))).2.1 140) (fun j _ _ => (uF_a).trans ((uF_a).trans ((uC_ne (by decide)).trans ((uC_ne (by decide)).trans (uC_ne (ac_ne (rfl : acode 140 = 11) (dic_c mo_10) (by decide))))))); rw [← ebg] at e; exact e)
      refine lv_iload_n hx hb dX2_restore_147 rfl (lv_at hl 4 rfl) ?_
      exact sIret Cx hr hlk hW hL ⟨i_23, F_22, (by omega)⟩ dX2_restore_148
    · refine lv_iconst (v := iv 0) hx hb dX2_restore_75 (by decide) ?_
      exact sIret Cx hr hlk hW hL ⟨hI, (Fr.rf : Fr S S pX), (by omega)⟩ dX2_restore_76
  · refine lv_iconst (v := iv 0) hx hb dX2_restore_8 (by decide) ?_
    exact sIret Cx hr hlk hW hL ⟨hI, (Fr.rf : Fr S S pX), (by omega)⟩ dX2_restore_9
