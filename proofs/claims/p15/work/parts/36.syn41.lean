theorem sMi {l : Launch} {y : MethodName} {ws : List Cond} {rm : Room} {Pc : Array Value → State → Prop} {G : sG} {n : Nat} {Q1 Q2 : Int → sS → Prop} {mc ms : Nat} {fr : Addr → Prop} (h : Met l y ws rm Pc (sQi G n Q1) mc ms fr) (k : ∀ r u, Q1 r u → Q2 r u) : Met l y ws rm Pc (sQi G n Q2) mc ms fr := fun p e h1 h2 h3 s m args below h4 h5 h6 h7 => by
  obtain ⟨n', o, a, b, c, ⟨⟨r, u, e1, e2, e3⟩, d⟩⟩ := h p e h1 h2 h3 s m args below h4 h5 h6 h7
  exact ⟨n', o, a, b, c, ⟨⟨r, u, e1, k r u e2, e3⟩, d⟩⟩
theorem uF_self {S : sS} {k i : Nat} : uF S k i (S.1 k i) = S := by
  have h : (fun a j => cond (Nat.beq a k && Nat.beq j i) (S.1 k i) (S.1 a j)) = S.1 := by
    funext a j
    cases h : (Nat.beq a k && Nat.beq j i) with
    | false => rfl
    | true =>
      rw [Bool.and_eq_true] at h
      rw [Nat.eq_of_beq_eq_true h.1, Nat.eq_of_beq_eq_true h.2]; rfl
  unfold uF; rw [h]
/-- no token is BAD -/
def SG (S : sS) : Prop := ∀ j, 0 ≤ j → j < S.1 12 3 → S.2.1 13 j ≠ 1 ∧ lb (S.2.2.1 15 j)
def vd (S : sS) (t : Int) : Int := if 0 ≤ t ∧ t < S.1 12 3 then S.2.2.1 15 t else 0
theorem vd_lb {S : sS} {t : Int} (h : SG S) : lb (vd S t) := by
  unfold vd; split
  · rename_i q; exact (h t q.1 q.2).2
  · exact lb0
theorem cX.syn {G : sG} {S : sS} {x y : Nat} {b : Int} (h : cX G S x y b) : SynAt G S ∧ SynOK S := ⟨⟨rf_12_0 h, rf_12_1 h, rf_12_2 h⟩, h.fi 12 3 8 (by decide) rfl, fun i _ _ => h.1.2.1 13 i (by decide), fun i _ _ => h.1.2.1 14 i (by decide), fun i _ _ => h.1.2.2 15 i (by decide)⟩
theorem SE.g {S : sS} {a : Int} (h : SE S) (a0 : 0 ≤ a) (a1 : a < S.1 12 3) (e : S.2.1 13 a = 0) : SG S := fun j j0 j1 => by
  have ha := (h a a0 a1).1 (by omega)
  have hj := h j j0 j1
  have n1 : S.2.1 13 j ≠ 1 := fun q => by
    have := hj.1 (by omega)
    rw [show j = a by omega] at q; omega
  exact ⟨n1, hj.2 n1⟩
set_option maxRecDepth 100000 in
set_option maxHeartbeats 4000000 in
theorem t_X8_is_y (l : Launch) (G : sG) (S : sS) {a k : Int} (hA : SynAt G S) (hS : SynOK S) (ha : 0 ≤ a ∧ a ≤ S.1 12 3) (hk : 0 ≤ k ∧ k ≤ 26) : Met l yX8_is (.code yX8_is cX8_is 2 (some .boolean) :: tb) (rmk 1 0 0) (sPc G 294 (uF S 12 4 a) [.ref (G.2.2.1 + 12), .int (iv k)]) (sQi G 294 (fun r u => u = uF S 12 4 a ∧ (r = 0 ∨ r = 1) ∧ (r = 1 → a < S.1 12 3 ∧ S.2.1 13 a = k))) 0 0 (sF G) := by
  refine sEnter (by decide) (Nat.le_of_ble_eq_true rfl) ?_
  intro p e s m args below meth c Cx hr hlk hnm hW ls hl
  have Cx : sC G p m c cX8_is 2 s args RX8 := Cx
  obtain ⟨hx, hb, hml, hown, hts⟩ := id Cx.1
  have hL : sL G [] := sL_nil
  have hl : lv_has ls 2 [(0, .ref (G.2.2.1 + 12)), (1, .int (iv k))] := hl
  obtain ⟨hr0, hr1, hr2⟩ := id hA
  obtain ⟨ht, hki, hst, hva⟩ := id hS
  refine lv_aload_n hx hb dX8_is_0 rfl (lv_at hl 0 rfl) ?_
  refine g_X8_26 Cx hW (k := 12) (by decide) rfl (v := a) uF_on dX8_is_1 ?_
  refine lv_aload_n hx hb dX8_is_4 rfl (lv_at hl 0 rfl) ?_
  refine g_X8_22 Cx hW (k := 12) (by decide) rfl (v := S.1 12 3) (uF_ne (fun h => absurd h.2 (by decide))) dX8_is_5 ?_
  refine r_icmp_ge (tgt := 28) hx hb ⟨(by omega), (by omega)⟩ ⟨(by omega), (by omega)⟩ dX8_is_8 (by decide) (fun c_1 => ?_) (fun c_1 => ?_)
  · refine lv_iconst (v := iv 0) hx hb dX8_is_28 (by decide) ?_
    exact sZret Cx hr hlk hW hL (by omega) ⟨rfl, by omega, by omega⟩ dX8_is_29
  · refine lv_aload_n hx hb dX8_is_11 rfl (lv_at hl 0 rfl) ?_
    refine g_X8_11 Cx hW (k := 12) (by decide) rfl (v := .ref (G.2.2.1 + 13)) hr0 dX8_is_12 ?_
    refine lv_aload_n hx hb dX8_is_15 rfl (lv_at hl 0 rfl) ?_
    refine g_X8_26 Cx hW (k := 12) (by decide) rfl (v := a) uF_on dX8_is_16 ?_
    refine rIald Cx hW (k := 13) (by decide) rfl (by decide) (by omega) (by omega) dX8_is_19 ?_
    refine r_i (b := S.2.1 13 a) rfl ?_
    have q_2 := hki a (by omega) (by omega)
    refine lv_iload_n hx hb dX8_is_20 rfl (lv_at hl 1 rfl) ?_
    refine r_icmp_ne (tgt := 28) hx hb ⟨(by omega), (by omega)⟩ ⟨(by omega), (by omega)⟩ dX8_is_21 (by decide) (fun c_3 => ?_) (fun c_3 => ?_)
    · refine lv_iconst (v := iv 0) hx hb dX8_is_28 (by decide) ?_
      exact sZret Cx hr hlk hW hL (by omega) ⟨rfl, by omega, by omega⟩ dX8_is_29
    · refine lv_iconst (v := iv 1) hx hb dX8_is_24 (by decide) ?_
      refine lv_goto (tgt := 29) hx hb dX8_is_25 (by decide) ?_
      exact sZret Cx hr hlk hW hL (by omega) ⟨rfl, by omega, by omega⟩ dX8_is_29

set_option maxRecDepth 100000 in
set_option maxHeartbeats 4000000 in
theorem t_X8_isProgram_y (l : Launch) (G : sG) (S : sS) {a : Int} (hA : SynAt G S) (hS : SynOK S) : Met l yX8_isProgram (.code yX8_isProgram cX8_isProgram 2 (some .boolean) :: tb) (rmk 98 0 0) (sPc G 294 (uF S 12 4 a) [.ref (G.2.2.1 + 12)]) (sQi G 294 (fun r u => ∃ a2 : Int, u = uF S 12 4 a2 ∧ 0 ≤ a2 ∧ a2 ≤ S.1 12 3 ∧ (r = 0 ∨ r = 1) ∧ (r = 1 → a2 < S.1 12 3 ∧ S.2.1 13 a2 = 0))) 0 0 (sF G) := by
  refine sEnter (by decide) (Nat.le_of_ble_eq_true rfl) ?_
  intro p e s m args below meth c Cx hr hlk hnm hW ls hl
  have Cx : sC G p m c cX8_isProgram 2 s args RX8 := Cx
  obtain ⟨hx, hb, hml, hown, hts⟩ := id Cx.1
  have hL : sL G [] := sL_nil
  have hl : lv_has ls 2 [(0, .ref (G.2.2.1 + 12))] := hl
  obtain ⟨hr0, hr1, hr2⟩ := id hA
  obtain ⟨ht, hki, hst, hva⟩ := id hS
  refine lv_aload_n hx hb dX8_isProgram_0 rfl (lv_at hl 0 rfl) ?_
  refine lv_iconst (v := iv 0) hx hb dX8_isProgram_1 (by decide) ?_
  refine p_X8_26 Cx hW hL (k := 12) (by decide) rfl dX8_isProgram_2 (fun H locs hW hL => ?_)
  rw [uF_uF] at hW
  refine lv_iconst (v := iv 0) hx hb dX8_isProgram_5 (by decide) ?_
  refine lv_istore_n (lv' := [(1, .int (iv 0)), (0, .ref (G.2.2.1 + 12))]) hx hb dX8_isProgram_6 rfl hl (by decide) rfl (fun ls hl => ?_)
  have loop_7 : ∀ (fuel : Nat) (i : Int) (b : Int) (H : Heap) (locs : List Loc) (ls : Array Slot), (S.1 12 3 - i).toNat < fuel → (0 ≤ i ∧ i ≤ S.1 12 3) → (0 ≤ b ∧ b ≤ S.1 12 3) → sW G 294 (uF S 12 4 b) H → sL G locs → lv_has ls 2 [(1, .int (iv i)), (0, .ref (G.2.2.1 + 12))] → W p l e (rmk 98 0 0) s m args below meth c H locs 0 0 (MQ below (sQi G 294 (fun r u => ∃ a2 : Int, u = uF S 12 4 a2 ∧ 0 ≤ a2 ∧ a2 ≤ S.1 12 3 ∧ (r = 0 ∨ r = 1) ∧ (r = 1 → a2 < S.1 12 3 ∧ S.2.1 13 a2 = 0))) args s 0 0 (sF G)) (F0 m 7 ls []) := by
    intro fuel
    induction fuel with
    | zero => intro i b H locs ls hmeas hi hb2 hW hL hl; exact absurd hmeas (Nat.not_lt_zero _)
    | succ fuel ih_7 =>
      intro i b H locs ls hmeas hi hb2 hW hL hl
      refine lv_iload_n hx hb dX8_isProgram_7 rfl (lv_at hl 0 rfl) ?_
      refine lv_aload_n hx hb dX8_isProgram_8 rfl (lv_at hl 1 rfl) ?_
      refine g_X8_22 Cx hW (k := 12) (by decide) rfl (v := S.1 12 3) (uF_ne (fun h => absurd h.2 (by decide))) dX8_isProgram_9 ?_
      refine r_icmp_ge (tgt := 57) hx hb ⟨(by omega), (by omega)⟩ ⟨(by omega), (by omega)⟩ dX8_isProgram_12 (by decide) (fun c_1 => ?_) (fun c_1 => ?_)
      · refine lv_aload_n hx hb dX8_isProgram_57 rfl (lv_at hl 1 rfl) ?_
        refine lv_iconst (v := iv 4) hx hb dX8_isProgram_58 (by decide) ?_
        refine sBi (sV (As := [.int (iv 4)]) (rest := []) (k := 12) Cx (t_X8_is_y l G S hA hS (a := b) (k := 4) (by omega) (by omega)) (c_X8_82 Cx rfl rfl (rmk_ok (by omega) (by decide))) hW (by decide) rfl rfl rfl hl.1 rfl (Nat.le_of_ble_eq_true rfl) dX8_isProgram_59 ⟨Nat.le_of_ble_eq_true rfl, Nat.le_of_ble_eq_true rfl⟩) hL (fun r_4 u_2 H locs k_3 hW hL => ?_)
        obtain ⟨eu_2, xu_2, yu_2⟩ := k_3
        rw [eu_2] at hW
        refine r_if_ne (tgt := 75) hx hb ⟨(by omega), (by omega)⟩ dX8_isProgram_62 (by decide) (fun c_5 => ?_) (fun c_5 => ?_)
        · refine lv_aload_n hx hb dX8_isProgram_75 rfl (lv_at hl 1 rfl) ?_
          refine lv_dup hx hb dX8_isProgram_76 rfl ?_
          refine g_X8_26 Cx hW (k := 12) (by decide) rfl (v := b) uF_on dX8_isProgram_77 ?_
          refine lv_iconst (v := iv 1) hx hb dX8_isProgram_80 (by decide) ?_
          refine r_iadd hx hb dX8_isProgram_81 ?_
          refine p_X8_26 Cx hW hL (k := 12) (by decide) rfl dX8_isProgram_82 (fun H locs hW hL => ?_)
          rw [uF_uF] at hW
          refine lv_aload_n hx hb dX8_isProgram_85 rfl (lv_at hl 1 rfl) ?_
          refine lv_iconst (v := iv 0) hx hb dX8_isProgram_86 (by decide) ?_
          refine sBi (sV (As := [.int (iv 0)]) (rest := []) (k := 12) Cx ((syn_expr l G S hA hS) (b + 1) (by omega)) (c_X8_89 Cx rfl rfl (rmk_ok (by omega) (by decide))) hW (by decide) rfl rfl rfl hl.1 rfl (Nat.le_of_ble_eq_true rfl) dX8_isProgram_87 ⟨Nat.le_of_ble_eq_true rfl, Nat.le_of_ble_eq_true rfl⟩) hL (fun r_8 u_6 H locs k_7 hW hL => ?_)
          obtain ⟨au_6, eu_6, xu_6, yu_6, zu_6⟩ := k_7
          rw [eu_6] at hW
          refine r_if_eq (tgt := 102) hx hb ⟨(by omega), (by omega)⟩ dX8_isProgram_90 (by decide) (fun c_9 => ?_) (fun c_9 => ?_)
          · refine lv_iconst (v := iv 0) hx hb dX8_isProgram_102 (by decide) ?_
            exact sZret Cx hr hlk hW hL (by omega) ⟨au_6, rfl, by omega, by omega, by omega, by omega⟩ dX8_isProgram_103
          · refine lv_aload_n hx hb dX8_isProgram_93 rfl (lv_at hl 1 rfl) ?_
            refine lv_bipush (v := iv 15) hx hb dX8_isProgram_94 (by decide) ?_
            refine sBi (sV (As := [.int (iv 15)]) (rest := []) (k := 12) Cx (t_X8_pass l G S hA hS (a := au_6) (k := 15) (by omega) (by omega)) (c_X8_92 Cx rfl rfl (rmk_ok (by omega) (by decide))) hW (by decide) rfl rfl rfl hl.1 rfl (Nat.le_of_ble_eq_true rfl) dX8_isProgram_96 ⟨Nat.le_of_ble_eq_true rfl, Nat.le_of_ble_eq_true rfl⟩) hL (fun r_12 u_10 H locs k_11 hW hL => ?_)
            obtain ⟨au_10, eu_10, xu_10, yu_10, zu_10, vu_10⟩ := k_11
            rw [eu_10] at hW
            refine r_if_ne (tgt := 104) hx hb ⟨(by omega), (by omega)⟩ dX8_isProgram_99 (by decide) (fun c_13 => ?_) (fun c_13 => ?_)
            · refine lv_iconst (v := iv 0) hx hb dX8_isProgram_104 (by decide) ?_
              refine lv_istore_n (lv' := [(1, .int (iv 0)), (0, .ref (G.2.2.1 + 12))]) hx hb dX8_isProgram_105 rfl hl (by decide) rfl (fun ls hl => ?_)
              have loop_106 : ∀ (fuel : Nat) (i2 : Int) (b : Int) (H : Heap) (locs : List Loc) (ls : Array Slot), (S.1 12 3 - i2).toNat < fuel → (0 ≤ i2 ∧ i2 ≤ S.1 12 3) → (0 ≤ b ∧ b ≤ S.1 12 3) → sW G 294 (uF S 12 4 b) H → sL G locs → lv_has ls 2 [(1, .int (iv i2)), (0, .ref (G.2.2.1 + 12))] → W p l e (rmk 98 0 0) s m args below meth c H locs 0 0 (MQ below (sQi G 294 (fun r u => ∃ a2 : Int, u = uF S 12 4 a2 ∧ 0 ≤ a2 ∧ a2 ≤ S.1 12 3 ∧ (r = 0 ∨ r = 1) ∧ (r = 1 → a2 < S.1 12 3 ∧ S.2.1 13 a2 = 0))) args s 0 0 (sF G)) (F0 m 106 ls []) := by
                intro fuel
                induction fuel with
                | zero => intro i2 b H locs ls hmeas hi2 hb3 hW hL hl; exact absurd hmeas (Nat.not_lt_zero _)
                | succ fuel ih_106 =>
                  intro i2 b H locs ls hmeas hi2 hb3 hW hL hl
                  refine lv_iload_n hx hb dX8_isProgram_106 rfl (lv_at hl 0 rfl) ?_
                  refine lv_aload_n hx hb dX8_isProgram_107 rfl (lv_at hl 1 rfl) ?_
                  refine g_X8_22 Cx hW (k := 12) (by decide) rfl (v := S.1 12 3) (uF_ne (fun h => absurd h.2 (by decide))) dX8_isProgram_108 ?_
                  refine r_icmp_ge (tgt := 138) hx hb ⟨(by omega), (by omega)⟩ ⟨(by omega), (by omega)⟩ dX8_isProgram_111 (by decide) (fun c_14 => ?_) (fun c_14 => ?_)
                  · refine lv_aload_n hx hb dX8_isProgram_138 rfl (lv_at hl 1 rfl) ?_
                    refine lv_iconst (v := iv 0) hx hb dX8_isProgram_139 (by decide) ?_
                    refine sBi (sV (As := [.int (iv 0)]) (rest := []) (k := 12) Cx (t_X8_is_y l G S hA hS (a := b) (k := 0) (by omega) (by omega)) (c_X8_82 Cx rfl rfl (rmk_ok (by omega) (by decide))) hW (by decide) rfl rfl rfl hl.1 rfl (Nat.le_of_ble_eq_true rfl) dX8_isProgram_140 ⟨Nat.le_of_ble_eq_true rfl, Nat.le_of_ble_eq_true rfl⟩) hL (fun r_17 u_15 H locs k_16 hW hL => ?_)
                    obtain ⟨eu_15, xu_15, yu_15⟩ := k_16
                    rw [eu_15] at hW
                    exact sZret Cx hr hlk hW hL (by omega) ⟨b, rfl, by omega, by omega, by omega, by omega⟩ dX8_isProgram_143
                  · refine lv_aload_n hx hb dX8_isProgram_114 rfl (lv_at hl 1 rfl) ?_
                    refine lv_bipush (v := iv 10) hx hb dX8_isProgram_115 (by decide) ?_
                    refine sBi (sV (As := [.int (iv 10)]) (rest := []) (k := 12) Cx (t_X8_is_y l G S hA hS (a := b) (k := 10) (by omega) (by omega)) (c_X8_82 Cx rfl rfl (rmk_ok (by omega) (by decide))) hW (by decide) rfl rfl rfl hl.1 rfl (Nat.le_of_ble_eq_true rfl) dX8_isProgram_117 ⟨Nat.le_of_ble_eq_true rfl, Nat.le_of_ble_eq_true rfl⟩) hL (fun r_20 u_18 H locs k_19 hW hL => ?_)
                    obtain ⟨eu_18, xu_18, yu_18⟩ := k_19
                    rw [eu_18] at hW
                    refine r_if_eq (tgt := 138) hx hb ⟨(by omega), (by omega)⟩ dX8_isProgram_120 (by decide) (fun c_21 => ?_) (fun c_21 => ?_)
                    · refine lv_aload_n hx hb dX8_isProgram_138 rfl (lv_at hl 1 rfl) ?_
                      refine lv_iconst (v := iv 0) hx hb dX8_isProgram_139 (by decide) ?_
                      refine sBi (sV (As := [.int (iv 0)]) (rest := []) (k := 12) Cx (t_X8_is_y l G S hA hS (a := b) (k := 0) (by omega) (by omega)) (c_X8_82 Cx rfl rfl (rmk_ok (by omega) (by decide))) hW (by decide) rfl rfl rfl hl.1 rfl (Nat.le_of_ble_eq_true rfl) dX8_isProgram_140 ⟨Nat.le_of_ble_eq_true rfl, Nat.le_of_ble_eq_true rfl⟩) hL (fun r_24 u_22 H locs k_23 hW hL => ?_)
                      obtain ⟨eu_22, xu_22, yu_22⟩ := k_23
                      rw [eu_22] at hW
                      exact sZret Cx hr hlk hW hL (by omega) ⟨b, rfl, by omega, by omega, by omega, by omega⟩ dX8_isProgram_143
                    · refine lv_aload_n hx hb dX8_isProgram_123 rfl (lv_at hl 1 rfl) ?_
                      refine sBi (sV (As := []) (rest := []) (k := 12) Cx (t_X8_row l G S hA hS (a := b) (by omega) (by omega)) (c_X8_95 Cx rfl rfl (rmk_ok (by omega) (by decide))) hW (by decide) rfl rfl rfl hl.1 rfl (Nat.le_of_ble_eq_true rfl) dX8_isProgram_124 ⟨Nat.le_of_ble_eq_true rfl, Nat.le_of_ble_eq_true rfl⟩) hL (fun r_27 u_25 H locs k_26 hW hL => ?_)
                      obtain ⟨au_25, eu_25, xu_25, yu_25, zu_25⟩ := k_26
                      rw [eu_25] at hW
                      refine r_if_ne (tgt := 132) hx hb ⟨(by omega), (by omega)⟩ dX8_isProgram_127 (by decide) (fun c_28 => ?_) (fun c_28 => ?_)
                      · refine lv_iinc (v := iv (i2 + 1)) (lv' := [(1, .int (iv (i2 + 1))), (0, .ref (G.2.2.1 + 12))]) hx hb dX8_isProgram_132 hl (k := 0) rfl ((Int32.ofInt_add _ _).symm) (by decide) rfl (fun ls hl => ?_)
                        refine lv_goto (tgt := 106) hx hb dX8_isProgram_135 (by decide) ?_
                        exact ih_106 (i2 + 1) au_25 _ _ _ (by omega) (by omega) (by omega) hW hL (lv_sub hl [0, 1] rfl)
                      · refine lv_iconst (v := iv 0) hx hb dX8_isProgram_130 (by decide) ?_
                        exact sZret Cx hr hlk hW hL (by omega) ⟨au_25, rfl, by omega, by omega, by omega, by omega⟩ dX8_isProgram_131
              exact loop_106 (_ + 1) 0 au_10 _ _ _ (Nat.lt_succ_self _) (by omega) (by omega) hW hL (lv_sub hl [0, 1] rfl)
            · refine lv_iconst (v := iv 0) hx hb dX8_isProgram_102 (by decide) ?_
              exact sZret Cx hr hlk hW hL (by omega) ⟨au_10, rfl, by omega, by omega, by omega, by omega⟩ dX8_isProgram_103
        · refine lv_aload_n hx hb dX8_isProgram_65 rfl (lv_at hl 1 rfl) ?_
          refine lv_iconst (v := iv 5) hx hb dX8_isProgram_66 (by decide) ?_
          refine sBi (sV (As := [.int (iv 5)]) (rest := []) (k := 12) Cx (t_X8_is_y l G S hA hS (a := b) (k := 5) (by omega) (by omega)) (c_X8_82 Cx rfl rfl (rmk_ok (by omega) (by decide))) hW (by decide) rfl rfl rfl hl.1 rfl (Nat.le_of_ble_eq_true rfl) dX8_isProgram_67 ⟨Nat.le_of_ble_eq_true rfl, Nat.le_of_ble_eq_true rfl⟩) hL (fun r_31 u_29 H locs k_30 hW hL => ?_)
          obtain ⟨eu_29, xu_29, yu_29⟩ := k_30
          rw [eu_29] at hW
          refine r_if_ne (tgt := 75) hx hb ⟨(by omega), (by omega)⟩ dX8_isProgram_70 (by decide) (fun c_32 => ?_) (fun c_32 => ?_)
          · refine lv_aload_n hx hb dX8_isProgram_75 rfl (lv_at hl 1 rfl) ?_
            refine lv_dup hx hb dX8_isProgram_76 rfl ?_
            refine g_X8_26 Cx hW (k := 12) (by decide) rfl (v := b) uF_on dX8_isProgram_77 ?_
            refine lv_iconst (v := iv 1) hx hb dX8_isProgram_80 (by decide) ?_
            refine r_iadd hx hb dX8_isProgram_81 ?_
            refine p_X8_26 Cx hW hL (k := 12) (by decide) rfl dX8_isProgram_82 (fun H locs hW hL => ?_)
            rw [uF_uF] at hW
            refine lv_aload_n hx hb dX8_isProgram_85 rfl (lv_at hl 1 rfl) ?_
            refine lv_iconst (v := iv 0) hx hb dX8_isProgram_86 (by decide) ?_
            refine sBi (sV (As := [.int (iv 0)]) (rest := []) (k := 12) Cx ((syn_expr l G S hA hS) (b + 1) (by omega)) (c_X8_89 Cx rfl rfl (rmk_ok (by omega) (by decide))) hW (by decide) rfl rfl rfl hl.1 rfl (Nat.le_of_ble_eq_true rfl) dX8_isProgram_87 ⟨Nat.le_of_ble_eq_true rfl, Nat.le_of_ble_eq_true rfl⟩) hL (fun r_35 u_33 H locs k_34 hW hL => ?_)
            obtain ⟨au_33, eu_33, xu_33, yu_33, zu_33⟩ := k_34
            rw [eu_33] at hW
            refine r_if_eq (tgt := 102) hx hb ⟨(by omega), (by omega)⟩ dX8_isProgram_90 (by decide) (fun c_36 => ?_) (fun c_36 => ?_)
            · refine lv_iconst (v := iv 0) hx hb dX8_isProgram_102 (by decide) ?_
              exact sZret Cx hr hlk hW hL (by omega) ⟨au_33, rfl, by omega, by omega, by omega, by omega⟩ dX8_isProgram_103
            · refine lv_aload_n hx hb dX8_isProgram_93 rfl (lv_at hl 1 rfl) ?_
              refine lv_bipush (v := iv 15) hx hb dX8_isProgram_94 (by decide) ?_
              refine sBi (sV (As := [.int (iv 15)]) (rest := []) (k := 12) Cx (t_X8_pass l G S hA hS (a := au_33) (k := 15) (by omega) (by omega)) (c_X8_92 Cx rfl rfl (rmk_ok (by omega) (by decide))) hW (by decide) rfl rfl rfl hl.1 rfl (Nat.le_of_ble_eq_true rfl) dX8_isProgram_96 ⟨Nat.le_of_ble_eq_true rfl, Nat.le_of_ble_eq_true rfl⟩) hL (fun r_39 u_37 H locs k_38 hW hL => ?_)
              obtain ⟨au_37, eu_37, xu_37, yu_37, zu_37, vu_37⟩ := k_38
              rw [eu_37] at hW
              refine r_if_ne (tgt := 104) hx hb ⟨(by omega), (by omega)⟩ dX8_isProgram_99 (by decide) (fun c_40 => ?_) (fun c_40 => ?_)
              · refine lv_iconst (v := iv 0) hx hb dX8_isProgram_104 (by decide) ?_
                refine lv_istore_n (lv' := [(1, .int (iv 0)), (0, .ref (G.2.2.1 + 12))]) hx hb dX8_isProgram_105 rfl hl (by decide) rfl (fun ls hl => ?_)
                have loop_106 : ∀ (fuel : Nat) (i2 : Int) (b : Int) (H : Heap) (locs : List Loc) (ls : Array Slot), (S.1 12 3 - i2).toNat < fuel → (0 ≤ i2 ∧ i2 ≤ S.1 12 3) → (0 ≤ b ∧ b ≤ S.1 12 3) → sW G 294 (uF S 12 4 b) H → sL G locs → lv_has ls 2 [(1, .int (iv i2)), (0, .ref (G.2.2.1 + 12))] → W p l e (rmk 98 0 0) s m args below meth c H locs 0 0 (MQ below (sQi G 294 (fun r u => ∃ a2 : Int, u = uF S 12 4 a2 ∧ 0 ≤ a2 ∧ a2 ≤ S.1 12 3 ∧ (r = 0 ∨ r = 1) ∧ (r = 1 → a2 < S.1 12 3 ∧ S.2.1 13 a2 = 0))) args s 0 0 (sF G)) (F0 m 106 ls []) := by
                  intro fuel
                  induction fuel with
                  | zero => intro i2 b H locs ls hmeas hi2 hb3 hW hL hl; exact absurd hmeas (Nat.not_lt_zero _)
                  | succ fuel ih_106 =>
                    intro i2 b H locs ls hmeas hi2 hb3 hW hL hl
                    refine lv_iload_n hx hb dX8_isProgram_106 rfl (lv_at hl 0 rfl) ?_
                    refine lv_aload_n hx hb dX8_isProgram_107 rfl (lv_at hl 1 rfl) ?_
                    refine g_X8_22 Cx hW (k := 12) (by decide) rfl (v := S.1 12 3) (uF_ne (fun h => absurd h.2 (by decide))) dX8_isProgram_108 ?_
                    refine r_icmp_ge (tgt := 138) hx hb ⟨(by omega), (by omega)⟩ ⟨(by omega), (by omega)⟩ dX8_isProgram_111 (by decide) (fun c_41 => ?_) (fun c_41 => ?_)
                    · refine lv_aload_n hx hb dX8_isProgram_138 rfl (lv_at hl 1 rfl) ?_
                      refine lv_iconst (v := iv 0) hx hb dX8_isProgram_139 (by decide) ?_
                      refine sBi (sV (As := [.int (iv 0)]) (rest := []) (k := 12) Cx (t_X8_is_y l G S hA hS (a := b) (k := 0) (by omega) (by omega)) (c_X8_82 Cx rfl rfl (rmk_ok (by omega) (by decide))) hW (by decide) rfl rfl rfl hl.1 rfl (Nat.le_of_ble_eq_true rfl) dX8_isProgram_140 ⟨Nat.le_of_ble_eq_true rfl, Nat.le_of_ble_eq_true rfl⟩) hL (fun r_44 u_42 H locs k_43 hW hL => ?_)
                      obtain ⟨eu_42, xu_42, yu_42⟩ := k_43
                      rw [eu_42] at hW
                      exact sZret Cx hr hlk hW hL (by omega) ⟨b, rfl, by omega, by omega, by omega, by omega⟩ dX8_isProgram_143
                    · refine lv_aload_n hx hb dX8_isProgram_114 rfl (lv_at hl 1 rfl) ?_
                      refine lv_bipush (v := iv 10) hx hb dX8_isProgram_115 (by decide) ?_
                      refine sBi (sV (As := [.int (iv 10)]) (rest := []) (k := 12) Cx (t_X8_is_y l G S hA hS (a := b) (k := 10) (by omega) (by omega)) (c_X8_82 Cx rfl rfl (rmk_ok (by omega) (by decide))) hW (by decide) rfl rfl rfl hl.1 rfl (Nat.le_of_ble_eq_true rfl) dX8_isProgram_117 ⟨Nat.le_of_ble_eq_true rfl, Nat.le_of_ble_eq_true rfl⟩) hL (fun r_47 u_45 H locs k_46 hW hL => ?_)
                      obtain ⟨eu_45, xu_45, yu_45⟩ := k_46
                      rw [eu_45] at hW
                      refine r_if_eq (tgt := 138) hx hb ⟨(by omega), (by omega)⟩ dX8_isProgram_120 (by decide) (fun c_48 => ?_) (fun c_48 => ?_)
                      · refine lv_aload_n hx hb dX8_isProgram_138 rfl (lv_at hl 1 rfl) ?_
                        refine lv_iconst (v := iv 0) hx hb dX8_isProgram_139 (by decide) ?_
                        refine sBi (sV (As := [.int (iv 0)]) (rest := []) (k := 12) Cx (t_X8_is_y l G S hA hS (a := b) (k := 0) (by omega) (by omega)) (c_X8_82 Cx rfl rfl (rmk_ok (by omega) (by decide))) hW (by decide) rfl rfl rfl hl.1 rfl (Nat.le_of_ble_eq_true rfl) dX8_isProgram_140 ⟨Nat.le_of_ble_eq_true rfl, Nat.le_of_ble_eq_true rfl⟩) hL (fun r_51 u_49 H locs k_50 hW hL => ?_)
                        obtain ⟨eu_49, xu_49, yu_49⟩ := k_50
                        rw [eu_49] at hW
                        exact sZret Cx hr hlk hW hL (by omega) ⟨b, rfl, by omega, by omega, by omega, by omega⟩ dX8_isProgram_143
                      · refine lv_aload_n hx hb dX8_isProgram_123 rfl (lv_at hl 1 rfl) ?_
                        refine sBi (sV (As := []) (rest := []) (k := 12) Cx (t_X8_row l G S hA hS (a := b) (by omega) (by omega)) (c_X8_95 Cx rfl rfl (rmk_ok (by omega) (by decide))) hW (by decide) rfl rfl rfl hl.1 rfl (Nat.le_of_ble_eq_true rfl) dX8_isProgram_124 ⟨Nat.le_of_ble_eq_true rfl, Nat.le_of_ble_eq_true rfl⟩) hL (fun r_54 u_52 H locs k_53 hW hL => ?_)
                        obtain ⟨au_52, eu_52, xu_52, yu_52, zu_52⟩ := k_53
                        rw [eu_52] at hW
                        refine r_if_ne (tgt := 132) hx hb ⟨(by omega), (by omega)⟩ dX8_isProgram_127 (by decide) (fun c_55 => ?_) (fun c_55 => ?_)
                        · refine lv_iinc (v := iv (i2 + 1)) (lv' := [(1, .int (iv (i2 + 1))), (0, .ref (G.2.2.1 + 12))]) hx hb dX8_isProgram_132 hl (k := 0) rfl ((Int32.ofInt_add _ _).symm) (by decide) rfl (fun ls hl => ?_)
                          refine lv_goto (tgt := 106) hx hb dX8_isProgram_135 (by decide) ?_
                          exact ih_106 (i2 + 1) au_52 _ _ _ (by omega) (by omega) (by omega) hW hL (lv_sub hl [0, 1] rfl)
                        · refine lv_iconst (v := iv 0) hx hb dX8_isProgram_130 (by decide) ?_
                          exact sZret Cx hr hlk hW hL (by omega) ⟨au_52, rfl, by omega, by omega, by omega, by omega⟩ dX8_isProgram_131
                exact loop_106 (_ + 1) 0 au_37 _ _ _ (Nat.lt_succ_self _) (by omega) (by omega) hW hL (lv_sub hl [0, 1] rfl)
              · refine lv_iconst (v := iv 0) hx hb dX8_isProgram_102 (by decide) ?_
                exact sZret Cx hr hlk hW hL (by omega) ⟨au_37, rfl, by omega, by omega, by omega, by omega⟩ dX8_isProgram_103
          · refine lv_iconst (v := iv 0) hx hb dX8_isProgram_73 (by decide) ?_
            exact sZret Cx hr hlk hW hL (by omega) ⟨b, rfl, by omega, by omega, by omega, by omega⟩ dX8_isProgram_74
      · refine lv_aload_n hx hb dX8_isProgram_15 rfl (lv_at hl 1 rfl) ?_
        refine lv_bipush (v := iv 6) hx hb dX8_isProgram_16 (by decide) ?_
        refine sBi (sV (As := [.int (iv 6)]) (rest := []) (k := 12) Cx (t_X8_is_y l G S hA hS (a := b) (k := 6) (by omega) (by omega)) (c_X8_82 Cx rfl rfl (rmk_ok (by omega) (by decide))) hW (by decide) rfl rfl rfl hl.1 rfl (Nat.le_of_ble_eq_true rfl) dX8_isProgram_18 ⟨Nat.le_of_ble_eq_true rfl, Nat.le_of_ble_eq_true rfl⟩) hL (fun r_58 u_56 H locs k_57 hW hL => ?_)
        obtain ⟨eu_56, xu_56, yu_56⟩ := k_57
        rw [eu_56] at hW
        refine r_if_ne (tgt := 42) hx hb ⟨(by omega), (by omega)⟩ dX8_isProgram_21 (by decide) (fun c_59 => ?_) (fun c_59 => ?_)
        · refine lv_aload_n hx hb dX8_isProgram_42 rfl (lv_at hl 1 rfl) ?_
          refine sBi (sV (As := []) (rest := []) (k := 12) Cx (t_X8_declaration l G S hA hS (a := b) (by omega) (by omega)) (c_X8_85 Cx rfl rfl (rmk_ok (by omega) (by decide))) hW (by decide) rfl rfl rfl hl.1 rfl (Nat.le_of_ble_eq_true rfl) dX8_isProgram_43 ⟨Nat.le_of_ble_eq_true rfl, Nat.le_of_ble_eq_true rfl⟩) hL (fun r_62 u_60 H locs k_61 hW hL => ?_)
          obtain ⟨au_60, eu_60, xu_60, yu_60, zu_60⟩ := k_61
          rw [eu_60] at hW
          refine r_if_ne (tgt := 51) hx hb ⟨(by omega), (by omega)⟩ dX8_isProgram_46 (by decide) (fun c_63 => ?_) (fun c_63 => ?_)
          · refine lv_iinc (v := iv (i + 1)) (lv' := [(1, .int (iv (i + 1))), (0, .ref (G.2.2.1 + 12))]) hx hb dX8_isProgram_51 hl (k := 0) rfl ((Int32.ofInt_add _ _).symm) (by decide) rfl (fun ls hl => ?_)
            refine lv_goto (tgt := 7) hx hb dX8_isProgram_54 (by decide) ?_
            exact ih_7 (i + 1) au_60 _ _ _ (by omega) (by omega) (by omega) hW hL (lv_sub hl [0, 1] rfl)
          · refine lv_iconst (v := iv 0) hx hb dX8_isProgram_49 (by decide) ?_
            exact sZret Cx hr hlk hW hL (by omega) ⟨au_60, rfl, by omega, by omega, by omega, by omega⟩ dX8_isProgram_50
        · refine lv_aload_n hx hb dX8_isProgram_24 rfl (lv_at hl 1 rfl) ?_
          refine lv_bipush (v := iv 7) hx hb dX8_isProgram_25 (by decide) ?_
          refine sBi (sV (As := [.int (iv 7)]) (rest := []) (k := 12) Cx (t_X8_is_y l G S hA hS (a := b) (k := 7) (by omega) (by omega)) (c_X8_82 Cx rfl rfl (rmk_ok (by omega) (by decide))) hW (by decide) rfl rfl rfl hl.1 rfl (Nat.le_of_ble_eq_true rfl) dX8_isProgram_27 ⟨Nat.le_of_ble_eq_true rfl, Nat.le_of_ble_eq_true rfl⟩) hL (fun r_66 u_64 H locs k_65 hW hL => ?_)
          obtain ⟨eu_64, xu_64, yu_64⟩ := k_65
          rw [eu_64] at hW
          refine r_if_ne (tgt := 42) hx hb ⟨(by omega), (by omega)⟩ dX8_isProgram_30 (by decide) (fun c_67 => ?_) (fun c_67 => ?_)
          · refine lv_aload_n hx hb dX8_isProgram_42 rfl (lv_at hl 1 rfl) ?_
            refine sBi (sV (As := []) (rest := []) (k := 12) Cx (t_X8_declaration l G S hA hS (a := b) (by omega) (by omega)) (c_X8_85 Cx rfl rfl (rmk_ok (by omega) (by decide))) hW (by decide) rfl rfl rfl hl.1 rfl (Nat.le_of_ble_eq_true rfl) dX8_isProgram_43 ⟨Nat.le_of_ble_eq_true rfl, Nat.le_of_ble_eq_true rfl⟩) hL (fun r_70 u_68 H locs k_69 hW hL => ?_)
            obtain ⟨au_68, eu_68, xu_68, yu_68, zu_68⟩ := k_69
            rw [eu_68] at hW
            refine r_if_ne (tgt := 51) hx hb ⟨(by omega), (by omega)⟩ dX8_isProgram_46 (by decide) (fun c_71 => ?_) (fun c_71 => ?_)
            · refine lv_iinc (v := iv (i + 1)) (lv' := [(1, .int (iv (i + 1))), (0, .ref (G.2.2.1 + 12))]) hx hb dX8_isProgram_51 hl (k := 0) rfl ((Int32.ofInt_add _ _).symm) (by decide) rfl (fun ls hl => ?_)
              refine lv_goto (tgt := 7) hx hb dX8_isProgram_54 (by decide) ?_
              exact ih_7 (i + 1) au_68 _ _ _ (by omega) (by omega) (by omega) hW hL (lv_sub hl [0, 1] rfl)
            · refine lv_iconst (v := iv 0) hx hb dX8_isProgram_49 (by decide) ?_
              exact sZret Cx hr hlk hW hL (by omega) ⟨au_68, rfl, by omega, by omega, by omega, by omega⟩ dX8_isProgram_50
          · refine lv_aload_n hx hb dX8_isProgram_33 rfl (lv_at hl 1 rfl) ?_
            refine lv_bipush (v := iv 8) hx hb dX8_isProgram_34 (by decide) ?_
            refine sBi (sV (As := [.int (iv 8)]) (rest := []) (k := 12) Cx (t_X8_is_y l G S hA hS (a := b) (k := 8) (by omega) (by omega)) (c_X8_82 Cx rfl rfl (rmk_ok (by omega) (by decide))) hW (by decide) rfl rfl rfl hl.1 rfl (Nat.le_of_ble_eq_true rfl) dX8_isProgram_36 ⟨Nat.le_of_ble_eq_true rfl, Nat.le_of_ble_eq_true rfl⟩) hL (fun r_74 u_72 H locs k_73 hW hL => ?_)
            obtain ⟨eu_72, xu_72, yu_72⟩ := k_73
            rw [eu_72] at hW
            refine r_if_eq (tgt := 57) hx hb ⟨(by omega), (by omega)⟩ dX8_isProgram_39 (by decide) (fun c_75 => ?_) (fun c_75 => ?_)
            · refine lv_aload_n hx hb dX8_isProgram_57 rfl (lv_at hl 1 rfl) ?_
              refine lv_iconst (v := iv 4) hx hb dX8_isProgram_58 (by decide) ?_
              refine sBi (sV (As := [.int (iv 4)]) (rest := []) (k := 12) Cx (t_X8_is_y l G S hA hS (a := b) (k := 4) (by omega) (by omega)) (c_X8_82 Cx rfl rfl (rmk_ok (by omega) (by decide))) hW (by decide) rfl rfl rfl hl.1 rfl (Nat.le_of_ble_eq_true rfl) dX8_isProgram_59 ⟨Nat.le_of_ble_eq_true rfl, Nat.le_of_ble_eq_true rfl⟩) hL (fun r_78 u_76 H locs k_77 hW hL => ?_)
              obtain ⟨eu_76, xu_76, yu_76⟩ := k_77
              rw [eu_76] at hW
              refine r_if_ne (tgt := 75) hx hb ⟨(by omega), (by omega)⟩ dX8_isProgram_62 (by decide) (fun c_79 => ?_) (fun c_79 => ?_)
              · refine lv_aload_n hx hb dX8_isProgram_75 rfl (lv_at hl 1 rfl) ?_
                refine lv_dup hx hb dX8_isProgram_76 rfl ?_
                refine g_X8_26 Cx hW (k := 12) (by decide) rfl (v := b) uF_on dX8_isProgram_77 ?_
                refine lv_iconst (v := iv 1) hx hb dX8_isProgram_80 (by decide) ?_
                refine r_iadd hx hb dX8_isProgram_81 ?_
                refine p_X8_26 Cx hW hL (k := 12) (by decide) rfl dX8_isProgram_82 (fun H locs hW hL => ?_)
                rw [uF_uF] at hW
                refine lv_aload_n hx hb dX8_isProgram_85 rfl (lv_at hl 1 rfl) ?_
                refine lv_iconst (v := iv 0) hx hb dX8_isProgram_86 (by decide) ?_
                refine sBi (sV (As := [.int (iv 0)]) (rest := []) (k := 12) Cx ((syn_expr l G S hA hS) (b + 1) (by omega)) (c_X8_89 Cx rfl rfl (rmk_ok (by omega) (by decide))) hW (by decide) rfl rfl rfl hl.1 rfl (Nat.le_of_ble_eq_true rfl) dX8_isProgram_87 ⟨Nat.le_of_ble_eq_true rfl, Nat.le_of_ble_eq_true rfl⟩) hL (fun r_82 u_80 H locs k_81 hW hL => ?_)
                obtain ⟨au_80, eu_80, xu_80, yu_80, zu_80⟩ := k_81
                rw [eu_80] at hW
                refine r_if_eq (tgt := 102) hx hb ⟨(by omega), (by omega)⟩ dX8_isProgram_90 (by decide) (fun c_83 => ?_) (fun c_83 => ?_)
                · refine lv_iconst (v := iv 0) hx hb dX8_isProgram_102 (by decide) ?_
                  exact sZret Cx hr hlk hW hL (by omega) ⟨au_80, rfl, by omega, by omega, by omega, by omega⟩ dX8_isProgram_103
                · refine lv_aload_n hx hb dX8_isProgram_93 rfl (lv_at hl 1 rfl) ?_
                  refine lv_bipush (v := iv 15) hx hb dX8_isProgram_94 (by decide) ?_
                  refine sBi (sV (As := [.int (iv 15)]) (rest := []) (k := 12) Cx (t_X8_pass l G S hA hS (a := au_80) (k := 15) (by omega) (by omega)) (c_X8_92 Cx rfl rfl (rmk_ok (by omega) (by decide))) hW (by decide) rfl rfl rfl hl.1 rfl (Nat.le_of_ble_eq_true rfl) dX8_isProgram_96 ⟨Nat.le_of_ble_eq_true rfl, Nat.le_of_ble_eq_true rfl⟩) hL (fun r_86 u_84 H locs k_85 hW hL => ?_)
                  obtain ⟨au_84, eu_84, xu_84, yu_84, zu_84, vu_84⟩ := k_85
                  rw [eu_84] at hW
                  refine r_if_ne (tgt := 104) hx hb ⟨(by omega), (by omega)⟩ dX8_isProgram_99 (by decide) (fun c_87 => ?_) (fun c_87 => ?_)
                  · refine lv_iconst (v := iv 0) hx hb dX8_isProgram_104 (by decide) ?_
                    refine lv_istore_n (lv' := [(1, .int (iv 0)), (0, .ref (G.2.2.1 + 12))]) hx hb dX8_isProgram_105 rfl hl (by decide) rfl (fun ls hl => ?_)
                    have loop_106 : ∀ (fuel : Nat) (i2 : Int) (b : Int) (H : Heap) (locs : List Loc) (ls : Array Slot), (S.1 12 3 - i2).toNat < fuel → (0 ≤ i2 ∧ i2 ≤ S.1 12 3) → (0 ≤ b ∧ b ≤ S.1 12 3) → sW G 294 (uF S 12 4 b) H → sL G locs → lv_has ls 2 [(1, .int (iv i2)), (0, .ref (G.2.2.1 + 12))] → W p l e (rmk 98 0 0) s m args below meth c H locs 0 0 (MQ below (sQi G 294 (fun r u => ∃ a2 : Int, u = uF S 12 4 a2 ∧ 0 ≤ a2 ∧ a2 ≤ S.1 12 3 ∧ (r = 0 ∨ r = 1) ∧ (r = 1 → a2 < S.1 12 3 ∧ S.2.1 13 a2 = 0))) args s 0 0 (sF G)) (F0 m 106 ls []) := by
                      intro fuel
                      induction fuel with
                      | zero => intro i2 b H locs ls hmeas hi2 hb3 hW hL hl; exact absurd hmeas (Nat.not_lt_zero _)
                      | succ fuel ih_106 =>
                        intro i2 b H locs ls hmeas hi2 hb3 hW hL hl
                        refine lv_iload_n hx hb dX8_isProgram_106 rfl (lv_at hl 0 rfl) ?_
                        refine lv_aload_n hx hb dX8_isProgram_107 rfl (lv_at hl 1 rfl) ?_
                        refine g_X8_22 Cx hW (k := 12) (by decide) rfl (v := S.1 12 3) (uF_ne (fun h => absurd h.2 (by decide))) dX8_isProgram_108 ?_
                        refine r_icmp_ge (tgt := 138) hx hb ⟨(by omega), (by omega)⟩ ⟨(by omega), (by omega)⟩ dX8_isProgram_111 (by decide) (fun c_88 => ?_) (fun c_88 => ?_)
                        · refine lv_aload_n hx hb dX8_isProgram_138 rfl (lv_at hl 1 rfl) ?_
                          refine lv_iconst (v := iv 0) hx hb dX8_isProgram_139 (by decide) ?_
                          refine sBi (sV (As := [.int (iv 0)]) (rest := []) (k := 12) Cx (t_X8_is_y l G S hA hS (a := b) (k := 0) (by omega) (by omega)) (c_X8_82 Cx rfl rfl (rmk_ok (by omega) (by decide))) hW (by decide) rfl rfl rfl hl.1 rfl (Nat.le_of_ble_eq_true rfl) dX8_isProgram_140 ⟨Nat.le_of_ble_eq_true rfl, Nat.le_of_ble_eq_true rfl⟩) hL (fun r_91 u_89 H locs k_90 hW hL => ?_)
                          obtain ⟨eu_89, xu_89, yu_89⟩ := k_90
                          rw [eu_89] at hW
                          exact sZret Cx hr hlk hW hL (by omega) ⟨b, rfl, by omega, by omega, by omega, by omega⟩ dX8_isProgram_143
                        · refine lv_aload_n hx hb dX8_isProgram_114 rfl (lv_at hl 1 rfl) ?_
                          refine lv_bipush (v := iv 10) hx hb dX8_isProgram_115 (by decide) ?_
                          refine sBi (sV (As := [.int (iv 10)]) (rest := []) (k := 12) Cx (t_X8_is_y l G S hA hS (a := b) (k := 10) (by omega) (by omega)) (c_X8_82 Cx rfl rfl (rmk_ok (by omega) (by decide))) hW (by decide) rfl rfl rfl hl.1 rfl (Nat.le_of_ble_eq_true rfl) dX8_isProgram_117 ⟨Nat.le_of_ble_eq_true rfl, Nat.le_of_ble_eq_true rfl⟩) hL (fun r_94 u_92 H locs k_93 hW hL => ?_)
                          obtain ⟨eu_92, xu_92, yu_92⟩ := k_93
                          rw [eu_92] at hW
                          refine r_if_eq (tgt := 138) hx hb ⟨(by omega), (by omega)⟩ dX8_isProgram_120 (by decide) (fun c_95 => ?_) (fun c_95 => ?_)
                          · refine lv_aload_n hx hb dX8_isProgram_138 rfl (lv_at hl 1 rfl) ?_
                            refine lv_iconst (v := iv 0) hx hb dX8_isProgram_139 (by decide) ?_
                            refine sBi (sV (As := [.int (iv 0)]) (rest := []) (k := 12) Cx (t_X8_is_y l G S hA hS (a := b) (k := 0) (by omega) (by omega)) (c_X8_82 Cx rfl rfl (rmk_ok (by omega) (by decide))) hW (by decide) rfl rfl rfl hl.1 rfl (Nat.le_of_ble_eq_true rfl) dX8_isProgram_140 ⟨Nat.le_of_ble_eq_true rfl, Nat.le_of_ble_eq_true rfl⟩) hL (fun r_98 u_96 H locs k_97 hW hL => ?_)
                            obtain ⟨eu_96, xu_96, yu_96⟩ := k_97
                            rw [eu_96] at hW
                            exact sZret Cx hr hlk hW hL (by omega) ⟨b, rfl, by omega, by omega, by omega, by omega⟩ dX8_isProgram_143
                          · refine lv_aload_n hx hb dX8_isProgram_123 rfl (lv_at hl 1 rfl) ?_
                            refine sBi (sV (As := []) (rest := []) (k := 12) Cx (t_X8_row l G S hA hS (a := b) (by omega) (by omega)) (c_X8_95 Cx rfl rfl (rmk_ok (by omega) (by decide))) hW (by decide) rfl rfl rfl hl.1 rfl (Nat.le_of_ble_eq_true rfl) dX8_isProgram_124 ⟨Nat.le_of_ble_eq_true rfl, Nat.le_of_ble_eq_true rfl⟩) hL (fun r_101 u_99 H locs k_100 hW hL => ?_)
                            obtain ⟨au_99, eu_99, xu_99, yu_99, zu_99⟩ := k_100
                            rw [eu_99] at hW
                            refine r_if_ne (tgt := 132) hx hb ⟨(by omega), (by omega)⟩ dX8_isProgram_127 (by decide) (fun c_102 => ?_) (fun c_102 => ?_)
                            · refine lv_iinc (v := iv (i2 + 1)) (lv' := [(1, .int (iv (i2 + 1))), (0, .ref (G.2.2.1 + 12))]) hx hb dX8_isProgram_132 hl (k := 0) rfl ((Int32.ofInt_add _ _).symm) (by decide) rfl (fun ls hl => ?_)
                              refine lv_goto (tgt := 106) hx hb dX8_isProgram_135 (by decide) ?_
                              exact ih_106 (i2 + 1) au_99 _ _ _ (by omega) (by omega) (by omega) hW hL (lv_sub hl [0, 1] rfl)
                            · refine lv_iconst (v := iv 0) hx hb dX8_isProgram_130 (by decide) ?_
                              exact sZret Cx hr hlk hW hL (by omega) ⟨au_99, rfl, by omega, by omega, by omega, by omega⟩ dX8_isProgram_131
                    exact loop_106 (_ + 1) 0 au_84 _ _ _ (Nat.lt_succ_self _) (by omega) (by omega) hW hL (lv_sub hl [0, 1] rfl)
                  · refine lv_iconst (v := iv 0) hx hb dX8_isProgram_102 (by decide) ?_
                    exact sZret Cx hr hlk hW hL (by omega) ⟨au_84, rfl, by omega, by omega, by omega, by omega⟩ dX8_isProgram_103
              · refine lv_aload_n hx hb dX8_isProgram_65 rfl (lv_at hl 1 rfl) ?_
                refine lv_iconst (v := iv 5) hx hb dX8_isProgram_66 (by decide) ?_
                refine sBi (sV (As := [.int (iv 5)]) (rest := []) (k := 12) Cx (t_X8_is_y l G S hA hS (a := b) (k := 5) (by omega) (by omega)) (c_X8_82 Cx rfl rfl (rmk_ok (by omega) (by decide))) hW (by decide) rfl rfl rfl hl.1 rfl (Nat.le_of_ble_eq_true rfl) dX8_isProgram_67 ⟨Nat.le_of_ble_eq_true rfl, Nat.le_of_ble_eq_true rfl⟩) hL (fun r_105 u_103 H locs k_104 hW hL => ?_)
                obtain ⟨eu_103, xu_103, yu_103⟩ := k_104
                rw [eu_103] at hW
                refine r_if_ne (tgt := 75) hx hb ⟨(by omega), (by omega)⟩ dX8_isProgram_70 (by decide) (fun c_106 => ?_) (fun c_106 => ?_)
                · refine lv_aload_n hx hb dX8_isProgram_75 rfl (lv_at hl 1 rfl) ?_
                  refine lv_dup hx hb dX8_isProgram_76 rfl ?_
                  refine g_X8_26 Cx hW (k := 12) (by decide) rfl (v := b) uF_on dX8_isProgram_77 ?_
                  refine lv_iconst (v := iv 1) hx hb dX8_isProgram_80 (by decide) ?_
                  refine r_iadd hx hb dX8_isProgram_81 ?_
                  refine p_X8_26 Cx hW hL (k := 12) (by decide) rfl dX8_isProgram_82 (fun H locs hW hL => ?_)
                  rw [uF_uF] at hW
                  refine lv_aload_n hx hb dX8_isProgram_85 rfl (lv_at hl 1 rfl) ?_
                  refine lv_iconst (v := iv 0) hx hb dX8_isProgram_86 (by decide) ?_
                  refine sBi (sV (As := [.int (iv 0)]) (rest := []) (k := 12) Cx ((syn_expr l G S hA hS) (b + 1) (by omega)) (c_X8_89 Cx rfl rfl (rmk_ok (by omega) (by decide))) hW (by decide) rfl rfl rfl hl.1 rfl (Nat.le_of_ble_eq_true rfl) dX8_isProgram_87 ⟨Nat.le_of_ble_eq_true rfl, Nat.le_of_ble_eq_true rfl⟩) hL (fun r_109 u_107 H locs k_108 hW hL => ?_)
                  obtain ⟨au_107, eu_107, xu_107, yu_107, zu_107⟩ := k_108
                  rw [eu_107] at hW
                  refine r_if_eq (tgt := 102) hx hb ⟨(by omega), (by omega)⟩ dX8_isProgram_90 (by decide) (fun c_110 => ?_) (fun c_110 => ?_)
                  · refine lv_iconst (v := iv 0) hx hb dX8_isProgram_102 (by decide) ?_
                    exact sZret Cx hr hlk hW hL (by omega) ⟨au_107, rfl, by omega, by omega, by omega, by omega⟩ dX8_isProgram_103
                  · refine lv_aload_n hx hb dX8_isProgram_93 rfl (lv_at hl 1 rfl) ?_
                    refine lv_bipush (v := iv 15) hx hb dX8_isProgram_94 (by decide) ?_
                    refine sBi (sV (As := [.int (iv 15)]) (rest := []) (k := 12) Cx (t_X8_pass l G S hA hS (a := au_107) (k := 15) (by omega) (by omega)) (c_X8_92 Cx rfl rfl (rmk_ok (by omega) (by decide))) hW (by decide) rfl rfl rfl hl.1 rfl (Nat.le_of_ble_eq_true rfl) dX8_isProgram_96 ⟨Nat.le_of_ble_eq_true rfl, Nat.le_of_ble_eq_true rfl⟩) hL (fun r_113 u_111 H locs k_112 hW hL => ?_)
                    obtain ⟨au_111, eu_111, xu_111, yu_111, zu_111, vu_111⟩ := k_112
                    rw [eu_111] at hW
                    refine r_if_ne (tgt := 104) hx hb ⟨(by omega), (by omega)⟩ dX8_isProgram_99 (by decide) (fun c_114 => ?_) (fun c_114 => ?_)
                    · refine lv_iconst (v := iv 0) hx hb dX8_isProgram_104 (by decide) ?_
                      refine lv_istore_n (lv' := [(1, .int (iv 0)), (0, .ref (G.2.2.1 + 12))]) hx hb dX8_isProgram_105 rfl hl (by decide) rfl (fun ls hl => ?_)
                      have loop_106 : ∀ (fuel : Nat) (i2 : Int) (b : Int) (H : Heap) (locs : List Loc) (ls : Array Slot), (S.1 12 3 - i2).toNat < fuel → (0 ≤ i2 ∧ i2 ≤ S.1 12 3) → (0 ≤ b ∧ b ≤ S.1 12 3) → sW G 294 (uF S 12 4 b) H → sL G locs → lv_has ls 2 [(1, .int (iv i2)), (0, .ref (G.2.2.1 + 12))] → W p l e (rmk 98 0 0) s m args below meth c H locs 0 0 (MQ below (sQi G 294 (fun r u => ∃ a2 : Int, u = uF S 12 4 a2 ∧ 0 ≤ a2 ∧ a2 ≤ S.1 12 3 ∧ (r = 0 ∨ r = 1) ∧ (r = 1 → a2 < S.1 12 3 ∧ S.2.1 13 a2 = 0))) args s 0 0 (sF G)) (F0 m 106 ls []) := by
                        intro fuel
                        induction fuel with
                        | zero => intro i2 b H locs ls hmeas hi2 hb3 hW hL hl; exact absurd hmeas (Nat.not_lt_zero _)
                        | succ fuel ih_106 =>
                          intro i2 b H locs ls hmeas hi2 hb3 hW hL hl
                          refine lv_iload_n hx hb dX8_isProgram_106 rfl (lv_at hl 0 rfl) ?_
                          refine lv_aload_n hx hb dX8_isProgram_107 rfl (lv_at hl 1 rfl) ?_
                          refine g_X8_22 Cx hW (k := 12) (by decide) rfl (v := S.1 12 3) (uF_ne (fun h => absurd h.2 (by decide))) dX8_isProgram_108 ?_
                          refine r_icmp_ge (tgt := 138) hx hb ⟨(by omega), (by omega)⟩ ⟨(by omega), (by omega)⟩ dX8_isProgram_111 (by decide) (fun c_115 => ?_) (fun c_115 => ?_)
                          · refine lv_aload_n hx hb dX8_isProgram_138 rfl (lv_at hl 1 rfl) ?_
                            refine lv_iconst (v := iv 0) hx hb dX8_isProgram_139 (by decide) ?_
                            refine sBi (sV (As := [.int (iv 0)]) (rest := []) (k := 12) Cx (t_X8_is_y l G S hA hS (a := b) (k := 0) (by omega) (by omega)) (c_X8_82 Cx rfl rfl (rmk_ok (by omega) (by decide))) hW (by decide) rfl rfl rfl hl.1 rfl (Nat.le_of_ble_eq_true rfl) dX8_isProgram_140 ⟨Nat.le_of_ble_eq_true rfl, Nat.le_of_ble_eq_true rfl⟩) hL (fun r_118 u_116 H locs k_117 hW hL => ?_)
                            obtain ⟨eu_116, xu_116, yu_116⟩ := k_117
                            rw [eu_116] at hW
                            exact sZret Cx hr hlk hW hL (by omega) ⟨b, rfl, by omega, by omega, by omega, by omega⟩ dX8_isProgram_143
                          · refine lv_aload_n hx hb dX8_isProgram_114 rfl (lv_at hl 1 rfl) ?_
                            refine lv_bipush (v := iv 10) hx hb dX8_isProgram_115 (by decide) ?_
                            refine sBi (sV (As := [.int (iv 10)]) (rest := []) (k := 12) Cx (t_X8_is_y l G S hA hS (a := b) (k := 10) (by omega) (by omega)) (c_X8_82 Cx rfl rfl (rmk_ok (by omega) (by decide))) hW (by decide) rfl rfl rfl hl.1 rfl (Nat.le_of_ble_eq_true rfl) dX8_isProgram_117 ⟨Nat.le_of_ble_eq_true rfl, Nat.le_of_ble_eq_true rfl⟩) hL (fun r_121 u_119 H locs k_120 hW hL => ?_)
                            obtain ⟨eu_119, xu_119, yu_119⟩ := k_120
                            rw [eu_119] at hW
                            refine r_if_eq (tgt := 138) hx hb ⟨(by omega), (by omega)⟩ dX8_isProgram_120 (by decide) (fun c_122 => ?_) (fun c_122 => ?_)
                            · refine lv_aload_n hx hb dX8_isProgram_138 rfl (lv_at hl 1 rfl) ?_
                              refine lv_iconst (v := iv 0) hx hb dX8_isProgram_139 (by decide) ?_
                              refine sBi (sV (As := [.int (iv 0)]) (rest := []) (k := 12) Cx (t_X8_is_y l G S hA hS (a := b) (k := 0) (by omega) (by omega)) (c_X8_82 Cx rfl rfl (rmk_ok (by omega) (by decide))) hW (by decide) rfl rfl rfl hl.1 rfl (Nat.le_of_ble_eq_true rfl) dX8_isProgram_140 ⟨Nat.le_of_ble_eq_true rfl, Nat.le_of_ble_eq_true rfl⟩) hL (fun r_125 u_123 H locs k_124 hW hL => ?_)
                              obtain ⟨eu_123, xu_123, yu_123⟩ := k_124
                              rw [eu_123] at hW
                              exact sZret Cx hr hlk hW hL (by omega) ⟨b, rfl, by omega, by omega, by omega, by omega⟩ dX8_isProgram_143
                            · refine lv_aload_n hx hb dX8_isProgram_123 rfl (lv_at hl 1 rfl) ?_
                              refine sBi (sV (As := []) (rest := []) (k := 12) Cx (t_X8_row l G S hA hS (a := b) (by omega) (by omega)) (c_X8_95 Cx rfl rfl (rmk_ok (by omega) (by decide))) hW (by decide) rfl rfl rfl hl.1 rfl (Nat.le_of_ble_eq_true rfl) dX8_isProgram_124 ⟨Nat.le_of_ble_eq_true rfl, Nat.le_of_ble_eq_true rfl⟩) hL (fun r_128 u_126 H locs k_127 hW hL => ?_)
                              obtain ⟨au_126, eu_126, xu_126, yu_126, zu_126⟩ := k_127
                              rw [eu_126] at hW
                              refine r_if_ne (tgt := 132) hx hb ⟨(by omega), (by omega)⟩ dX8_isProgram_127 (by decide) (fun c_129 => ?_) (fun c_129 => ?_)
                              · refine lv_iinc (v := iv (i2 + 1)) (lv' := [(1, .int (iv (i2 + 1))), (0, .ref (G.2.2.1 + 12))]) hx hb dX8_isProgram_132 hl (k := 0) rfl ((Int32.ofInt_add _ _).symm) (by decide) rfl (fun ls hl => ?_)
                                refine lv_goto (tgt := 106) hx hb dX8_isProgram_135 (by decide) ?_
                                exact ih_106 (i2 + 1) au_126 _ _ _ (by omega) (by omega) (by omega) hW hL (lv_sub hl [0, 1] rfl)
                              · refine lv_iconst (v := iv 0) hx hb dX8_isProgram_130 (by decide) ?_
                                exact sZret Cx hr hlk hW hL (by omega) ⟨au_126, rfl, by omega, by omega, by omega, by omega⟩ dX8_isProgram_131
                      exact loop_106 (_ + 1) 0 au_111 _ _ _ (Nat.lt_succ_self _) (by omega) (by omega) hW hL (lv_sub hl [0, 1] rfl)
                    · refine lv_iconst (v := iv 0) hx hb dX8_isProgram_102 (by decide) ?_
                      exact sZret Cx hr hlk hW hL (by omega) ⟨au_111, rfl, by omega, by omega, by omega, by omega⟩ dX8_isProgram_103
                · refine lv_iconst (v := iv 0) hx hb dX8_isProgram_73 (by decide) ?_
                  exact sZret Cx hr hlk hW hL (by omega) ⟨b, rfl, by omega, by omega, by omega, by omega⟩ dX8_isProgram_74
            · refine lv_aload_n hx hb dX8_isProgram_42 rfl (lv_at hl 1 rfl) ?_
              refine sBi (sV (As := []) (rest := []) (k := 12) Cx (t_X8_declaration l G S hA hS (a := b) (by omega) (by omega)) (c_X8_85 Cx rfl rfl (rmk_ok (by omega) (by decide))) hW (by decide) rfl rfl rfl hl.1 rfl (Nat.le_of_ble_eq_true rfl) dX8_isProgram_43 ⟨Nat.le_of_ble_eq_true rfl, Nat.le_of_ble_eq_true rfl⟩) hL (fun r_132 u_130 H locs k_131 hW hL => ?_)
              obtain ⟨au_130, eu_130, xu_130, yu_130, zu_130⟩ := k_131
              rw [eu_130] at hW
              refine r_if_ne (tgt := 51) hx hb ⟨(by omega), (by omega)⟩ dX8_isProgram_46 (by decide) (fun c_133 => ?_) (fun c_133 => ?_)
              · refine lv_iinc (v := iv (i + 1)) (lv' := [(1, .int (iv (i + 1))), (0, .ref (G.2.2.1 + 12))]) hx hb dX8_isProgram_51 hl (k := 0) rfl ((Int32.ofInt_add _ _).symm) (by decide) rfl (fun ls hl => ?_)
                refine lv_goto (tgt := 7) hx hb dX8_isProgram_54 (by decide) ?_
                exact ih_7 (i + 1) au_130 _ _ _ (by omega) (by omega) (by omega) hW hL (lv_sub hl [0, 1] rfl)
              · refine lv_iconst (v := iv 0) hx hb dX8_isProgram_49 (by decide) ?_
                exact sZret Cx hr hlk hW hL (by omega) ⟨au_130, rfl, by omega, by omega, by omega, by omega⟩ dX8_isProgram_50
  exact loop_7 (_ + 1) 0 0 _ _ _ (Nat.lt_succ_self _) (by omega) (by omega) hW hL (lv_sub hl [0, 1] rfl)

theorem s_X8_isProgram (l : Launch) (G : sG) (S : sS) (hI : cX G S 0 0 0) : Met l yX8_isProgram (.code yX8_isProgram cX8_isProgram 2 (some .boolean) :: tb) (rmk 98 0 0) (sPc G 294 S [.ref (G.2.2.1 + 12)]) (sQi G 294 (fun r u => cX G u 0 0 0 ∧ Fr S u pQ ∧ ((0 ≤ r ∧ r ≤ 1) ∧ (u.1 12 3 = S.1 12 3 ∧ u.2 = S.2) ∧ Hd (r = 1 → SE S → SG u)))) 0 0 (sF G) := by
  have h := t_X8_isProgram_y l G S (a := S.1 12 4) hI.syn.1 hI.syn.2
  rw [uF_self] at h
  refine sMi h (fun r u hu => ?_)
  obtain ⟨a2, e, a0, a1, hr, h1⟩ := hu
  have hT := hI.syn.2.1
  subst e
  refine ⟨hI.F rfl rfl (show -2147483648 ≤ a2 ∧ a2 ≤ 2147483647 from ⟨by omega, by omega⟩), (Fr.rf : Fr S S pQ).F rfl, by omega, ⟨uF_i (by decide), rfl⟩, fun q hE => ?_⟩
  have hg := hE.g a0 (h1 q).1 (h1 q).2
  intro j j0 j1
  rw [uF_i (by decide)] at j1
  exact hg j j0 j1

set_option maxRecDepth 100000 in
set_option maxHeartbeats 4000000 in
theorem s_X8_kind (l : Launch) (G : sG) (S : sS) {k : Int} (hI : cX G S 0 0 0) (hk : -2147483648 ≤ k ∧ k ≤ 2147483647) : Met l yX8_kind (.code yX8_kind cX8_kind 2 (some .int) :: tb) (rmk 1 0 0) (sPc G 294 S [.ref (G.2.2.1 + 12), .int (iv k)]) (sQi G 294 (fun r u => u = S ∧ (r = kd S k ∧ 0 ≤ r ∧ r ≤ 26))) 0 0 (sF G) := by
  refine sEnter (by decide) (Nat.le_of_ble_eq_true rfl) ?_
  intro p e s m args below meth c Cx hr hlk hnm hW ls hl
  have Cx : sC G p m c cX8_kind 2 s args RX8 := Cx
  obtain ⟨hx, hb, hml, hown, hts⟩ := id Cx.1
  have hL : sL G [] := sL_nil
  have hl : lv_has ls 2 [(0, .ref (G.2.2.1 + 12)), (1, .int (iv k))] := hl
  have hW0 := hW
  refine lv_iload_n hx hb dX8_kind_0 rfl (lv_at hl 1 rfl) ?_
  refine r_if_lt (tgt := 21) hx hb ⟨(by omega), (by omega)⟩ dX8_kind_1 (by decide) (fun c_1 => ?_) (fun c_1 => ?_)
  · refine lv_iconst (v := iv 0) hx hb dX8_kind_21 (by decide) ?_
    exact sIret Cx hr hlk hW hL ⟨rfl, ⟨(if_neg (by omega)).symm, by omega, by omega⟩⟩ dX8_kind_22
  · refine lv_iload_n hx hb dX8_kind_4 rfl (lv_at hl 1 rfl) ?_
    refine lv_aload_n hx hb dX8_kind_5 rfl (lv_at hl 0 rfl) ?_
    have q_2 : 0 ≤ S.1 12 3 ∧ S.1 12 3 ≤ 2001 := hI.fi 12 3 8 (by decide) rfl
    refine g_X8_22 Cx hW (k := 12) (by decide) rfl (v := S.1 12 3) rfl dX8_kind_6 ?_
    refine r_icmp_ge (tgt := 21) hx hb ⟨(by omega), (by omega)⟩ ⟨(by omega), (by omega)⟩ dX8_kind_9 (by decide) (fun c_3 => ?_) (fun c_3 => ?_)
    · refine lv_iconst (v := iv 0) hx hb dX8_kind_21 (by decide) ?_
      exact sIret Cx hr hlk hW hL ⟨rfl, ⟨(if_neg (by omega)).symm, by omega, by omega⟩⟩ dX8_kind_22
    · refine lv_aload_n hx hb dX8_kind_12 rfl (lv_at hl 0 rfl) ?_
      refine g_X8_11 Cx hW (k := 12) (by decide) rfl (v := .ref (G.2.2.1 + 13)) (rf_12_0 hI) dX8_kind_13 ?_
      refine lv_iload_n hx hb dX8_kind_16 rfl (lv_at hl 1 rfl) ?_
      refine rIald Cx hW (k := 13) (by decide) rfl (by decide) (by omega) (by omega) dX8_kind_17 ?_
      have q_4 : 0 ≤ S.2.1 13 k ∧ S.2.1 13 k ≤ 26 := hI.ai 13 k (by decide)
      refine r_i (b := S.2.1 13 k) rfl ?_
      refine lv_goto (tgt := 22) hx hb dX8_kind_18 (by decide) ?_
      exact sIret Cx hr hlk hW hL ⟨rfl, ⟨(if_pos ⟨by omega, by omega⟩).symm, by omega, by omega⟩⟩ dX8_kind_22

set_option maxRecDepth 100000 in
set_option maxHeartbeats 4000000 in
theorem s_X8_start (l : Launch) (G : sG) (S : sS) {k : Int} (hI : cX G S 0 0 0) (hk : -2147483648 ≤ k ∧ k ≤ 2147483647) : Met l yX8_start (.code yX8_start cX8_start 2 (some .int) :: tb) (rmk 1 0 0) (sPc G 294 S [.ref (G.2.2.1 + 12), .int (iv k)]) (sQi G 294 (fun r u => u = S ∧ (-1 ≤ r ∧ r ≤ 2000))) 0 0 (sF G) := by
  refine sEnter (by decide) (Nat.le_of_ble_eq_true rfl) ?_
  intro p e s m args below meth c Cx hr hlk hnm hW ls hl
  have Cx : sC G p m c cX8_start 2 s args RX8 := Cx
  obtain ⟨hx, hb, hml, hown, hts⟩ := id Cx.1
  have hL : sL G [] := sL_nil
  have hl : lv_has ls 2 [(0, .ref (G.2.2.1 + 12)), (1, .int (iv k))] := hl
  have hW0 := hW
  refine lv_iload_n hx hb dX8_start_0 rfl (lv_at hl 1 rfl) ?_
  refine r_if_lt (tgt := 21) hx hb ⟨(by omega), (by omega)⟩ dX8_start_1 (by decide) (fun c_1 => ?_) (fun c_1 => ?_)
  · refine lv_iconst (v := iv (-1)) hx hb dX8_start_21 (by decide) ?_
    exact sIret Cx hr hlk hW hL ⟨rfl, (by omega)⟩ dX8_start_22
  · refine lv_iload_n hx hb dX8_start_4 rfl (lv_at hl 1 rfl) ?_
    refine lv_aload_n hx hb dX8_start_5 rfl (lv_at hl 0 rfl) ?_
    have q_2 : 0 ≤ S.1 12 3 ∧ S.1 12 3 ≤ 2001 := hI.fi 12 3 8 (by decide) rfl
    refine g_X8_22 Cx hW (k := 12) (by decide) rfl (v := S.1 12 3) rfl dX8_start_6 ?_
    refine r_icmp_ge (tgt := 21) hx hb ⟨(by omega), (by omega)⟩ ⟨(by omega), (by omega)⟩ dX8_start_9 (by decide) (fun c_3 => ?_) (fun c_3 => ?_)
    · refine lv_iconst (v := iv (-1)) hx hb dX8_start_21 (by decide) ?_
      exact sIret Cx hr hlk hW hL ⟨rfl, (by omega)⟩ dX8_start_22
    · refine lv_aload_n hx hb dX8_start_12 rfl (lv_at hl 0 rfl) ?_
      refine g_X8_15 Cx hW (k := 12) (by decide) rfl (v := .ref (G.2.2.1 + 14)) (rf_12_1 hI) dX8_start_13 ?_
      refine lv_iload_n hx hb dX8_start_16 rfl (lv_at hl 1 rfl) ?_
      refine rIald Cx hW (k := 14) (by decide) rfl (by decide) (by omega) (by omega) dX8_start_17 ?_
      have q_4 : 0 ≤ S.2.1 14 k ∧ S.2.1 14 k ≤ 2000 := hI.ai 14 k (by decide)
      refine r_i (b := S.2.1 14 k) rfl ?_
      refine lv_goto (tgt := 22) hx hb dX8_start_18 (by decide) ?_
      exact sIret Cx hr hlk hW hL ⟨rfl, (by omega)⟩ dX8_start_22

set_option maxRecDepth 100000 in
set_option maxHeartbeats 4000000 in
theorem s_X8_value (l : Launch) (G : sG) (S : sS) {k : Int} (hI : cX G S 0 0 0) (hk : -2147483648 ≤ k ∧ k ≤ 2147483647) : Met l yX8_value (.code yX8_value cX8_value 2 (some .long) :: tb) (rmk 1 0 0) (sPc G 294 S [.ref (G.2.2.1 + 12), .int (iv k)]) (sQl G 294 (fun r u => u = S ∧ (r = vd S k ∧ -9223372036854775808 ≤ r ∧ r ≤ 9223372036854775807))) 0 0 (sF G) := by
  refine sEnter (by decide) (Nat.le_of_ble_eq_true rfl) ?_
  intro p e s m args below meth c Cx hr hlk hnm hW ls hl
  have Cx : sC G p m c cX8_value 2 s args RX8 := Cx
  obtain ⟨hx, hb, hml, hown, hts⟩ := id Cx.1
  have hL : sL G [] := sL_nil
  have hl : lv_has ls 2 [(0, .ref (G.2.2.1 + 12)), (1, .int (iv k))] := hl
  have hW0 := hW
  refine lv_iload_n hx hb dX8_value_0 rfl (lv_at hl 1 rfl) ?_
  refine r_if_lt (tgt := 21) hx hb ⟨(by omega), (by omega)⟩ dX8_value_1 (by decide) (fun c_1 => ?_) (fun c_1 => ?_)
  · refine lv_lconst (v := jv 0) hx hb dX8_value_21 (by decide) ?_
    exact sLret Cx hr hlk hW hL ⟨rfl, ⟨(if_neg (by omega)).symm, by omega, by omega⟩⟩ dX8_value_22
  · refine lv_iload_n hx hb dX8_value_4 rfl (lv_at hl 1 rfl) ?_
    refine lv_aload_n hx hb dX8_value_5 rfl (lv_at hl 0 rfl) ?_
    have q_2 : 0 ≤ S.1 12 3 ∧ S.1 12 3 ≤ 2001 := hI.fi 12 3 8 (by decide) rfl
    refine g_X8_22 Cx hW (k := 12) (by decide) rfl (v := S.1 12 3) rfl dX8_value_6 ?_
    refine r_icmp_ge (tgt := 21) hx hb ⟨(by omega), (by omega)⟩ ⟨(by omega), (by omega)⟩ dX8_value_9 (by decide) (fun c_3 => ?_) (fun c_3 => ?_)
    · refine lv_lconst (v := jv 0) hx hb dX8_value_21 (by decide) ?_
      exact sLret Cx hr hlk hW hL ⟨rfl, ⟨(if_neg (by omega)).symm, by omega, by omega⟩⟩ dX8_value_22
    · refine lv_aload_n hx hb dX8_value_12 rfl (lv_at hl 0 rfl) ?_
      refine g_X8_18 Cx hW (k := 12) (by decide) rfl (v := .ref (G.2.2.1 + 15)) (rf_12_2 hI) dX8_value_13 ?_
      refine lv_iload_n hx hb dX8_value_16 rfl (lv_at hl 1 rfl) ?_
      refine rLald Cx hW (k := 15) (by decide) rfl (by decide) (by omega) (by omega) dX8_value_17 ?_
      have q_4 : -9223372036854775808 ≤ S.2.2.1 15 k ∧ S.2.2.1 15 k ≤ 9223372036854775807 := hI.li 15 k (by decide)
      refine r_j (b := S.2.2.1 15 k) rfl ?_
      refine lv_goto (tgt := 22) hx hb dX8_value_18 (by decide) ?_
      exact sLret Cx hr hlk hW hL ⟨rfl, ⟨(if_pos ⟨by omega, by omega⟩).symm, by omega, by omega⟩⟩ dX8_value_22

set_option maxRecDepth 100000 in
set_option maxHeartbeats 4000000 in
theorem s_X8_stopPlace (l : Launch) (G : sG) (S : sS)  (hI : cX G S 0 0 0) : Met l yX8_stopPlace (.code yX8_stopPlace cX8_stopPlace 1 (some .int) :: tb) (rmk 2 0 0) (sPc G 294 S [.ref (G.2.2.1 + 12)]) (sQi G 294 (fun r u => u = S ∧ (-1 ≤ r ∧ r ≤ 2000))) 0 0 (sF G) := by
  refine sEnter (by decide) (Nat.le_of_ble_eq_true rfl) ?_
  intro p e s m args below meth c Cx hr hlk hnm hW ls hl
  have Cx : sC G p m c cX8_stopPlace 1 s args RX8 := Cx
  obtain ⟨hx, hb, hml, hown, hts⟩ := id Cx.1
  have hL : sL G [] := sL_nil
  have hl : lv_has ls 1 [(0, .ref (G.2.2.1 + 12))] := hl
  have hW0 := hW
  refine lv_aload_n hx hb dX8_stopPlace_0 rfl (lv_at hl 0 rfl) ?_
  refine lv_aload_n hx hb dX8_stopPlace_1 rfl (lv_at hl 0 rfl) ?_
  have q_1 : (-2147483648) ≤ S.1 12 4 ∧ S.1 12 4 ≤ 2147483647 := hI.fi 12 4 8 (by decide) rfl
  refine g_X8_26 Cx hW (k := 12) (by decide) rfl (v := S.1 12 4) rfl dX8_stopPlace_2 ?_
  refine sBi (sV (As := [.int (iv (S.1 12 4))]) (rest := []) (k := 12) Cx (s_X8_start l G S (k := S.1 12 4) hI (by omega)) (c_X8_29 Cx rfl rfl (rmk_ok (by omega) (by decide))) hW (by decide) rfl rfl rfl hl.1 rfl (Nat.le_of_ble_eq_true rfl) dX8_stopPlace_5 ⟨Nat.le_of_ble_eq_true rfl, Nat.le_of_ble_eq_true rfl⟩) hL (fun r_4 u_2 H locs k_3 hW hL => ?_)
  obtain ⟨eu_2, xu_2⟩ := k_3
  rw [eu_2] at hW
  exact sIret Cx hr hlk hW hL ⟨rfl, (by omega)⟩ dX8_stopPlace_8

set_option maxRecDepth 100000 in
set_option maxHeartbeats 4000000 in
theorem s_X8_tokenCount (l : Launch) (G : sG) (S : sS)  (hI : cX G S 0 0 0) : Met l yX8_tokenCount (.code yX8_tokenCount cX8_tokenCount 1 (some .int) :: tb) (rmk 1 0 0) (sPc G 294 S [.ref (G.2.2.1 + 12)]) (sQi G 294 (fun r u => u = S ∧ (r = S.1 12 3 ∧ 0 ≤ r ∧ r ≤ 2001))) 0 0 (sF G) := by
  refine sEnter (by decide) (Nat.le_of_ble_eq_true rfl) ?_
  intro p e s m args below meth c Cx hr hlk hnm hW ls hl
  have Cx : sC G p m c cX8_tokenCount 1 s args RX8 := Cx
  obtain ⟨hx, hb, hml, hown, hts⟩ := id Cx.1
  have hL : sL G [] := sL_nil
  have hl : lv_has ls 1 [(0, .ref (G.2.2.1 + 12))] := hl
  have hW0 := hW
  refine lv_aload_n hx hb dX8_tokenCount_0 rfl (lv_at hl 0 rfl) ?_
  have q_1 : 0 ≤ S.1 12 3 ∧ S.1 12 3 ≤ 2001 := hI.fi 12 3 8 (by decide) rfl
  refine g_X8_22 Cx hW (k := 12) (by decide) rfl (v := S.1 12 3) rfl dX8_tokenCount_1 ?_
  exact sIret Cx hr hlk hW hL ⟨rfl, (by omega)⟩ dX8_tokenCount_4
