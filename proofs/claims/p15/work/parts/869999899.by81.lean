theorem PT.pr {S u : sS} {T : Int} {kp vp : Int → Int} (h : PT S T kp vp) (q : PR S u) (e : u.1 1 1 = S.1 1 1) : PT u T kp vp := h.of q.2.1 (fun j => by rw [q.1]) e (fun j => by rw [q.1])
theorem PT.k {S : sS} {T r : Int} {kp vp : Int → Int} (h : PT S T kp vp) (h0 : 0 ≤ S.1 189 3) (hT : S.1 189 3 < T) (x1 : r ≠ 0 → S.1 189 3 < S.1 189 2 ∧ S.2.1 192 (S.1 189 3) % 16 = r) (x2 : r = 0 → S.1 189 2 ≤ S.1 189 3 ∨ S.2.1 192 (S.1 189 3) % 16 = 0) : r = kp (S.1 189 3) := by
  have a := h.1; have b := (h.2 _ h0 hT).1
  by_cases q : r = 0
  · rcases x2 q with z | z
    · omega
    · omega
  · have := x1 q; omega
/-- a token that isn't a stop isn't the last -/
def KS (T : Int) (kp : Int → Int) : Prop := ∀ j, 2 ≤ kp j → kp j ≠ 6 → 0 ≤ j ∧ j + 1 < T
theorem dvn_pos {B : Int → Int} {p : Int} : ∀ n : Nat, (∀ i : Int, p ≤ i → i < p + n → 48 ≤ B i) → ((∃ i, p ≤ i ∧ i < p + n ∧ B i ≠ 48) ↔ 0 < dvn B p n) := by
  intro n
  induction n with
  | zero => intro _; exact ⟨fun ⟨i, a, b, _⟩ => by exfalso; omega, fun h => absurd h (by show ¬ (0 : Int) < 0; omega)⟩
  | succ n ih =>
    intro h
    have i0 := ih (fun i a b => h i a (by omega))
    have z := dvn_0 (B := B) (p := p) n (fun i a b => h i a (by omega))
    have w := h (p + n) (by omega) (by omega)
    show _ ↔ 0 < 10 * dvn B p n + B (p + n) - 48
    constructor
    · rintro ⟨i, a, b, c⟩
      by_cases q : i = p + n
      · rw [q] at c; omega
      · have := i0.mp ⟨i, a, by omega, c⟩; omega
    · intro g
      by_cases q : B (p + n) = 48
      · obtain ⟨i, a, b, c⟩ := i0.mpr (by omega)
        exact ⟨i, a, by omega, c⟩
      · exact ⟨p + n, by omega, by omega, q⟩
theorem NVc.ab {S : sS} {p x b : Int} (h : NVc S p x) (hl : p ≤ b) (h1 : ∀ i, p ≤ i → i < b → dgt S i) (h2 : ¬ dgt S b) : (∃ i, p ≤ i ∧ i < b ∧ bt S 1 i ≠ 48) ↔ 0 < x := by
  by_cases q : bt S 1 p = 45
  · obtain ⟨e, _, _, _, _, e5⟩ := h.1 q
    constructor
    · rintro ⟨i, a, c, _⟩
      exfalso
      have := h1 p (by omega) (by omega); unfold dgt at this; omega
    · intro z; exfalso; omega
  · have e := (h.p q rfl hl h1 h2).1
    have d := dvn_pos (B := bt S 1) (p := p) (b - p).toNat (fun i a c => (h1 i a (by omega)).1)
    rw [e, show p + (((b - p).toNat : Nat) : Int) = b by omega] at d
    exact d
def gAb (kp vp : Int → Int) (t : Int) : Prop := kp t = 2 ∧ 0 < vp t
/-- n NUMBERS, a SLASH, a NUMBER above 0 -/
def gPn (kp vp : Int → Int) (n t : Int) : Prop := (∀ j, 0 ≤ j → j < n → kp (t + j) = 2) ∧ kp (t + n) = 3 ∧ gAb kp vp (t + n + 1)
set_option maxRecDepth 100000 in
set_option maxHeartbeats 4000000 in
theorem b_X4_hasMoreThanNoughts (l : Launch) (G : sG) (S : sS) {f b : Int} (hI : cX G S 0 0 0) (hf : -2147483648 ≤ f ∧ f ≤ 2147483647) (hb : -2147483648 ≤ b ∧ b ≤ 2147483647) (hrt : RT G S) : Met l yX4_hasMoreThanNoughts (.code yX4_hasMoreThanNoughts cX4_hasMoreThanNoughts 4 (some .boolean) :: tb) (rmk 2 0 0) (sPc G 294 S [.ref (G.2.2.1 + 189), .int (iv f), .int (iv b)]) (sQi G 294 (fun r u => u = S ∧ (0 ≤ r ∧ r ≤ 1 ∧ Hd (r = 1 ↔ ∃ i, f ≤ i ∧ i < b ∧ bt S 1 i ≠ 48)))) 0 0 (sF G) := by
  refine sEnter (by decide) (Nat.le_of_ble_eq_true rfl) ?_
  intro p e s m args below meth c Cx hr hlk hnm hW ls hl
  have Cx : sC G p m c cX4_hasMoreThanNoughts 4 s args RX4 := Cx
  obtain ⟨hx, hb, hml, hown, hts⟩ := id Cx.1
  have hL : sL G [] := sL_nil
  have hl : lv_has ls 4 [(0, .ref (G.2.2.1 + 189)), (1, .int (iv f)), (2, .int (iv b))] := hl
  have hW0 := hW
  have hl1 : 0 ≤ S.1 1 1 ∧ S.1 1 1 ≤ 30000 := hI.fi 1 1 10 (by decide) rfl
  refine lv_iload_n hx hb dX4_hasMoreThanNoughts_0 rfl (lv_at hl 1 rfl) ?_
  refine lv_istore_n (lv' := [(3, .int (iv f)), (0, .ref (G.2.2.1 + 189)), (1, .int (iv f)), (2, .int (iv b))]) hx hb dX4_hasMoreThanNoughts_1 rfl hl (by decide) rfl (fun ls hl => ?_)
  have loop_2 : ∀ (fuel : Nat) (k : Int) (H : Heap) (locs : List Loc) (ls : Array Slot), (b - k).toNat < fuel → (f ≤ k ∧ k ≤ 2147483647) → (Hd (∀ i, f ≤ i → i < k → bt S 1 i = 48)) → sW G 294 S H → sL G locs → lv_has ls 4 [(3, .int (iv k)), (0, .ref (G.2.2.1 + 189)), (1, .int (iv f)), (2, .int (iv b))] → W p l e (rmk 2 0 0) s m args below meth c H locs 0 0 (MQ below (sQi G 294 (fun r u => u = S ∧ (0 ≤ r ∧ r ≤ 1 ∧ Hd (r = 1 ↔ ∃ i, f ≤ i ∧ i < b ∧ bt S 1 i ≠ 48)))) args s 0 0 (sF G)) (F0 m 2 ls []) := by
    intro fuel
    induction fuel with
    | zero => intro k H locs ls hmeas hk hz hW hL hl; exact absurd hmeas (Nat.not_lt_zero _)
    | succ fuel ih_2 =>
      intro k H locs ls hmeas hk hz hW hL hl
      refine lv_iload_n hx hb dX4_hasMoreThanNoughts_2 rfl (lv_at hl 0 rfl) ?_
      refine lv_iload_n hx hb dX4_hasMoreThanNoughts_3 rfl (lv_at hl 3 rfl) ?_
      refine r_icmp_ge (tgt := 28) hx hb ⟨(by omega), (by omega)⟩ ⟨(by omega), (by omega)⟩ dX4_hasMoreThanNoughts_4 (by decide) (fun c_1 => ?_) (fun c_1 => ?_)
      · refine lv_iconst (v := iv 0) hx hb dX4_hasMoreThanNoughts_28 (by decide) ?_
        exact sZret Cx hr hlk hW hL (by omega) ⟨rfl, ⟨(by omega), (by omega), (show _ ↔ _ from ⟨fun q => absurd q (by omega), fun ⟨i, a, c, d⟩ => absurd (hz i a (by omega)) d⟩)⟩⟩ dX4_hasMoreThanNoughts_29
      · refine lv_aload_n hx hb dX4_hasMoreThanNoughts_7 rfl (lv_at hl 1 rfl) ?_
        refine g_X4_14 Cx hW (k := 189) (by decide) rfl (v := .ref (G.2.2.1 + 1)) hrt dX4_hasMoreThanNoughts_8 ?_
        refine lv_iload_n hx hb dX4_hasMoreThanNoughts_11 rfl (lv_at hl 0 rfl) ?_
        have q_2 : 0 ≤ S.1 1 1 ∧ S.1 1 1 ≤ 30000 := hI.fi 1 1 10 (by decide) rfl
        refine sBi (sV (As := [.int (iv k)]) (rest := []) (k := 1) Cx (s_X10_byteAt l G S (o := 1) (k := k) (N := 30000) hI ⟨by decide, rfl, rfl, rfl, rfl, by decide⟩ (by omega)) (c_X4_43 Cx rfl rfl (rmk_ok (by omega) (by decide))) hW (by decide) rfl rfl rfl hl.1 rfl (Nat.le_of_ble_eq_true rfl) dX4_hasMoreThanNoughts_12 ⟨Nat.le_of_ble_eq_true rfl, Nat.le_of_ble_eq_true rfl⟩) hL (fun r_5 u_3 H locs k_4 hW hL => ?_)
        obtain ⟨eu_3, xu_3⟩ := k_4
        rw [eu_3] at hW
        refine lv_bipush (v := iv 48) hx hb dX4_hasMoreThanNoughts_15 (by decide) ?_
        refine r_icmp_eq (tgt := 22) hx hb ⟨(by omega), (by omega)⟩ ⟨(by omega), (by omega)⟩ dX4_hasMoreThanNoughts_17 (by decide) (fun c_6 => ?_) (fun c_6 => ?_)
        · refine lv_iinc (v := iv (k + 1)) (lv' := [(3, .int (iv (k + 1))), (0, .ref (G.2.2.1 + 189)), (1, .int (iv f)), (2, .int (iv b))]) hx hb dX4_hasMoreThanNoughts_22 hl (k := 0) rfl ((Int32.ofInt_add _ _).symm) (by decide) rfl (fun ls hl => ?_)
          refine lv_goto (tgt := 2) hx hb dX4_hasMoreThanNoughts_25 (by decide) ?_
          exact ih_2 (k + 1) _ _ _ (by omega) (by omega) (fun i a c => by by_cases q : i = k; (rw [q]; have e := xu_3.1; omega); exact hz i a (by omega)) hW hL (lv_sub hl [0, 1, 2, 3] rfl)
        · refine lv_iconst (v := iv 1) hx hb dX4_hasMoreThanNoughts_20 (by decide) ?_
          exact sZret Cx hr hlk hW hL (by omega) ⟨rfl, ⟨(by omega), (by omega), (show _ ↔ _ from ⟨fun _ => ⟨k, by omega, by omega, by have e := xu_3.1; omega⟩, fun _ => rfl⟩)⟩⟩ dX4_hasMoreThanNoughts_21
  exact loop_2 (_ + 1) f _ _ _ (Nat.lt_succ_self _) (by omega) (fun i a c => absurd c (by omega)) hW hL (lv_sub hl [0, 1, 2, 3] rfl)

set_option maxRecDepth 100000 in
set_option maxHeartbeats 4000000 in
theorem b_X4_pass (l : Launch) (G : sG) (S : sS) {kd : Int} {T : Int} {kp vp : Int → Int} (hI : cX G S 0 0 0) (hkd : 2 ≤ kd ∧ kd ≤ 15 ∧ kd ≠ 6) (hrt : RT G S) (hPS : PS S) (hPT : Hd (PT S T kp vp)) (hKS : Hd (KS T kp)) (hta : S.1 189 3 < T ∧ T ≤ 30001) : Met l yX4_pass (.code yX4_pass cX4_pass 2 (some .boolean) :: tb) (rmk 2 0 0) (sPc G 294 S [.ref (G.2.2.1 + 189), .int (iv kd)]) (sQi G 294 (fun r u => cX G u 0 0 0 ∧ Fr S u (p1 189) ∧ ((0 ≤ r ∧ r ≤ 1) ∧ PR S u ∧ Hd (r = 1 → kp (S.1 189 3) = kd ∧ u.1 189 3 = S.1 189 3 + 1 ∧ S.1 189 3 + 1 < T) ∧ Hd (r = 0 → ¬ (kp (S.1 189 3) = kd) ∧ u.1 189 3 = S.1 189 3)))) 0 0 (sF G) := by
  refine sEnter (by decide) (Nat.le_of_ble_eq_true rfl) ?_
  intro p e s m args below meth c Cx hr hlk hnm hW ls hl
  have Cx : sC G p m c cX4_pass 2 s args RX4 := Cx
  obtain ⟨hx, hb, hml, hown, hts⟩ := id Cx.1
  have hL : sL G [] := sL_nil
  have hl : lv_has ls 2 [(0, .ref (G.2.2.1 + 189)), (1, .int (iv kd))] := hl
  have hW0 := hW
  have pr_0 : PR S S := PR.rf hPS
  have hat0 : 0 ≤ S.1 189 3 ∧ S.1 189 3 ≤ 1000000000 := hI.fi 189 3 4 (by decide) rfl
  refine lv_aload_n hx hb dX4_pass_0 rfl (lv_at hl 0 rfl) ?_
  have q_1 : 0 ≤ S.1 189 3 ∧ S.1 189 3 ≤ 1000000000 := hI.fi 189 3 4 (by decide) rfl
  have q_2 : 0 ≤ S.1 189 2 ∧ S.1 189 2 ≤ 30001 := hI.fi 189 2 4 (by decide) rfl
  refine sBi (sV (As := []) (rest := []) (k := 189) Cx (s_X4_kind l G S  hI) (c_X4_119 Cx rfl rfl (rmk_ok (by omega) (by decide))) hW (by decide) rfl rfl rfl hl.1 rfl (Nat.le_of_ble_eq_true rfl) dX4_pass_1 ⟨Nat.le_of_ble_eq_true rfl, Nat.le_of_ble_eq_true rfl⟩) hL (fun r_5 u_3 H locs k_4 hW hL => ?_)
  obtain ⟨eu_3, xu_3⟩ := k_4
  rw [eu_3] at hW
  have kk_6 : r_5 = kp (S.1 189 3) := PT.k (PT.pr hPT pr_0 (((Fr.rf : Fr S S (p1 189)) 1 rfl).1 1)) (by have q : 0 ≤ S.1 189 3 ∧ S.1 189 3 ≤ 1000000000 := hI.fi 189 3 4 (by decide) rfl; exact q.1) (by omega) xu_3.2.1 xu_3.2.2
  refine lv_iload_n hx hb dX4_pass_4 rfl (lv_at hl 1 rfl) ?_
  refine r_icmp_eq (tgt := 10) hx hb ⟨(by omega), (by omega)⟩ ⟨(by omega), (by omega)⟩ dX4_pass_5 (by decide) (fun c_7 => ?_) (fun c_7 => ?_)
  · refine lv_aload_n hx hb dX4_pass_10 rfl (lv_at hl 0 rfl) ?_
    refine lv_dup hx hb dX4_pass_11 rfl ?_
    refine g_X4_40 Cx hW (k := 189) (by decide) rfl (v := S.1 189 3) rfl dX4_pass_12 ?_
    refine lv_iconst (v := iv 1) hx hb dX4_pass_15 (by decide) ?_
    refine r_iadd hx hb dX4_pass_16 ?_
    refine p_X4_40 Cx hW hL (k := 189) (by decide) rfl dX4_pass_17 (fun H locs hW hL => ?_)
    have kg_u_3 := xu_3.2.1 (by omega)
    have kf_u_3 := xu_3.2.1 (by omega)
    have F_8 : Fr S (uF S 189 3 ((S.1 189 3) + 1)) (p1 189) := (Fr.rf : Fr S S (p1 189)).F rfl
    have i_9 : cX G (uF S 189 3 ((S.1 189 3) + 1)) 0 0 0 := hI.F rfl rfl (show 0 ≤ (S.1 189 3) + 1 ∧ (S.1 189 3) + 1 ≤ 1000000000 from ⟨by omega, by omega⟩)
    have pr_10 : PR S (uF S 189 3 ((S.1 189 3) + 1)) := PR.step pr_0 (by omega) kf_u_3.1 (by rw [kf_u_3.2]; omega)
    refine lv_iconst (v := iv 1) hx hb dX4_pass_20 (by decide) ?_
    have lk_11 : (uF S 189 3 ((S.1 189 3) + 1)).1 189 3 = (S.1 189 3) + 1 := uF_on
    exact sZret Cx hr hlk hW hL (by omega) ⟨i_9, F_8, ⟨(by omega), pr_10, (fun _ => ⟨by omega, by omega, (hKS (S.1 189 3) (by omega) (by omega)).2⟩), (fun q => absurd q (by omega))⟩⟩ dX4_pass_21
  · refine lv_iconst (v := iv 0) hx hb dX4_pass_8 (by decide) ?_
    exact sZret Cx hr hlk hW hL (by omega) ⟨hI, (Fr.rf : Fr S S (p1 189)), ⟨(by omega), pr_0, (fun q => absurd q (by omega)), (fun _ => ⟨by omega, rfl⟩)⟩⟩ dX4_pass_9

set_option maxRecDepth 100000 in
set_option maxHeartbeats 4000000 in
theorem b_X4_passAbove (l : Launch) (G : sG) (S : sS) {T : Int} {kp vp : Int → Int} (hI : cX G S 0 0 0) (hrt : RT G S) (hPS : PS S) (hPT : Hd (PT S T kp vp)) (hKS : Hd (KS T kp)) (hta : S.1 189 3 < T ∧ T ≤ 30001) : Met l yX4_passAbove (.code yX4_passAbove cX4_passAbove 3 (some .boolean) :: tb) (rmk 3 0 0) (sPc G 294 S [.ref (G.2.2.1 + 189)]) (sQi G 294 (fun r u => cX G u 0 0 0 ∧ Fr S u (p1 189) ∧ ((0 ≤ r ∧ r ≤ 1) ∧ PR S u ∧ Hd (r = 1 → gAb kp vp (S.1 189 3) ∧ u.1 189 3 = S.1 189 3 + 1 ∧ S.1 189 3 + 1 < T) ∧ Hd (r = 0 → ¬ (gAb kp vp (S.1 189 3)) ∧ u.1 189 3 = S.1 189 3)))) 0 0 (sF G) := by
  refine sEnter (by decide) (Nat.le_of_ble_eq_true rfl) ?_
  intro p e s m args below meth c Cx hr hlk hnm hW ls hl
  have Cx : sC G p m c cX4_passAbove 3 s args RX4 := Cx
  obtain ⟨hx, hb, hml, hown, hts⟩ := id Cx.1
  have hL : sL G [] := sL_nil
  have hl : lv_has ls 3 [(0, .ref (G.2.2.1 + 189))] := hl
  have hW0 := hW
  have pr_0 : PR S S := PR.rf hPS
  have hl1 : 0 ≤ S.1 1 1 ∧ S.1 1 1 ≤ 30000 := hI.fi 1 1 10 (by decide) rfl
  have hat0 : 0 ≤ S.1 189 3 ∧ S.1 189 3 ≤ 1000000000 := hI.fi 189 3 4 (by decide) rfl
  refine lv_aload_n hx hb dX4_passAbove_0 rfl (lv_at hl 0 rfl) ?_
  have q_1 : 0 ≤ S.1 189 3 ∧ S.1 189 3 ≤ 1000000000 := hI.fi 189 3 4 (by decide) rfl
  have q_2 : 0 ≤ S.1 189 2 ∧ S.1 189 2 ≤ 30001 := hI.fi 189 2 4 (by decide) rfl
  refine sBi (sV (As := []) (rest := []) (k := 189) Cx (s_X4_kind l G S  hI) (c_X4_119 Cx rfl rfl (rmk_ok (by omega) (by decide))) hW (by decide) rfl rfl rfl hl.1 rfl (Nat.le_of_ble_eq_true rfl) dX4_passAbove_1 ⟨Nat.le_of_ble_eq_true rfl, Nat.le_of_ble_eq_true rfl⟩) hL (fun r_5 u_3 H locs k_4 hW hL => ?_)
  obtain ⟨eu_3, xu_3⟩ := k_4
  rw [eu_3] at hW
  have kk_6 : r_5 = kp (S.1 189 3) := PT.k (PT.pr hPT pr_0 (((Fr.rf : Fr S S (p1 189)) 1 rfl).1 1)) (by have q : 0 ≤ S.1 189 3 ∧ S.1 189 3 ≤ 1000000000 := hI.fi 189 3 4 (by decide) rfl; exact q.1) (by omega) xu_3.2.1 xu_3.2.2
  refine lv_iconst (v := iv 2) hx hb dX4_passAbove_4 (by decide) ?_
  refine r_icmp_eq (tgt := 10) hx hb ⟨(by omega), (by omega)⟩ ⟨(by omega), (by omega)⟩ dX4_passAbove_5 (by decide) (fun c_7 => ?_) (fun c_7 => ?_)
  · refine lv_aload_n hx hb dX4_passAbove_10 rfl (lv_at hl 0 rfl) ?_
    refine sBi (sV (As := []) (rest := []) (k := 189) Cx (s_X4_start l G S  hI) (c_X4_106 Cx rfl rfl (rmk_ok (by omega) (by decide))) hW (by decide) rfl rfl rfl hl.1 rfl (Nat.le_of_ble_eq_true rfl) dX4_passAbove_11 ⟨Nat.le_of_ble_eq_true rfl, Nat.le_of_ble_eq_true rfl⟩) hL (fun r_10 u_8 H locs k_9 hW hL => ?_)
    obtain ⟨eu_8, xu_8⟩ := k_9
    rw [eu_8] at hW
    have hnv : NVc S r_10 (vp (S.1 189 3)) := by have hT := hPT.1; rw [xu_8.2.1 (by omega)]; exact (hPT.2 _ hat0.1 hta.1).2 (by omega)
    refine lv_istore_n (lv' := [(1, .int (iv r_10)), (0, .ref (G.2.2.1 + 189))]) hx hb dX4_passAbove_14 rfl hl (by decide) rfl (fun ls hl => ?_)
    refine lv_aload_n hx hb dX4_passAbove_15 rfl (lv_at hl 1 rfl) ?_
    refine lv_iload_n hx hb dX4_passAbove_16 rfl (lv_at hl 0 rfl) ?_
    refine lv_aload_n hx hb dX4_passAbove_17 rfl (lv_at hl 1 rfl) ?_
    refine g_X4_14 Cx hW (k := 189) (by decide) rfl (v := .ref (G.2.2.1 + 1)) hrt dX4_passAbove_18 ?_
    have q_11 : 0 ≤ S.1 1 1 ∧ S.1 1 1 ≤ 30000 := hI.fi 1 1 10 (by decide) rfl
    refine sBi (sV (As := []) (rest := [.int (iv r_10), .ref (G.2.2.1 + 189)]) (k := 1) Cx (s_X10_length l G S (o := 1) (N := 30000) hI ⟨by decide, rfl, rfl, rfl, rfl, by decide⟩) (c_X4_28 Cx rfl rfl (rmk_ok (by omega) (by decide))) hW (by decide) rfl rfl rfl hl.1 rfl (Nat.le_of_ble_eq_true rfl) dX4_passAbove_21 ⟨Nat.le_of_ble_eq_true rfl, Nat.le_of_ble_eq_true rfl⟩) hL (fun r_14 u_12 H locs k_13 hW hL => ?_)
    obtain ⟨eu_12, xu_12⟩ := k_13
    rw [eu_12] at hW
    refine sBi (sV (As := [.int (iv r_10), .int (iv r_14)]) (rest := []) (k := 189) Cx (s_X4_behindDigits l G S (f := r_10) (ln := r_14) hI (by omega) (by omega) (rt_pr pr_0 hrt)) (c_X4_94 Cx rfl rfl (rmk_ok (by omega) (by decide))) hW (by decide) rfl rfl rfl hl.1 rfl (Nat.le_of_ble_eq_true rfl) dX4_passAbove_24 ⟨Nat.le_of_ble_eq_true rfl, Nat.le_of_ble_eq_true rfl⟩) hL (fun r_17 u_15 H locs k_16 hW hL => ?_)
    obtain ⟨eu_15, xu_15⟩ := k_16
    rw [eu_15] at hW
    refine lv_istore_n (lv' := [(2, .int (iv r_17)), (1, .int (iv r_10)), (0, .ref (G.2.2.1 + 189))]) hx hb dX4_passAbove_27 rfl hl (by decide) rfl (fun ls hl => ?_)
    refine lv_aload_n hx hb dX4_passAbove_28 rfl (lv_at hl 2 rfl) ?_
    refine lv_iload_n hx hb dX4_passAbove_29 rfl (lv_at hl 1 rfl) ?_
    refine lv_iload_n hx hb dX4_passAbove_30 rfl (lv_at hl 0 rfl) ?_
    refine sBi (sV (As := [.int (iv r_10), .int (iv r_17)]) (rest := []) (k := 189) Cx (b_X4_hasMoreThanNoughts l G S (f := r_10) (b := r_17) hI (by omega) (by omega) (rt_pr pr_0 hrt)) (c_X4_97 Cx rfl rfl (rmk_ok (by omega) (by decide))) hW (by decide) rfl rfl rfl hl.1 rfl (Nat.le_of_ble_eq_true rfl) dX4_passAbove_31 ⟨Nat.le_of_ble_eq_true rfl, Nat.le_of_ble_eq_true rfl⟩) hL (fun r_20 u_18 H locs k_19 hW hL => ?_)
    obtain ⟨eu_18, xu_18⟩ := k_19
    rw [eu_18] at hW
    have hab : r_20 = 1 ↔ 0 < vp (S.1 189 3) := (show _ ↔ _ from xu_18.2.2).trans (hnv.ab (by omega) xu_15.2.1 xu_15.2.2)
    have habm := hab.mp; have habr := hab.mpr
    refine r_if_ne (tgt := 39) hx hb ⟨(by omega), (by omega)⟩ dX4_passAbove_34 (by decide) (fun c_21 => ?_) (fun c_21 => ?_)
    · refine lv_aload_n hx hb dX4_passAbove_39 rfl (lv_at hl 2 rfl) ?_
      refine lv_dup hx hb dX4_passAbove_40 rfl ?_
      refine g_X4_40 Cx hW (k := 189) (by decide) rfl (v := S.1 189 3) rfl dX4_passAbove_41 ?_
      refine lv_iconst (v := iv 1) hx hb dX4_passAbove_44 (by decide) ?_
      refine r_iadd hx hb dX4_passAbove_45 ?_
      refine p_X4_40 Cx hW hL (k := 189) (by decide) rfl dX4_passAbove_46 (fun H locs hW hL => ?_)
      have kg_u_3 := xu_3.2.1 (by omega)
      have kf_u_3 := xu_3.2.1 (by omega)
      have F_22 : Fr S (uF S 189 3 ((S.1 189 3) + 1)) (p1 189) := (Fr.rf : Fr S S (p1 189)).F rfl
      have i_23 : cX G (uF S 189 3 ((S.1 189 3) + 1)) 0 0 0 := hI.F rfl rfl (show 0 ≤ (S.1 189 3) + 1 ∧ (S.1 189 3) + 1 ≤ 1000000000 from ⟨by omega, by omega⟩)
      have pr_24 : PR S (uF S 189 3 ((S.1 189 3) + 1)) := PR.step pr_0 (by omega) kf_u_3.1 (by rw [kf_u_3.2]; omega)
      refine lv_iconst (v := iv 1) hx hb dX4_passAbove_49 (by decide) ?_
      have lk_25 : (uF S 189 3 ((S.1 189 3) + 1)).1 189 3 = (S.1 189 3) + 1 := uF_on
      exact sZret Cx hr hlk hW hL (by omega) ⟨i_23, F_22, ⟨(by omega), pr_24, (fun _ => ⟨⟨by omega, hab.mp (by omega)⟩, by omega, (hKS (S.1 189 3) (by omega) (by omega)).2⟩), (fun q => absurd q (by omega))⟩⟩ dX4_passAbove_50
    · refine lv_iconst (v := iv 0) hx hb dX4_passAbove_37 (by decide) ?_
      exact sZret Cx hr hlk hW hL (by omega) ⟨hI, (Fr.rf : Fr S S (p1 189)), ⟨(by omega), pr_0, (fun q => absurd q (by omega)), (fun _ => ⟨fun q => by have q1 := q.1; have q2 := q.2; first | (exfalso; omega) | (have := hab.mpr q2; exfalso; omega), rfl⟩)⟩⟩ dX4_passAbove_38
  · refine lv_iconst (v := iv 0) hx hb dX4_passAbove_8 (by decide) ?_
    exact sZret Cx hr hlk hW hL (by omega) ⟨hI, (Fr.rf : Fr S S (p1 189)), ⟨(by omega), pr_0, (fun q => absurd q (by omega)), (fun _ => ⟨fun q => by have q1 := q.1; have q2 := q.2; first | (exfalso; omega) | (have := hab.mpr q2; exfalso; omega), rfl⟩)⟩⟩ dX4_passAbove_9
