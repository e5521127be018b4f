/-! The class's numbers by their values -/
def msk (f : Int → Int) (c : Int) : Int → Int := fun j => if j < c then f j else 0
theorem V_msk {f : Int → Int} {c n : Int} (h0 : 0 ≤ c) (h : c ≤ n) : V (msk f c) 0 n.toNat = V f 0 c.toNat := by
  rw [VR_trim (f := msk f c) h0 h (fun j a b => if_neg (by omega))]
  exact V_cg (fun i a b => if_pos (by omega))
theorem msub1 {a b c d x y l k P : Int} (h1 : a - c * P = b - d) (h2 : l - k * 1000000000 = x - y - c) : a + l * P - k * (1000000000 * P) = b + x * P - (d + y * P) := by
  grind
/-- the value of a register; its sign is 0 where it has no limb -/
def bv (S : sS) (o : Nat) : Int := S.1 o 2 * VR S o
def bs (S : sS) (o : Nat) : Prop := (S.1 o 2 ≠ 0 → 0 < S.1 o 1) ∧ (S.1 o 2 = 0 → S.1 o 1 = 0)
theorem VR_p {G : sG} {S : sS} {y : Nat} {b : Int} {o : Nat} (hI : cX G S 0 y b) (ho : tau o = .inl 0) (h : 0 < S.1 o 1) : 0 < VR S o := by
  have e := VR_ge hI ho h
  have p := pw_pos (S.1 o 1 - 1).toNat
  omega
theorem cmp_e2 {S : sS} {o a : Nat} (hc : S.1 o 1 = S.1 a 1) (he : ∀ j, -1 < j → j < S.1 o 1 → S.2.1 (o + 1) j = S.2.1 (a + 1) j) : VR S o = VR S a := by
  unfold VR
  rw [← hc]
  exact V_cg (fun i a b => by rw [show (0 : Int) + i = i by omega]; exact he i (by omega) (by omega))
/-- a comparison by signs, then by sizes -/
theorem bv_cmp {s t A B : Int} (hs : -1 ≤ s ∧ s ≤ 1) (ht : -1 ≤ t ∧ t ≤ 1) (hA : s ≠ 0 → 0 < A) (hB : t ≠ 0 → 0 < B) : (s < t → s * A < t * B) ∧ (t < s → t * B < s * A) := by
  rcases (by omega : s = -1 ∨ s = 0 ∨ s = 1) with q | q | q <;> rcases (by omega : t = -1 ∨ t = 0 ∨ t = 1) with z | z | z <;> subst q <;> subst z <;> constructor <;> intro h <;> omega
theorem bv_cm2 {s A B z : Int} (hs : -1 ≤ s ∧ s ≤ 1) (h0 : z = 0 → A = B) (h1 : z < 0 → A < B) (h2 : 0 < z → B < A) : (s * z < 0 → s * A < s * B) ∧ (s * z = 0 → s * A = s * B) ∧ (0 < s * z → s * B < s * A) := by
  rcases (by omega : s = -1 ∨ s = 0 ∨ s = 1) with q | q | q <;> subst q <;> refine ⟨fun h => ?_, fun h => ?_, fun h => ?_⟩ <;> omega
set_option maxRecDepth 100000 in
set_option maxHeartbeats 4000000 in
theorem b_X0_compareSize (l : Launch) (G : sG) (S : sS) {o a : Nat} (hI : cX G S 0 0 0) (ho : tau o = .inl 0) (ha : tau a = .inl 0) : Met l yX0_compareSize (.code yX0_compareSize cX0_compareSize 3 (some .int) :: tb) (rmk 2 0 0) (sPc G 294 S [.ref (G.2.2.1 + o), .ref (G.2.2.1 + a)]) (sQi G 294 (fun r u => u = S ∧ (-1 ≤ r ∧ r ≤ 1 ∧ (0 ≤ r → S.1 a 1 ≤ S.1 o 1) ∧ (r < 0 → S.1 o 1 ≤ S.1 a 1) ∧ Hd (0 ≤ r → VR S a ≤ VR S o) ∧ Hd (r < 0 → VR S o < VR S a) ∧ Hd (r = 0 → VR S o = VR S a) ∧ Hd (0 < r → VR S a < VR S o)))) 0 0 (sF G) := by
  refine sEnter (by decide) (Nat.le_of_ble_eq_true rfl) ?_
  intro p e s m args below meth c Cx hr hlk hnm hW ls hl
  have Cx : sC G p m c cX0_compareSize 3 s args RX0 := Cx
  obtain ⟨hx, hb, hml, hown, hts⟩ := id Cx.1
  have hL : sL G [] := sL_nil
  have hl : lv_has ls 3 [(0, .ref (G.2.2.1 + o)), (1, .ref (G.2.2.1 + a))] := hl
  have hW0 := hW
  refine lv_aload_n hx hb dX0_compareSize_0 rfl (lv_at hl 0 rfl) ?_
  have q_1 : 0 ≤ S.1 o 1 ∧ S.1 o 1 ≤ 32 := hI.fi o 1 0 (big_lt ho) ho
  refine g_X0_24 Cx hW (k := o) (big_l ho) ho (v := S.1 o 1) rfl dX0_compareSize_1 ?_
  refine lv_aload_n hx hb dX0_compareSize_4 rfl (lv_at hl 1 rfl) ?_
  have q_2 : 0 ≤ S.1 a 1 ∧ S.1 a 1 ≤ 32 := hI.fi a 1 0 (big_lt ha) ha
  refine g_X0_24 Cx hW (k := a) (big_l ha) ha (v := S.1 a 1) rfl dX0_compareSize_5 ?_
  refine r_icmp_eq (tgt := 23) hx hb ⟨(by omega), (by omega)⟩ ⟨(by omega), (by omega)⟩ dX0_compareSize_8 (by decide) (fun c_3 => ?_) (fun c_3 => ?_)
  · refine lv_aload_n hx hb dX0_compareSize_23 rfl (lv_at hl 0 rfl) ?_
    refine g_X0_24 Cx hW (k := o) (big_l ho) ho (v := S.1 o 1) rfl dX0_compareSize_24 ?_
    refine lv_iconst (v := iv 1) hx hb dX0_compareSize_27 (by decide) ?_
    refine r_isub hx hb dX0_compareSize_28 ?_
    refine lv_istore_n (lv' := [(2, .int (iv ((S.1 o 1) - 1))), (0, .ref (G.2.2.1 + o)), (1, .ref (G.2.2.1 + a))]) hx hb dX0_compareSize_29 rfl hl (by decide) rfl (fun ls hl => ?_)
    have loop_30 : ∀ (fuel : Nat) (i : Int) (H : Heap) (locs : List Loc) (ls : Array Slot), (i + 1).toNat < fuel → (-1 ≤ i ∧ i < S.1 o 1) → (∀ j, i < j → j < S.1 o 1 → S.2.1 (o + 1) j = S.2.1 (a + 1) j) → sW G 294 S H → sL G locs → lv_has ls 3 [(2, .int (iv i)), (0, .ref (G.2.2.1 + o)), (1, .ref (G.2.2.1 + a))] → W p l e (rmk 2 0 0) s m args below meth c H locs 0 0 (MQ below (sQi G 294 (fun r u => u = S ∧ (-1 ≤ r ∧ r ≤ 1 ∧ (0 ≤ r → S.1 a 1 ≤ S.1 o 1) ∧ (r < 0 → S.1 o 1 ≤ S.1 a 1) ∧ Hd (0 ≤ r → VR S a ≤ VR S o) ∧ Hd (r < 0 → VR S o < VR S a) ∧ Hd (r = 0 → VR S o = VR S a) ∧ Hd (0 < r → VR S a < VR S o)))) args s 0 0 (sF G)) (F0 m 30 ls []) := by
      intro fuel
      induction fuel with
      | zero => intro i H locs ls hmeas hi heq hW hL hl; exact absurd hmeas (Nat.not_lt_zero _)
      | succ fuel ih_30 =>
        intro i H locs ls hmeas hi heq hW hL hl
        refine lv_iload_n hx hb dX0_compareSize_30 rfl (lv_at hl 0 rfl) ?_
        refine r_if_lt (tgt := 71) hx hb ⟨(by omega), (by omega)⟩ dX0_compareSize_31 (by decide) (fun c_4 => ?_) (fun c_4 => ?_)
        · refine lv_iconst (v := iv 0) hx hb dX0_compareSize_71 (by decide) ?_
          exact sIret Cx hr hlk hW hL ⟨rfl, ⟨by omega, by omega, by omega, by omega, fun q => by first | exact Int.le_of_lt (cmp_cnt hI ho ha (by omega) (by omega)) | exact Int.le_of_lt (cmp_limb hI ho ha (by omega) (by omega) (by omega) heq (by omega)) | exact cmp_eq (by omega) (fun j j0 j1 => heq j (by omega) j1), fun q => by first | (exfalso; omega) | exact cmp_cnt hI ha ho (by omega) (by omega) | exact cmp_limb hI ha ho (by omega) (by omega) (by omega) (fun j j0 j1 => (heq j j0 (by omega)).symm) (by omega), (fun q => by first | (exfalso; omega) | exact cmp_e2 (by omega) (fun j j0 j1 => heq j (by omega) j1)), (fun q => by first | (exfalso; omega) | exact cmp_cnt hI ho ha (by omega) (by omega) | exact cmp_limb hI ho ha (by omega) (by omega) (by omega) heq (by omega))⟩⟩ dX0_compareSize_72
        · refine lv_aload_n hx hb dX0_compareSize_34 rfl (lv_at hl 1 rfl) ?_
          refine g_X0_9 Cx hW (k := o) (big_l ho) ho (v := .ref (G.2.2.1 + (o + 1))) (hI.rq.1 o ho) dX0_compareSize_35 ?_
          refine lv_iload_n hx hb dX0_compareSize_38 rfl (lv_at hl 0 rfl) ?_
          refine rIald Cx hW (k := o + 1) (big_l1 ho) (big_row ho).1 (by decide) (by omega) (by omega) dX0_compareSize_39 ?_
          have q_5 := limbR hI ho i
          refine r_i (b := S.2.1 (o + 1) i) rfl ?_
          refine lv_aload_n hx hb dX0_compareSize_40 rfl (lv_at hl 2 rfl) ?_
          refine g_X0_9 Cx hW (k := a) (big_l ha) ha (v := .ref (G.2.2.1 + (a + 1))) (hI.rq.1 a ha) dX0_compareSize_41 ?_
          refine lv_iload_n hx hb dX0_compareSize_44 rfl (lv_at hl 0 rfl) ?_
          refine rIald Cx hW (k := a + 1) (big_l1 ha) (big_row ha).1 (by decide) (by omega) (by omega) dX0_compareSize_45 ?_
          have q_6 := limbR hI ha i
          refine r_i (b := S.2.1 (a + 1) i) rfl ?_
          refine r_icmp_eq (tgt := 65) hx hb ⟨(by omega), (by omega)⟩ ⟨(by omega), (by omega)⟩ dX0_compareSize_46 (by decide) (fun c_7 => ?_) (fun c_7 => ?_)
          · refine lv_iinc (v := iv (i + (-1))) (lv' := [(2, .int (iv (i + (-1)))), (0, .ref (G.2.2.1 + o)), (1, .ref (G.2.2.1 + a))]) hx hb dX0_compareSize_65 hl (k := 0) rfl ((Int32.ofInt_add _ _).symm) (by decide) rfl (fun ls hl => ?_)
            refine lv_goto (tgt := 30) hx hb dX0_compareSize_68 (by decide) ?_
            exact ih_30 (i + (-1)) _ _ _ (by omega) (by omega) (fun j j0 j1 => by rcases (by omega : j = i ∨ i < j) with q | q; rw [q]; assumption; exact heq j q j1) hW hL (lv_sub hl [0, 1, 2] rfl)
          · refine lv_aload_n hx hb dX0_compareSize_49 rfl (lv_at hl 1 rfl) ?_
            refine g_X0_9 Cx hW (k := o) (big_l ho) ho (v := .ref (G.2.2.1 + (o + 1))) (hI.rq.1 o ho) dX0_compareSize_50 ?_
            refine lv_iload_n hx hb dX0_compareSize_53 rfl (lv_at hl 0 rfl) ?_
            refine rIald Cx hW (k := o + 1) (big_l1 ho) (big_row ho).1 (by decide) (by omega) (by omega) dX0_compareSize_54 ?_
            refine r_i (b := S.2.1 (o + 1) i) rfl ?_
            refine lv_aload_n hx hb dX0_compareSize_55 rfl (lv_at hl 2 rfl) ?_
            refine g_X0_9 Cx hW (k := a) (big_l ha) ha (v := .ref (G.2.2.1 + (a + 1))) (hI.rq.1 a ha) dX0_compareSize_56 ?_
            refine lv_iload_n hx hb dX0_compareSize_59 rfl (lv_at hl 0 rfl) ?_
            refine rIald Cx hW (k := a + 1) (big_l1 ha) (big_row ha).1 (by decide) (by omega) (by omega) dX0_compareSize_60 ?_
            refine r_i (b := S.2.1 (a + 1) i) rfl ?_
            refine sBi (sSt (As := [.int (iv (S.2.1 (o + 1) i)), .int (iv (S.2.1 (a + 1) i))]) (rest := []) Cx (t_J6_compare_7cf53 l G S (a := S.2.1 (o + 1) i) (b := S.2.1 (a + 1) i) (by omega) (by omega)) (c_X0_88 Cx rfl rfl (rmk_ok (by omega) (by decide))) hW rfl hl.1 rfl (Nat.le_of_ble_eq_true rfl) dX0_compareSize_61 ⟨Nat.le_of_ble_eq_true rfl, Nat.le_of_ble_eq_true rfl⟩) hL (fun r_10 u_8 H locs k_9 hW hL => ?_)
            obtain ⟨eu_8, xu_8⟩ := k_9
            rw [eu_8] at hW
            exact sIret Cx hr hlk hW hL ⟨rfl, ⟨by omega, by omega, by omega, by omega, fun q => by first | exact Int.le_of_lt (cmp_cnt hI ho ha (by omega) (by omega)) | exact Int.le_of_lt (cmp_limb hI ho ha (by omega) (by omega) (by omega) heq (by omega)) | exact cmp_eq (by omega) (fun j j0 j1 => heq j (by omega) j1), fun q => by first | (exfalso; omega) | exact cmp_cnt hI ha ho (by omega) (by omega) | exact cmp_limb hI ha ho (by omega) (by omega) (by omega) (fun j j0 j1 => (heq j j0 (by omega)).symm) (by omega), (fun q => by first | (exfalso; omega) | exact cmp_e2 (by omega) (fun j j0 j1 => heq j (by omega) j1)), (fun q => by first | (exfalso; omega) | exact cmp_cnt hI ho ha (by omega) (by omega) | exact cmp_limb hI ho ha (by omega) (by omega) (by omega) heq (by omega))⟩⟩ dX0_compareSize_64
    exact loop_30 (_ + 1) ((S.1 o 1) - 1) _ _ _ (Nat.lt_succ_self _) (by omega) (fun j j0 j1 => absurd j1 (by omega)) hW hL (lv_sub hl [0, 1, 2] rfl)
  · refine lv_aload_n hx hb dX0_compareSize_11 rfl (lv_at hl 0 rfl) ?_
    refine g_X0_24 Cx hW (k := o) (big_l ho) ho (v := S.1 o 1) rfl dX0_compareSize_12 ?_
    refine lv_aload_n hx hb dX0_compareSize_15 rfl (lv_at hl 1 rfl) ?_
    refine g_X0_24 Cx hW (k := a) (big_l ha) ha (v := S.1 a 1) rfl dX0_compareSize_16 ?_
    refine sBi (sSt (As := [.int (iv (S.1 o 1)), .int (iv (S.1 a 1))]) (rest := []) Cx (t_J6_compare_7cf53 l G S (a := S.1 o 1) (b := S.1 a 1) (by omega) (by omega)) (c_X0_88 Cx rfl rfl (rmk_ok (by omega) (by decide))) hW rfl hl.1 rfl (Nat.le_of_ble_eq_true rfl) dX0_compareSize_19 ⟨Nat.le_of_ble_eq_true rfl, Nat.le_of_ble_eq_true rfl⟩) hL (fun r_13 u_11 H locs k_12 hW hL => ?_)
    obtain ⟨eu_11, xu_11⟩ := k_12
    rw [eu_11] at hW
    exact sIret Cx hr hlk hW hL ⟨rfl, ⟨by omega, by omega, by omega, by omega, fun q => by first | exact Int.le_of_lt (cmp_cnt hI ho ha (by omega) (by omega)) | exact Int.le_of_lt (cmp_limb hI ho ha (by omega) (by omega) (by omega) heq (by omega)) | exact cmp_eq (by omega) (fun j j0 j1 => heq j (by omega) j1), fun q => by first | (exfalso; omega) | exact cmp_cnt hI ha ho (by omega) (by omega) | exact cmp_limb hI ha ho (by omega) (by omega) (by omega) (fun j j0 j1 => (heq j j0 (by omega)).symm) (by omega), (fun q => by first | (exfalso; omega) | exact cmp_e2 (by omega) (fun j j0 j1 => heq j (by omega) j1)), (fun q => by first | (exfalso; omega) | exact cmp_cnt hI ho ha (by omega) (by omega) | exact cmp_limb hI ho ha (by omega) (by omega) (by omega) heq (by omega))⟩⟩ dX0_compareSize_22

set_option maxRecDepth 100000 in
set_option maxHeartbeats 4000000 in
theorem b_X0_compareWith (l : Launch) (G : sG) (S : sS) {o a : Nat} (hI : cX G S 0 0 0) (ho : tau o = .inl 0) (ha : tau a = .inl 0) (hbo : Hd (bs S o)) (hba : Hd (bs S a)) : Met l yX0_compareWith (.code yX0_compareWith cX0_compareWith 2 (some .int) :: tb) (rmk 3 0 0) (sPc G 294 S [.ref (G.2.2.1 + o), .ref (G.2.2.1 + a)]) (sQi G 294 (fun r u => u = S ∧ ((-1 ≤ r ∧ r ≤ 1) ∧ Hd ((r < 0 → bv S o < bv S a) ∧ (r = 0 → bv S o = bv S a) ∧ (0 < r → bv S a < bv S o))))) 0 0 (sF G) := by
  refine sEnter (by decide) (Nat.le_of_ble_eq_true rfl) ?_
  intro p e s m args below meth c Cx hr hlk hnm hW ls hl
  have Cx : sC G p m c cX0_compareWith 2 s args RX0 := Cx
  obtain ⟨hx, hb, hml, hown, hts⟩ := id Cx.1
  have hL : sL G [] := sL_nil
  have hl : lv_has ls 2 [(0, .ref (G.2.2.1 + o)), (1, .ref (G.2.2.1 + a))] := hl
  have hW0 := hW
  refine lv_aload_n hx hb dX0_compareWith_0 rfl (lv_at hl 0 rfl) ?_
  have q_1 : (-1) ≤ S.1 o 2 ∧ S.1 o 2 ≤ 1 := hI.fi o 2 0 (big_lt ho) ho
  refine g_X0_34 Cx hW (k := o) (big_l ho) ho (v := S.1 o 2) rfl dX0_compareWith_1 ?_
  refine lv_aload_n hx hb dX0_compareWith_4 rfl (lv_at hl 1 rfl) ?_
  have q_2 : (-1) ≤ S.1 a 2 ∧ S.1 a 2 ≤ 1 := hI.fi a 2 0 (big_lt ha) ha
  refine g_X0_34 Cx hW (k := a) (big_l ha) ha (v := S.1 a 2) rfl dX0_compareWith_5 ?_
  refine r_icmp_eq (tgt := 23) hx hb ⟨(by omega), (by omega)⟩ ⟨(by omega), (by omega)⟩ dX0_compareWith_8 (by decide) (fun c_3 => ?_) (fun c_3 => ?_)
  · refine lv_aload_n hx hb dX0_compareWith_23 rfl (lv_at hl 0 rfl) ?_
    refine g_X0_34 Cx hW (k := o) (big_l ho) ho (v := S.1 o 2) rfl dX0_compareWith_24 ?_
    refine lv_aload_n hx hb dX0_compareWith_27 rfl (lv_at hl 0 rfl) ?_
    refine lv_aload_n hx hb dX0_compareWith_28 rfl (lv_at hl 1 rfl) ?_
    have q_4 : 0 ≤ S.1 a 1 ∧ S.1 a 1 ≤ 32 := hI.fi a 1 0 (big_lt ha) ha
    have q_5 : 0 ≤ S.1 o 1 ∧ S.1 o 1 ≤ 32 := hI.fi o 1 0 (big_lt ho) ho
    refine sBi (sV (As := [.ref (G.2.2.1 + a)]) (rest := [.int (iv (S.1 o 2))]) (k := o) Cx (b_X0_compareSize l G S (o := o) (a := a) hI ho ha) (c_X0_79 Cx rfl rfl (rmk_ok (by omega) (by decide))) hW (big_l ho) ho rfl rfl hl.1 rfl (Nat.le_of_ble_eq_true rfl) dX0_compareWith_29 ⟨Nat.le_of_ble_eq_true rfl, Nat.le_of_ble_eq_true rfl⟩) hL (fun r_8 u_6 H locs k_7 hW hL => ?_)
    obtain ⟨eu_6, xu_6⟩ := k_7
    rw [eu_6] at hW
    refine r_imul hx hb dX0_compareWith_32 ?_
    obtain ⟨zz, ezz⟩ : ∃ z : Int, z = (S.1 o 2) * r_8 := ⟨_, rfl⟩
    refine r_i (b := zz) ezz.symm ?_
    have hzz : -1 ≤ zz ∧ zz ≤ 1 := by rw [ezz]; exact mul_s (by omega) (by omega)
    exact sIret Cx hr hlk hW hL ⟨rfl, ⟨(by omega), (by have so := hI.fi o 2 0 (big_lt ho) ho; have sa := hI.fi a 2 0 (big_lt ha) ha; have e : S.1 o 2 = S.1 a 2 := (by omega); have h := bv_cm2 (s := S.1 o 2) (A := VR S o) (B := VR S a) (z := r_8) ⟨by omega, by omega⟩ xu_6.2.2.2.2.2.2.1 xu_6.2.2.2.2.2.1 xu_6.2.2.2.2.2.2.2; unfold bv; rw [← e, ezz]; exact h)⟩⟩ dX0_compareWith_33
  · refine lv_aload_n hx hb dX0_compareWith_11 rfl (lv_at hl 0 rfl) ?_
    refine g_X0_34 Cx hW (k := o) (big_l ho) ho (v := S.1 o 2) rfl dX0_compareWith_12 ?_
    refine lv_aload_n hx hb dX0_compareWith_15 rfl (lv_at hl 1 rfl) ?_
    refine g_X0_34 Cx hW (k := a) (big_l ha) ha (v := S.1 a 2) rfl dX0_compareWith_16 ?_
    refine sBi (sSt (As := [.int (iv (S.1 o 2)), .int (iv (S.1 a 2))]) (rest := []) Cx (t_J6_compare_7cf53 l G S (a := S.1 o 2) (b := S.1 a 2) (by omega) (by omega)) (c_X0_88 Cx rfl rfl (rmk_ok (by omega) (by decide))) hW rfl hl.1 rfl (Nat.le_of_ble_eq_true rfl) dX0_compareWith_19 ⟨Nat.le_of_ble_eq_true rfl, Nat.le_of_ble_eq_true rfl⟩) hL (fun r_11 u_9 H locs k_10 hW hL => ?_)
    obtain ⟨eu_9, xu_9⟩ := k_10
    rw [eu_9] at hW
    exact sIret Cx hr hlk hW hL ⟨rfl, ⟨(by omega), (by have so := hI.fi o 2 0 (big_lt ho) ho; have sa := hI.fi a 2 0 (big_lt ha) ha; have h := bv_cmp (s := S.1 o 2) (t := S.1 a 2) (A := VR S o) (B := VR S a) ⟨by omega, by omega⟩ ⟨by omega, by omega⟩ (fun z => VR_p hI ho (hbo.1 z)) (fun z => VR_p hI ha (hba.1 z)); exact ⟨fun z => h.1 (by omega), fun z => by exfalso; omega, fun z => h.2 (by omega)⟩)⟩⟩ dX0_compareWith_22

set_option maxRecDepth 100000 in
set_option maxHeartbeats 4000000 in
theorem b_X0_addSize (l : Launch) (G : sG) (S : sS) {o a : Nat} {n t : Int} (hI : cX G S 0 0 0) (ho : tau o = .inl 0) (ha : tau a = .inl 0) (noa : Hd (o ≠ a)) (hnt : (0 ≤ n ∧ n ≤ 30) ∧ (0 ≤ t ∧ t ≤ 999999990) ∧ S.1 a 1 ≤ n ∧ S.1 o 1 ≤ n + 1) (hnt2 : Hd (S.1 o 1 = n + 1 → S.2.1 (o + 1) n ≤ t)) : Met l yX0_addSize (.code yX0_addSize cX0_addSize 6 none :: tb) (rmk 2 0 0) (sPc G 294 S [.ref (G.2.2.1 + o), .ref (G.2.2.1 + a)]) (sQv G 294 (fun u => cX G u 0 0 0 ∧ Fr S u (pB o) ∧ (u.1 o 1 ≤ n + 1 ∧ (u.1 o 1 = n + 1 → u.2.1 (o + 1) n ≤ t + 1) ∧ u.1 o 2 = S.1 o 2 ∧ Hd (VR u o = VR S o + VR S a)))) 0 0 (sF G) := by
  refine sEnter (by decide) (Nat.le_of_ble_eq_true rfl) ?_
  intro p e s m args below meth c Cx hr hlk hnm hW ls hl
  have Cx : sC G p m c cX0_addSize 6 s args RX0 := Cx
  obtain ⟨hx, hb, hml, hown, hts⟩ := id Cx.1
  have hL : sL G [] := sL_nil
  have hl : lv_has ls 6 [(0, .ref (G.2.2.1 + o)), (1, .ref (G.2.2.1 + a))] := hl
  have hW0 := hW
  have hnb := nbH hI ho
  have hna := nbH hI ha
  have j_1 := hI.exB o
  refine lv_aload_n hx hb dX0_addSize_0 rfl (lv_at hl 0 rfl) ?_
  have q_2 : 0 ≤ S.1 o 1 ∧ S.1 o 1 ≤ 32 := j_1.fi o 1 0 (big_lt ho) ho
  refine g_X0_24 Cx hW (k := o) (big_l ho) ho (v := S.1 o 1) rfl dX0_addSize_1 ?_
  refine lv_aload_n hx hb dX0_addSize_4 rfl (lv_at hl 1 rfl) ?_
  have q_3 : 0 ≤ S.1 a 1 ∧ S.1 a 1 ≤ 32 := j_1.fi a 1 0 (big_lt ha) ha
  refine g_X0_24 Cx hW (k := a) (big_l ha) ha (v := S.1 a 1) rfl dX0_addSize_5 ?_
  refine r_max hx hb (hml.trans hl.1.symm) hown (hts _ w_1292) (hts _ w_242) (hts _ w_206) (hts _ w_243) (rmk_f (by omega)) (rmk_l (by omega) (Nat.le_of_ble_eq_true rfl)) (Nat.le_of_ble_eq_true rfl) (Nat.le_of_ble_eq_true rfl) ⟨(by omega), (by omega)⟩ ⟨(by omega), (by omega)⟩ dX0_addSize_8 (fun z_4 hz_4 => ?_)
  refine lv_istore_n (lv' := [(2, .int (iv z_4)), (0, .ref (G.2.2.1 + o)), (1, .ref (G.2.2.1 + a))]) hx hb dX0_addSize_11 rfl hl (by decide) rfl (fun ls hl => ?_)
  refine lv_iconst (v := iv 0) hx hb dX0_addSize_12 (by decide) ?_
  refine lv_istore_n (lv' := [(3, .int (iv 0)), (2, .int (iv z_4)), (0, .ref (G.2.2.1 + o)), (1, .ref (G.2.2.1 + a))]) hx hb dX0_addSize_13 rfl hl (by decide) rfl (fun ls hl => ?_)
  refine lv_iconst (v := iv 0) hx hb dX0_addSize_14 (by decide) ?_
  refine lv_istore (lv' := [(4, .int (iv 0)), (3, .int (iv 0)), (2, .int (iv z_4)), (0, .ref (G.2.2.1 + o)), (1, .ref (G.2.2.1 + a))]) hx hb dX0_addSize_15 hl (by decide) rfl (fun ls hl => ?_)
  have loop_17 : ∀ (fuel : Nat) (S17 : sS) (i : Int) (cy : Int) (H : Heap) (locs : List Loc) (ls : Array Slot), (33 - i).toNat < fuel → (cX G S17 o 0 0) → (Fr S S17 (pB o)) → (Fr S S17 (pB o)) → (0 ≤ cy ∧ cy ≤ 1) → (0 ≤ i ∧ i ≤ S.1 o 1 ∨ 0 ≤ i ∧ i ≤ S.1 a 1) → (S17.1 o 1 = S.1 o 1 ∧ S17.1 o 2 = S.1 o 2) → (∀ j, i ≤ j → S17.2.1 (o + 1) j = S.2.1 (o + 1) j) → (Hd ((i = S.1 o 1 ∧ S.1 a 1 ≤ i ∨ i = S.1 a 1 ∧ S.1 o 1 ≤ i) → (0 < i ∧ cy = 0) → S17.2.1 (o + 1) (i - 1) ≠ 0)) → (Hd ((i = n + 1 ∧ S.1 o 1 = n + 1) → cy = 0 ∧ S17.2.1 (o + 1) n ≤ t + 1)) → (Hd (V (S17.2.1 (o + 1)) 0 i.toNat + cy * pw i.toNat = V (msk (S.2.1 (o + 1)) (S.1 o 1)) 0 i.toNat + V (msk (S.2.1 (a + 1)) (S.1 a 1)) 0 i.toNat)) → sW G 294 S17 H → sL G locs → lv_has ls 6 [(4, .int (iv i)), (3, .int (iv cy)), (2, .int (iv z_4)), (0, .ref (G.2.2.1 + o)), (1, .ref (G.2.2.1 + a))] → W p l e (rmk 2 0 0) s m args below meth c H locs 0 0 (MQ below (sQv G 294 (fun u => cX G u 0 0 0 ∧ Fr S u (pB o) ∧ (u.1 o 1 ≤ n + 1 ∧ (u.1 o 1 = n + 1 → u.2.1 (o + 1) n ≤ t + 1) ∧ u.1 o 2 = S.1 o 2 ∧ Hd (VR u o = VR S o + VR S a)))) args s 0 0 (sF G)) (F0 m 17 ls []) := by
    intro fuel
    induction fuel with
    | zero => intro S17 i cy H locs ls hmeas hI17 hFm17 hL17_ hcy hi hc hun htop hgr hval hW hL hl; exact absurd hmeas (Nat.not_lt_zero _)
    | succ fuel ih_17 =>
      intro S17 i cy H locs ls hmeas hI17 hFm17 hL17_ hcy hi hc hun htop hgr hval hW hL hl
      refine lv_iload hx hb dX0_addSize_17 (lv_at hl 0 rfl) ?_
      refine lv_iload_n hx hb dX0_addSize_19 rfl (lv_at hl 2 rfl) ?_
      refine r_icmp_ge (tgt := 101) hx hb ⟨(by omega), (by omega)⟩ ⟨(by omega), (by omega)⟩ dX0_addSize_20 (by decide) (fun c_5 => ?_) (fun c_5 => ?_)
      · refine lv_iload_n hx hb dX0_addSize_101 rfl (lv_at hl 1 rfl) ?_
        refine r_if_le (tgt := 121) hx hb ⟨(by omega), (by omega)⟩ dX0_addSize_102 (by decide) (fun c_6 => ?_) (fun c_6 => ?_)
        · refine lv_aload_n hx hb dX0_addSize_121 rfl (lv_at hl 3 rfl) ?_
          refine lv_iload_n hx hb dX0_addSize_122 rfl (lv_at hl 2 rfl) ?_
          refine p_X0_24 Cx hW hL (k := o) (big_l ho) ho dX0_addSize_123 (fun H locs hW hL => ?_)
          have F_7 : Fr S (uF S17 o 1 z_4) (pB o) := hFm17.F pB_0
          have F_8 : Fr S (uF S17 o 1 z_4) (pB o) := hL17_.F pB_0
          have i_9 : cX G (uF S17 o 1 z_4) o 0 0 := hI17.cnt (exq_s ho) ho ⟨by omega, by omega⟩
          have j_10 : cX G (uF S17 o 1 z_4) 0 0 0 := i_9.inB ho (by intro q; rw [uF_on] at q ⊢; show S17.2.1 (o + 1) (z_4 - 1) ≠ 0; rw [show z_4 = i by omega]; exact htop (by omega) (by omega))
          have lk_11 : (uF S17 o 1 z_4).1 o 1 = z_4 := uF_on
          have q_12 : (-1) ≤ S17.1 o 2 ∧ S17.1 o 2 ≤ 1 := hI17.fi o 2 0 (big_lt ho) ho
          have lk_13 : (uF S17 o 1 z_4).1 o 2 = S17.1 o 2 := uF_ne (fun h => absurd h.2 (by decide))
          exact sVret Cx hr hlk hW hL ⟨j_10, F_7, ⟨by rw [uF_on]; omega, by rw [uF_on]; intro q; show S17.2.1 (o + 1) n ≤ t + 1; exact (hgr ⟨by omega, by omega⟩).2, by rw [uF_i (by decide)]; exact hc.2, (by unfold VR; rw [uF_on]; show V (S17.2.1 (o + 1)) 0 (z_4).toNat = _; rw [show z_4 = i by omega]; have e : _ = _ := hval; rw [show cy = 0 by omega, Int.zero_mul, V_msk (by omega) (by omega), V_msk (by omega) (by omega)] at e; omega)⟩⟩ dX0_addSize_126
        · refine lv_iload_n hx hb dX0_addSize_105 rfl (lv_at hl 2 rfl) ?_
          refine lv_bipush (v := iv 32) hx hb dX0_addSize_106 (by decide) ?_
          refine r_icmp_ge (tgt := 121) hx hb ⟨(by omega), (by omega)⟩ ⟨(by omega), (by omega)⟩ dX0_addSize_108 (by decide) (fun c_14 => ?_) (fun c_14 => ?_)
          · refine lv_aload_n hx hb dX0_addSize_121 rfl (lv_at hl 3 rfl) ?_
            refine lv_iload_n hx hb dX0_addSize_122 rfl (lv_at hl 2 rfl) ?_
            refine p_X0_24 Cx hW hL (k := o) (big_l ho) ho dX0_addSize_123 (fun H locs hW hL => ?_)
            have F_15 : Fr S (uF S17 o 1 z_4) (pB o) := hFm17.F pB_0
            have F_16 : Fr S (uF S17 o 1 z_4) (pB o) := hL17_.F pB_0
            have i_17 : cX G (uF S17 o 1 z_4) o 0 0 := hI17.cnt (exq_s ho) ho ⟨by omega, by omega⟩
            have j_18 : cX G (uF S17 o 1 z_4) 0 0 0 := i_17.inB ho (by intro q; rw [uF_on] at q ⊢; show S17.2.1 (o + 1) (z_4 - 1) ≠ 0; rw [show z_4 = i by omega]; exact htop (by omega) (by omega))
            have lk_19 : (uF S17 o 1 z_4).1 o 1 = z_4 := uF_on
            have q_20 : (-1) ≤ S17.1 o 2 ∧ S17.1 o 2 ≤ 1 := hI17.fi o 2 0 (big_lt ho) ho
            have lk_21 : (uF S17 o 1 z_4).1 o 2 = S17.1 o 2 := uF_ne (fun h => absurd h.2 (by decide))
            exact sVret Cx hr hlk hW hL ⟨j_18, F_15, ⟨by rw [uF_on]; omega, by rw [uF_on]; intro q; show S17.2.1 (o + 1) n ≤ t + 1; exact (hgr ⟨by omega, by omega⟩).2, by rw [uF_i (by decide)]; exact hc.2, (by unfold VR; rw [uF_on]; show V (S17.2.1 (o + 1)) 0 (z_4).toNat = _; rw [show z_4 = i by omega]; have e : _ = _ := hval; rw [show cy = 0 by omega, Int.zero_mul, V_msk (by omega) (by omega), V_msk (by omega) (by omega)] at e; omega)⟩⟩ dX0_addSize_126
          · refine lv_aload_n hx hb dX0_addSize_111 rfl (lv_at hl 3 rfl) ?_
            refine g_X0_9 Cx hW (k := o) (big_l ho) ho (v := .ref (G.2.2.1 + (o + 1))) (hI17.rq.1 o ho) dX0_addSize_112 ?_
            refine lv_iload_n hx hb dX0_addSize_115 rfl (lv_at hl 2 rfl) ?_
            refine lv_iload_n hx hb dX0_addSize_116 rfl (lv_at hl 1 rfl) ?_
            refine rIast Cx hW hL (k := o + 1) (big_l1 ho) (big_row ho).1 (by decide) (by omega) (by omega) dX0_addSize_117 (fun H locs hW hL => ?_)
            have F_22 : Fr S (uA S17 (o + 1) z_4 cy) (pB o) := hFm17.A pB_1
            have F_23 : Fr S (uA S17 (o + 1) z_4 cy) (pB o) := hL17_.A pB_1
            have i_24 : cX G (uA S17 (o + 1) z_4 cy) o 0 0 := hI17.limb (Or.inl (exq_s ho)) ho ⟨(by omega), (by omega)⟩
            refine lv_iinc (v := iv (z_4 + 1)) (lv' := [(2, .int (iv (z_4 + 1))), (4, .int (iv i)), (3, .int (iv cy)), (0, .ref (G.2.2.1 + o)), (1, .ref (G.2.2.1 + a))]) hx hb dX0_addSize_118 hl (k := 2) rfl ((Int32.ofInt_add _ _).symm) (by decide) rfl (fun ls hl => ?_)
            refine lv_aload_n hx hb dX0_addSize_121 rfl (lv_at hl 3 rfl) ?_
            refine lv_iload_n hx hb dX0_addSize_122 rfl (lv_at hl 0 rfl) ?_
            refine p_X0_24 Cx hW hL (k := o) (big_l ho) ho dX0_addSize_123 (fun H locs hW hL => ?_)
            have F_25 : Fr S (uF (uA S17 (o + 1) z_4 cy) o 1 (z_4 + 1)) (pB o) := F_22.F pB_0
            have F_26 : Fr S (uF (uA S17 (o + 1) z_4 cy) o 1 (z_4 + 1)) (pB o) := F_23.F pB_0
            have i_27 : cX G (uF (uA S17 (o + 1) z_4 cy) o 1 (z_4 + 1)) o 0 0 := i_24.cnt (exq_s ho) ho ⟨by omega, by omega⟩
            have j_28 : cX G (uF (uA S17 (o + 1) z_4 cy) o 1 (z_4 + 1)) 0 0 0 := i_27.inB ho (by intro q; rw [uF_on] at q ⊢; show (uA S17 (o + 1) z_4 cy).2.1 (o + 1) (z_4 + 1 - 1) ≠ 0; rw [show z_4 + 1 - 1 = z_4 by omega, uA_on]; omega)
            have lk_29 : (uF (uA S17 (o + 1) z_4 cy) o 1 (z_4 + 1)).1 o 1 = z_4 + 1 := uF_on
            have q_30 : (-1) ≤ S17.1 o 2 ∧ S17.1 o 2 ≤ 1 := hI17.fi o 2 0 (big_lt ho) ho
            have lk_31 : (uF (uA S17 (o + 1) z_4 cy) o 1 (z_4 + 1)).1 o 2 = S17.1 o 2 := (uF_ne (fun h => absurd h.2 (by decide))).trans (uA_f)
            exact sVret Cx hr hlk hW hL ⟨j_28, F_25, ⟨by rw [uF_on]; by_cases e : S.1 o 1 = n + 1; exact absurd (hgr ⟨by omega, e⟩).1 (by omega); omega, by rw [uF_on]; intro q; show (uA S17 (o + 1) z_4 cy).2.1 (o + 1) n ≤ t + 1; rw [show n = z_4 by omega, uA_on]; omega, by rw [uF_i (by decide)]; exact hc.2, (by unfold VR; rw [uF_on]; show V ((uA S17 (o + 1) z_4 cy).2.1 (o + 1)) 0 (z_4 + 1).toNat = _; rw [V_upd (by omega) (by omega)]; have e : _ = _ := hval; rw [V_msk (by omega) (by omega), V_msk (by omega) (by omega)] at e; rw [show z_4 = i by omega]; omega)⟩⟩ dX0_addSize_126
      · refine lv_iload_n hx hb dX0_addSize_23 rfl (lv_at hl 1 rfl) ?_
        refine lv_iload hx hb dX0_addSize_24 (lv_at hl 0 rfl) ?_
        refine lv_aload_n hx hb dX0_addSize_26 rfl (lv_at hl 3 rfl) ?_
        have q_32 : 0 ≤ S17.1 o 1 ∧ S17.1 o 1 ≤ 32 := hI17.fi o 1 0 (big_lt ho) ho
        refine g_X0_24 Cx hW (k := o) (big_l ho) ho (v := S17.1 o 1) rfl dX0_addSize_27 ?_
        refine r_icmp_ge (tgt := 43) hx hb ⟨(by omega), (by omega)⟩ ⟨(by omega), (by omega)⟩ dX0_addSize_30 (by decide) (fun c_33 => ?_) (fun c_33 => ?_)
        · refine lv_iconst (v := iv 0) hx hb dX0_addSize_43 (by decide) ?_
          refine r_iadd hx hb dX0_addSize_44 ?_
          refine lv_iload hx hb dX0_addSize_45 (lv_at hl 0 rfl) ?_
          refine lv_aload_n hx hb dX0_addSize_47 rfl (lv_at hl 4 rfl) ?_
          refine g_X0_24 Cx hW (k := a) (big_l ha) ha (v := S.1 a 1) ((hL17_ a (pB_no (neS noa) (tau_ne ha (big_row ho).1 (fun h => by cases h)))).1 1) dX0_addSize_48 ?_
          refine r_icmp_ge (tgt := 64) hx hb ⟨(by omega), (by omega)⟩ ⟨(by omega), (by omega)⟩ dX0_addSize_51 (by decide) (fun c_34 => ?_) (fun c_34 => ?_)
          · refine lv_iconst (v := iv 0) hx hb dX0_addSize_64 (by decide) ?_
            refine r_iadd hx hb dX0_addSize_65 ?_
            refine lv_istore (lv' := [(5, .int (iv ((cy + 0) + 0))), (4, .int (iv i)), (3, .int (iv cy)), (2, .int (iv z_4)), (0, .ref (G.2.2.1 + o)), (1, .ref (G.2.2.1 + a))]) hx hb dX0_addSize_66 hl (by decide) rfl (fun ls hl => ?_)
            refine lv_iload hx hb dX0_addSize_68 (lv_at hl 0 rfl) ?_
            refine lv_ldc hx hb hown (hts _ w_1293) dX0_addSize_70 ?_
            refine r_icmp_lt (tgt := 79) hx hb ⟨(by omega), (by omega)⟩ ⟨(by omega), (by omega)⟩ dX0_addSize_72 (by decide) (fun c_35 => ?_) (fun c_35 => ?_)
            · refine lv_iconst (v := iv 0) hx hb dX0_addSize_79 (by decide) ?_
              refine lv_istore_n (lv' := [(3, .int (iv 0)), (5, .int (iv ((cy + 0) + 0))), (4, .int (iv i)), (2, .int (iv z_4)), (0, .ref (G.2.2.1 + o)), (1, .ref (G.2.2.1 + a))]) hx hb dX0_addSize_80 rfl hl (by decide) rfl (fun ls hl => ?_)
              refine lv_aload_n hx hb dX0_addSize_81 rfl (lv_at hl 4 rfl) ?_
              refine g_X0_9 Cx hW (k := o) (big_l ho) ho (v := .ref (G.2.2.1 + (o + 1))) (hI17.rq.1 o ho) dX0_addSize_82 ?_
              refine lv_iload hx hb dX0_addSize_85 (lv_at hl 2 rfl) ?_
              refine lv_iload hx hb dX0_addSize_87 (lv_at hl 1 rfl) ?_
              refine lv_iload_n hx hb dX0_addSize_89 rfl (lv_at hl 0 rfl) ?_
              refine lv_ldc hx hb hown (hts _ w_1293) dX0_addSize_90 ?_
              refine r_imul hx hb dX0_addSize_92 ?_
              refine r_i (b := 0) (by omega) ?_
              refine r_isub hx hb dX0_addSize_93 ?_
              refine rIast Cx hW hL (k := o + 1) (big_l1 ho) (big_row ho).1 (by decide) (by omega) (by omega) dX0_addSize_94 (fun H locs hW hL => ?_)
              have F_36 : Fr S (uA S17 (o + 1) i (((cy + 0) + 0) - 0)) (pB o) := hFm17.A pB_1
              have F_37 : Fr S (uA S17 (o + 1) i (((cy + 0) + 0) - 0)) (pB o) := hL17_.A pB_1
              have i_38 : cX G (uA S17 (o + 1) i (((cy + 0) + 0) - 0)) o 0 0 := hI17.limb (Or.inl (exq_s ho)) ho ⟨(by omega), (by omega)⟩
              refine lv_iinc (v := iv (i + 1)) (lv' := [(4, .int (iv (i + 1))), (3, .int (iv 0)), (5, .int (iv ((cy + 0) + 0))), (2, .int (iv z_4)), (0, .ref (G.2.2.1 + o)), (1, .ref (G.2.2.1 + a))]) hx hb dX0_addSize_95 hl (k := 2) rfl ((Int32.ofInt_add _ _).symm) (by decide) rfl (fun ls hl => ?_)
              refine lv_goto (tgt := 17) hx hb dX0_addSize_98 (by decide) ?_
              have lk_39 : (uA S17 (o + 1) i (((cy + 0) + 0) - 0)).1 o 1 = S17.1 o 1 := uA_f
              have q_40 : (-1) ≤ S17.1 o 2 ∧ S17.1 o 2 ≤ 1 := hI17.fi o 2 0 (big_lt ho) ho
              have lk_41 : (uA S17 (o + 1) i (((cy + 0) + 0) - 0)).1 o 2 = S17.1 o 2 := uA_f
              exact ih_17 (uA S17 (o + 1) i (((cy + 0) + 0) - 0)) (i + 1) 0 _ _ _ (by omega) i_38 F_36 F_37 (by omega) (by omega) hc (fun j j0 => by rw [uA_ne (by omega)]; exact hun j (by omega)) (by intro q1 q2; rw [show i + 1 - 1 = i by omega, uA_on]; intro q3; have e1 : i = S.1 o 1 - 1 → S.2.1 (o + 1) i ≠ 0 := (fun e => by rw [e]; exact hnb (by omega)); have e2 : i = S.1 a 1 - 1 → S.2.1 (a + 1) i ≠ 0 := (fun e => by rw [e]; exact hna (by omega)); have e3 := hun i (by omega); omega) (by intro q; have e1 : i = n := (by omega); have e3 := hun i (by omega); have e4 := hnt2 q.2; rw [← e1] at e4; rw [← e1, uA_on]; omega) (show _ = _ by rw [V_upd (by omega) (by omega), pw_stp (by omega), V_stp (by omega), V_stp (by omega)]; refine madd hval ?_; unfold msk; rw [show (0 : Int) + i = i by omega]; have e3 := hun i (by omega); split <;> split <;> omega) hW hL (lv_sub hl [0, 1, 3, 4, 5] rfl)
            · refine lv_iconst (v := iv 1) hx hb dX0_addSize_75 (by decide) ?_
              refine lv_goto (tgt := 80) hx hb dX0_addSize_76 (by decide) ?_
              refine lv_istore_n (lv' := [(3, .int (iv 1)), (5, .int (iv ((cy + 0) + 0))), (4, .int (iv i)), (2, .int (iv z_4)), (0, .ref (G.2.2.1 + o)), (1, .ref (G.2.2.1 + a))]) hx hb dX0_addSize_80 rfl hl (by decide) rfl (fun ls hl => ?_)
              refine lv_aload_n hx hb dX0_addSize_81 rfl (lv_at hl 4 rfl) ?_
              refine g_X0_9 Cx hW (k := o) (big_l ho) ho (v := .ref (G.2.2.1 + (o + 1))) (hI17.rq.1 o ho) dX0_addSize_82 ?_
              refine lv_iload hx hb dX0_addSize_85 (lv_at hl 2 rfl) ?_
              refine lv_iload hx hb dX0_addSize_87 (lv_at hl 1 rfl) ?_
              refine lv_iload_n hx hb dX0_addSize_89 rfl (lv_at hl 0 rfl) ?_
              refine lv_ldc hx hb hown (hts _ w_1293) dX0_addSize_90 ?_
              refine r_imul hx hb dX0_addSize_92 ?_
              refine r_i (b := 1000000000) (by omega) ?_
              refine r_isub hx hb dX0_addSize_93 ?_
              refine rIast Cx hW hL (k := o + 1) (big_l1 ho) (big_row ho).1 (by decide) (by omega) (by omega) dX0_addSize_94 (fun H locs hW hL => ?_)
              have F_42 : Fr S (uA S17 (o + 1) i (((cy + 0) + 0) - 1000000000)) (pB o) := hFm17.A pB_1
              have F_43 : Fr S (uA S17 (o + 1) i (((cy + 0) + 0) - 1000000000)) (pB o) := hL17_.A pB_1
              have i_44 : cX G (uA S17 (o + 1) i (((cy + 0) + 0) - 1000000000)) o 0 0 := hI17.limb (Or.inl (exq_s ho)) ho ⟨(by omega), (by omega)⟩
              refine lv_iinc (v := iv (i + 1)) (lv' := [(4, .int (iv (i + 1))), (3, .int (iv 1)), (5, .int (iv ((cy + 0) + 0))), (2, .int (iv z_4)), (0, .ref (G.2.2.1 + o)), (1, .ref (G.2.2.1 + a))]) hx hb dX0_addSize_95 hl (k := 2) rfl ((Int32.ofInt_add _ _).symm) (by decide) rfl (fun ls hl => ?_)
              refine lv_goto (tgt := 17) hx hb dX0_addSize_98 (by decide) ?_
              have lk_45 : (uA S17 (o + 1) i (((cy + 0) + 0) - 1000000000)).1 o 1 = S17.1 o 1 := uA_f
              have q_46 : (-1) ≤ S17.1 o 2 ∧ S17.1 o 2 ≤ 1 := hI17.fi o 2 0 (big_lt ho) ho
              have lk_47 : (uA S17 (o + 1) i (((cy + 0) + 0) - 1000000000)).1 o 2 = S17.1 o 2 := uA_f
              exact ih_17 (uA S17 (o + 1) i (((cy + 0) + 0) - 1000000000)) (i + 1) 1 _ _ _ (by omega) i_44 F_42 F_43 (by omega) (by omega) hc (fun j j0 => by rw [uA_ne (by omega)]; exact hun j (by omega)) (by intro q1 q2; rw [show i + 1 - 1 = i by omega, uA_on]; intro q3; have e1 : i = S.1 o 1 - 1 → S.2.1 (o + 1) i ≠ 0 := (fun e => by rw [e]; exact hnb (by omega)); have e2 : i = S.1 a 1 - 1 → S.2.1 (a + 1) i ≠ 0 := (fun e => by rw [e]; exact hna (by omega)); have e3 := hun i (by omega); omega) (by intro q; have e1 : i = n := (by omega); have e3 := hun i (by omega); have e4 := hnt2 q.2; rw [← e1] at e4; rw [← e1, uA_on]; omega) (show _ = _ by rw [V_upd (by omega) (by omega), pw_stp (by omega), V_stp (by omega), V_stp (by omega)]; refine madd hval ?_; unfold msk; rw [show (0 : Int) + i = i by omega]; have e3 := hun i (by omega); split <;> split <;> omega) hW hL (lv_sub hl [0, 1, 3, 4, 5] rfl)
          · refine lv_aload_n hx hb dX0_addSize_54 rfl (lv_at hl 4 rfl) ?_
            refine g_X0_9 Cx hW (k := a) (big_l ha) ha (v := .ref (G.2.2.1 + (a + 1))) (hI17.rq.1 a ha) dX0_addSize_55 ?_
            refine lv_iload hx hb dX0_addSize_58 (lv_at hl 0 rfl) ?_
            refine rIald Cx hW (k := a + 1) (big_l1 ha) (big_row ha).1 (by decide) (by omega) (by omega) dX0_addSize_60 ?_
            have q_48 := limbR j_1 ha i
            refine r_i (b := S.2.1 (a + 1) i) ((hL17_ (a + 1) (pB_no (tau_ne (big_row ha).1 ho (fun h => by cases h)) (ne1S noa))).2.1 i) ?_
            refine lv_goto (tgt := 65) hx hb dX0_addSize_61 (by decide) ?_
            refine r_iadd hx hb dX0_addSize_65 ?_
            refine lv_istore (lv' := [(5, .int (iv ((cy + 0) + (S.2.1 (a + 1) i)))), (4, .int (iv i)), (3, .int (iv cy)), (2, .int (iv z_4)), (0, .ref (G.2.2.1 + o)), (1, .ref (G.2.2.1 + a))]) hx hb dX0_addSize_66 hl (by decide) rfl (fun ls hl => ?_)
            refine lv_iload hx hb dX0_addSize_68 (lv_at hl 0 rfl) ?_
            refine lv_ldc hx hb hown (hts _ w_1293) dX0_addSize_70 ?_
            refine r_icmp_lt (tgt := 79) hx hb ⟨(by omega), (by omega)⟩ ⟨(by omega), (by omega)⟩ dX0_addSize_72 (by decide) (fun c_49 => ?_) (fun c_49 => ?_)
            · refine lv_iconst (v := iv 0) hx hb dX0_addSize_79 (by decide) ?_
              refine lv_istore_n (lv' := [(3, .int (iv 0)), (5, .int (iv ((cy + 0) + (S.2.1 (a + 1) i)))), (4, .int (iv i)), (2, .int (iv z_4)), (0, .ref (G.2.2.1 + o)), (1, .ref (G.2.2.1 + a))]) hx hb dX0_addSize_80 rfl hl (by decide) rfl (fun ls hl => ?_)
              refine lv_aload_n hx hb dX0_addSize_81 rfl (lv_at hl 4 rfl) ?_
              refine g_X0_9 Cx hW (k := o) (big_l ho) ho (v := .ref (G.2.2.1 + (o + 1))) (hI17.rq.1 o ho) dX0_addSize_82 ?_
              refine lv_iload hx hb dX0_addSize_85 (lv_at hl 2 rfl) ?_
              refine lv_iload hx hb dX0_addSize_87 (lv_at hl 1 rfl) ?_
              refine lv_iload_n hx hb dX0_addSize_89 rfl (lv_at hl 0 rfl) ?_
              refine lv_ldc hx hb hown (hts _ w_1293) dX0_addSize_90 ?_
              refine r_imul hx hb dX0_addSize_92 ?_
              refine r_i (b := 0) (by omega) ?_
              refine r_isub hx hb dX0_addSize_93 ?_
              refine rIast Cx hW hL (k := o + 1) (big_l1 ho) (big_row ho).1 (by decide) (by omega) (by omega) dX0_addSize_94 (fun H locs hW hL => ?_)
              have F_50 : Fr S (uA S17 (o + 1) i (((cy + 0) + (S.2.1 (a + 1) i)) - 0)) (pB o) := hFm17.A pB_1
              have F_51 : Fr S (uA S17 (o + 1) i (((cy + 0) + (S.2.1 (a + 1) i)) - 0)) (pB o) := hL17_.A pB_1
              have i_52 : cX G (uA S17 (o + 1) i (((cy + 0) + (S.2.1 (a + 1) i)) - 0)) o 0 0 := hI17.limb (Or.inl (exq_s ho)) ho ⟨(by omega), (by omega)⟩
              refine lv_iinc (v := iv (i + 1)) (lv' := [(4, .int (iv (i + 1))), (3, .int (iv 0)), (5, .int (iv ((cy + 0) + (S.2.1 (a + 1) i)))), (2, .int (iv z_4)), (0, .ref (G.2.2.1 + o)), (1, .ref (G.2.2.1 + a))]) hx hb dX0_addSize_95 hl (k := 2) rfl ((Int32.ofInt_add _ _).symm) (by decide) rfl (fun ls hl => ?_)
              refine lv_goto (tgt := 17) hx hb dX0_addSize_98 (by decide) ?_
              have lk_53 : (uA S17 (o + 1) i (((cy + 0) + (S.2.1 (a + 1) i)) - 0)).1 o 1 = S17.1 o 1 := uA_f
              have q_54 : (-1) ≤ S17.1 o 2 ∧ S17.1 o 2 ≤ 1 := hI17.fi o 2 0 (big_lt ho) ho
              have lk_55 : (uA S17 (o + 1) i (((cy + 0) + (S.2.1 (a + 1) i)) - 0)).1 o 2 = S17.1 o 2 := uA_f
              exact ih_17 (uA S17 (o + 1) i (((cy + 0) + (S.2.1 (a + 1) i)) - 0)) (i + 1) 0 _ _ _ (by omega) i_52 F_50 F_51 (by omega) (by omega) hc (fun j j0 => by rw [uA_ne (by omega)]; exact hun j (by omega)) (by intro q1 q2; rw [show i + 1 - 1 = i by omega, uA_on]; intro q3; have e1 : i = S.1 o 1 - 1 → S.2.1 (o + 1) i ≠ 0 := (fun e => by rw [e]; exact hnb (by omega)); have e2 : i = S.1 a 1 - 1 → S.2.1 (a + 1) i ≠ 0 := (fun e => by rw [e]; exact hna (by omega)); have e3 := hun i (by omega); omega) (by intro q; have e1 : i = n := (by omega); have e3 := hun i (by omega); have e4 := hnt2 q.2; rw [← e1] at e4; rw [← e1, uA_on]; omega) (show _ = _ by rw [V_upd (by omega) (by omega), pw_stp (by omega), V_stp (by omega), V_stp (by omega)]; refine madd hval ?_; unfold msk; rw [show (0 : Int) + i = i by omega]; have e3 := hun i (by omega); split <;> split <;> omega) hW hL (lv_sub hl [0, 1, 3, 4, 5] rfl)
            · refine lv_iconst (v := iv 1) hx hb dX0_addSize_75 (by decide) ?_
              refine lv_goto (tgt := 80) hx hb dX0_addSize_76 (by decide) ?_
              refine lv_istore_n (lv' := [(3, .int (iv 1)), (5, .int (iv ((cy + 0) + (S.2.1 (a + 1) i)))), (4, .int (iv i)), (2, .int (iv z_4)), (0, .ref (G.2.2.1 + o)), (1, .ref (G.2.2.1 + a))]) hx hb dX0_addSize_80 rfl hl (by decide) rfl (fun ls hl => ?_)
              refine lv_aload_n hx hb dX0_addSize_81 rfl (lv_at hl 4 rfl) ?_
              refine g_X0_9 Cx hW (k := o) (big_l ho) ho (v := .ref (G.2.2.1 + (o + 1))) (hI17.rq.1 o ho) dX0_addSize_82 ?_
              refine lv_iload hx hb dX0_addSize_85 (lv_at hl 2 rfl) ?_
              refine lv_iload hx hb dX0_addSize_87 (lv_at hl 1 rfl) ?_
              refine lv_iload_n hx hb dX0_addSize_89 rfl (lv_at hl 0 rfl) ?_
              refine lv_ldc hx hb hown (hts _ w_1293) dX0_addSize_90 ?_
              refine r_imul hx hb dX0_addSize_92 ?_
              refine r_i (b := 1000000000) (by omega) ?_
              refine r_isub hx hb dX0_addSize_93 ?_
              refine rIast Cx hW hL (k := o + 1) (big_l1 ho) (big_row ho).1 (by decide) (by omega) (by omega) dX0_addSize_94 (fun H locs hW hL => ?_)
              have F_56 : Fr S (uA S17 (o + 1) i (((cy + 0) + (S.2.1 (a + 1) i)) - 1000000000)) (pB o) := hFm17.A pB_1
              have F_57 : Fr S (uA S17 (o + 1) i (((cy + 0) + (S.2.1 (a + 1) i)) - 1000000000)) (pB o) := hL17_.A pB_1
              have i_58 : cX G (uA S17 (o + 1) i (((cy + 0) + (S.2.1 (a + 1) i)) - 1000000000)) o 0 0 := hI17.limb (Or.inl (exq_s ho)) ho ⟨(by omega), (by omega)⟩
              refine lv_iinc (v := iv (i + 1)) (lv' := [(4, .int (iv (i + 1))), (3, .int (iv 1)), (5, .int (iv ((cy + 0) + (S.2.1 (a + 1) i)))), (2, .int (iv z_4)), (0, .ref (G.2.2.1 + o)), (1, .ref (G.2.2.1 + a))]) hx hb dX0_addSize_95 hl (k := 2) rfl ((Int32.ofInt_add _ _).symm) (by decide) rfl (fun ls hl => ?_)
              refine lv_goto (tgt := 17) hx hb dX0_addSize_98 (by decide) ?_
              have lk_59 : (uA S17 (o + 1) i (((cy + 0) + (S.2.1 (a + 1) i)) - 1000000000)).1 o 1 = S17.1 o 1 := uA_f
              have q_60 : (-1) ≤ S17.1 o 2 ∧ S17.1 o 2 ≤ 1 := hI17.fi o 2 0 (big_lt ho) ho
              have lk_61 : (uA S17 (o + 1) i (((cy + 0) + (S.2.1 (a + 1) i)) - 1000000000)).1 o 2 = S17.1 o 2 := uA_f
              exact ih_17 (uA S17 (o + 1) i (((cy + 0) + (S.2.1 (a + 1) i)) - 1000000000)) (i + 1) 1 _ _ _ (by omega) i_58 F_56 F_57 (by omega) (by omega) hc (fun j j0 => by rw [uA_ne (by omega)]; exact hun j (by omega)) (by intro q1 q2; rw [show i + 1 - 1 = i by omega, uA_on]; intro q3; have e1 : i = S.1 o 1 - 1 → S.2.1 (o + 1) i ≠ 0 := (fun e => by rw [e]; exact hnb (by omega)); have e2 : i = S.1 a 1 - 1 → S.2.1 (a + 1) i ≠ 0 := (fun e => by rw [e]; exact hna (by omega)); have e3 := hun i (by omega); omega) (by intro q; have e1 : i = n := (by omega); have e3 := hun i (by omega); have e4 := hnt2 q.2; rw [← e1] at e4; rw [← e1, uA_on]; omega) (show _ = _ by rw [V_upd (by omega) (by omega), pw_stp (by omega), V_stp (by omega), V_stp (by omega)]; refine madd hval ?_; unfold msk; rw [show (0 : Int) + i = i by omega]; have e3 := hun i (by omega); split <;> split <;> omega) hW hL (lv_sub hl [0, 1, 3, 4, 5] rfl)
        · refine lv_aload_n hx hb dX0_addSize_33 rfl (lv_at hl 3 rfl) ?_
          refine g_X0_9 Cx hW (k := o) (big_l ho) ho (v := .ref (G.2.2.1 + (o + 1))) (hI17.rq.1 o ho) dX0_addSize_34 ?_
          refine lv_iload hx hb dX0_addSize_37 (lv_at hl 0 rfl) ?_
          refine rIald Cx hW (k := o + 1) (big_l1 ho) (big_row ho).1 (by decide) (by omega) (by omega) dX0_addSize_39 ?_
          have q_62 := limbR hI17 ho i
          refine r_i (b := S17.2.1 (o + 1) i) rfl ?_
          refine lv_goto (tgt := 44) hx hb dX0_addSize_40 (by decide) ?_
          refine r_iadd hx hb dX0_addSize_44 ?_
          refine lv_iload hx hb dX0_addSize_45 (lv_at hl 0 rfl) ?_
          refine lv_aload_n hx hb dX0_addSize_47 rfl (lv_at hl 4 rfl) ?_
          refine g_X0_24 Cx hW (k := a) (big_l ha) ha (v := S.1 a 1) ((hL17_ a (pB_no (neS noa) (tau_ne ha (big_row ho).1 (fun h => by cases h)))).1 1) dX0_addSize_48 ?_
          refine r_icmp_ge (tgt := 64) hx hb ⟨(by omega), (by omega)⟩ ⟨(by omega), (by omega)⟩ dX0_addSize_51 (by decide) (fun c_63 => ?_) (fun c_63 => ?_)
          · refine lv_iconst (v := iv 0) hx hb dX0_addSize_64 (by decide) ?_
            refine r_iadd hx hb dX0_addSize_65 ?_
            refine lv_istore (lv' := [(5, .int (iv ((cy + (S17.2.1 (o + 1) i)) + 0))), (4, .int (iv i)), (3, .int (iv cy)), (2, .int (iv z_4)), (0, .ref (G.2.2.1 + o)), (1, .ref (G.2.2.1 + a))]) hx hb dX0_addSize_66 hl (by decide) rfl (fun ls hl => ?_)
            refine lv_iload hx hb dX0_addSize_68 (lv_at hl 0 rfl) ?_
            refine lv_ldc hx hb hown (hts _ w_1293) dX0_addSize_70 ?_
            refine r_icmp_lt (tgt := 79) hx hb ⟨(by omega), (by omega)⟩ ⟨(by omega), (by omega)⟩ dX0_addSize_72 (by decide) (fun c_64 => ?_) (fun c_64 => ?_)
            · refine lv_iconst (v := iv 0) hx hb dX0_addSize_79 (by decide) ?_
              refine lv_istore_n (lv' := [(3, .int (iv 0)), (5, .int (iv ((cy + (S17.2.1 (o + 1) i)) + 0))), (4, .int (iv i)), (2, .int (iv z_4)), (0, .ref (G.2.2.1 + o)), (1, .ref (G.2.2.1 + a))]) hx hb dX0_addSize_80 rfl hl (by decide) rfl (fun ls hl => ?_)
              refine lv_aload_n hx hb dX0_addSize_81 rfl (lv_at hl 4 rfl) ?_
              refine g_X0_9 Cx hW (k := o) (big_l ho) ho (v := .ref (G.2.2.1 + (o + 1))) (hI17.rq.1 o ho) dX0_addSize_82 ?_
              refine lv_iload hx hb dX0_addSize_85 (lv_at hl 2 rfl) ?_
              refine lv_iload hx hb dX0_addSize_87 (lv_at hl 1 rfl) ?_
              refine lv_iload_n hx hb dX0_addSize_89 rfl (lv_at hl 0 rfl) ?_
              refine lv_ldc hx hb hown (hts _ w_1293) dX0_addSize_90 ?_
              refine r_imul hx hb dX0_addSize_92 ?_
              refine r_i (b := 0) (by omega) ?_
              refine r_isub hx hb dX0_addSize_93 ?_
              refine rIast Cx hW hL (k := o + 1) (big_l1 ho) (big_row ho).1 (by decide) (by omega) (by omega) dX0_addSize_94 (fun H locs hW hL => ?_)
              have F_65 : Fr S (uA S17 (o + 1) i (((cy + (S17.2.1 (o + 1) i)) + 0) - 0)) (pB o) := hFm17.A pB_1
              have F_66 : Fr S (uA S17 (o + 1) i (((cy + (S17.2.1 (o + 1) i)) + 0) - 0)) (pB o) := hL17_.A pB_1
              have i_67 : cX G (uA S17 (o + 1) i (((cy + (S17.2.1 (o + 1) i)) + 0) - 0)) o 0 0 := hI17.limb (Or.inl (exq_s ho)) ho ⟨(by omega), (by omega)⟩
              refine lv_iinc (v := iv (i + 1)) (lv' := [(4, .int (iv (i + 1))), (3, .int (iv 0)), (5, .int (iv ((cy + (S17.2.1 (o + 1) i)) + 0))), (2, .int (iv z_4)), (0, .ref (G.2.2.1 + o)), (1, .ref (G.2.2.1 + a))]) hx hb dX0_addSize_95 hl (k := 2) rfl ((Int32.ofInt_add _ _).symm) (by decide) rfl (fun ls hl => ?_)
              refine lv_goto (tgt := 17) hx hb dX0_addSize_98 (by decide) ?_
              have lk_68 : (uA S17 (o + 1) i (((cy + (S17.2.1 (o + 1) i)) + 0) - 0)).1 o 1 = S17.1 o 1 := uA_f
              have q_69 : (-1) ≤ S17.1 o 2 ∧ S17.1 o 2 ≤ 1 := hI17.fi o 2 0 (big_lt ho) ho
              have lk_70 : (uA S17 (o + 1) i (((cy + (S17.2.1 (o + 1) i)) + 0) - 0)).1 o 2 = S17.1 o 2 := uA_f
              exact ih_17 (uA S17 (o + 1) i (((cy + (S17.2.1 (o + 1) i)) + 0) - 0)) (i + 1) 0 _ _ _ (by omega) i_67 F_65 F_66 (by omega) (by omega) hc (fun j j0 => by rw [uA_ne (by omega)]; exact hun j (by omega)) (by intro q1 q2; rw [show i + 1 - 1 = i by omega, uA_on]; intro q3; have e1 : i = S.1 o 1 - 1 → S.2.1 (o + 1) i ≠ 0 := (fun e => by rw [e]; exact hnb (by omega)); have e2 : i = S.1 a 1 - 1 → S.2.1 (a + 1) i ≠ 0 := (fun e => by rw [e]; exact hna (by omega)); have e3 := hun i (by omega); omega) (by intro q; have e1 : i = n := (by omega); have e3 := hun i (by omega); have e4 := hnt2 q.2; rw [← e1] at e4; rw [← e1, uA_on]; omega) (show _ = _ by rw [V_upd (by omega) (by omega), pw_stp (by omega), V_stp (by omega), V_stp (by omega)]; refine madd hval ?_; unfold msk; rw [show (0 : Int) + i = i by omega]; have e3 := hun i (by omega); split <;> split <;> omega) hW hL (lv_sub hl [0, 1, 3, 4, 5] rfl)
            · refine lv_iconst (v := iv 1) hx hb dX0_addSize_75 (by decide) ?_
              refine lv_goto (tgt := 80) hx hb dX0_addSize_76 (by decide) ?_
              refine lv_istore_n (lv' := [(3, .int (iv 1)), (5, .int (iv ((cy + (S17.2.1 (o + 1) i)) + 0))), (4, .int (iv i)), (2, .int (iv z_4)), (0, .ref (G.2.2.1 + o)), (1, .ref (G.2.2.1 + a))]) hx hb dX0_addSize_80 rfl hl (by decide) rfl (fun ls hl => ?_)
              refine lv_aload_n hx hb dX0_addSize_81 rfl (lv_at hl 4 rfl) ?_
              refine g_X0_9 Cx hW (k := o) (big_l ho) ho (v := .ref (G.2.2.1 + (o + 1))) (hI17.rq.1 o ho) dX0_addSize_82 ?_
              refine lv_iload hx hb dX0_addSize_85 (lv_at hl 2 rfl) ?_
              refine lv_iload hx hb dX0_addSize_87 (lv_at hl 1 rfl) ?_
              refine lv_iload_n hx hb dX0_addSize_89 rfl (lv_at hl 0 rfl) ?_
              refine lv_ldc hx hb hown (hts _ w_1293) dX0_addSize_90 ?_
              refine r_imul hx hb dX0_addSize_92 ?_
              refine r_i (b := 1000000000) (by omega) ?_
              refine r_isub hx hb dX0_addSize_93 ?_
              refine rIast Cx hW hL (k := o + 1) (big_l1 ho) (big_row ho).1 (by decide) (by omega) (by omega) dX0_addSize_94 (fun H locs hW hL => ?_)
              have F_71 : Fr S (uA S17 (o + 1) i (((cy + (S17.2.1 (o + 1) i)) + 0) - 1000000000)) (pB o) := hFm17.A pB_1
              have F_72 : Fr S (uA S17 (o + 1) i (((cy + (S17.2.1 (o + 1) i)) + 0) - 1000000000)) (pB o) := hL17_.A pB_1
              have i_73 : cX G (uA S17 (o + 1) i (((cy + (S17.2.1 (o + 1) i)) + 0) - 1000000000)) o 0 0 := hI17.limb (Or.inl (exq_s ho)) ho ⟨(by omega), (by omega)⟩
              refine lv_iinc (v := iv (i + 1)) (lv' := [(4, .int (iv (i + 1))), (3, .int (iv 1)), (5, .int (iv ((cy + (S17.2.1 (o + 1) i)) + 0))), (2, .int (iv z_4)), (0, .ref (G.2.2.1 + o)), (1, .ref (G.2.2.1 + a))]) hx hb dX0_addSize_95 hl (k := 2) rfl ((Int32.ofInt_add _ _).symm) (by decide) rfl (fun ls hl => ?_)
              refine lv_goto (tgt := 17) hx hb dX0_addSize_98 (by decide) ?_
              have lk_74 : (uA S17 (o + 1) i (((cy + (S17.2.1 (o + 1) i)) + 0) - 1000000000)).1 o 1 = S17.1 o 1 := uA_f
              have q_75 : (-1) ≤ S17.1 o 2 ∧ S17.1 o 2 ≤ 1 := hI17.fi o 2 0 (big_lt ho) ho
              have lk_76 : (uA S17 (o + 1) i (((cy + (S17.2.1 (o + 1) i)) + 0) - 1000000000)).1 o 2 = S17.1 o 2 := uA_f
              exact ih_17 (uA S17 (o + 1) i (((cy + (S17.2.1 (o + 1) i)) + 0) - 1000000000)) (i + 1) 1 _ _ _ (by omega) i_73 F_71 F_72 (by omega) (by omega) hc (fun j j0 => by rw [uA_ne (by omega)]; exact hun j (by omega)) (by intro q1 q2; rw [show i + 1 - 1 = i by omega, uA_on]; intro q3; have e1 : i = S.1 o 1 - 1 → S.2.1 (o + 1) i ≠ 0 := (fun e => by rw [e]; exact hnb (by omega)); have e2 : i = S.1 a 1 - 1 → S.2.1 (a + 1) i ≠ 0 := (fun e => by rw [e]; exact hna (by omega)); have e3 := hun i (by omega); omega) (by intro q; have e1 : i = n := (by omega); have e3 := hun i (by omega); have e4 := hnt2 q.2; rw [← e1] at e4; rw [← e1, uA_on]; omega) (show _ = _ by rw [V_upd (by omega) (by omega), pw_stp (by omega), V_stp (by omega), V_stp (by omega)]; refine madd hval ?_; unfold msk; rw [show (0 : Int) + i = i by omega]; have e3 := hun i (by omega); split <;> split <;> omega) hW hL (lv_sub hl [0, 1, 3, 4, 5] rfl)
          · refine lv_aload_n hx hb dX0_addSize_54 rfl (lv_at hl 4 rfl) ?_
            refine g_X0_9 Cx hW (k := a) (big_l ha) ha (v := .ref (G.2.2.1 + (a + 1))) (hI17.rq.1 a ha) dX0_addSize_55 ?_
            refine lv_iload hx hb dX0_addSize_58 (lv_at hl 0 rfl) ?_
            refine rIald Cx hW (k := a + 1) (big_l1 ha) (big_row ha).1 (by decide) (by omega) (by omega) dX0_addSize_60 ?_
            have q_77 := limbR j_1 ha i
            refine r_i (b := S.2.1 (a + 1) i) ((hL17_ (a + 1) (pB_no (tau_ne (big_row ha).1 ho (fun h => by cases h)) (ne1S noa))).2.1 i) ?_
            refine lv_goto (tgt := 65) hx hb dX0_addSize_61 (by decide) ?_
            refine r_iadd hx hb dX0_addSize_65 ?_
            refine lv_istore (lv' := [(5, .int (iv ((cy + (S17.2.1 (o + 1) i)) + (S.2.1 (a + 1) i)))), (4, .int (iv i)), (3, .int (iv cy)), (2, .int (iv z_4)), (0, .ref (G.2.2.1 + o)), (1, .ref (G.2.2.1 + a))]) hx hb dX0_addSize_66 hl (by decide) rfl (fun ls hl => ?_)
            refine lv_iload hx hb dX0_addSize_68 (lv_at hl 0 rfl) ?_
            refine lv_ldc hx hb hown (hts _ w_1293) dX0_addSize_70 ?_
            refine r_icmp_lt (tgt := 79) hx hb ⟨(by omega), (by omega)⟩ ⟨(by omega), (by omega)⟩ dX0_addSize_72 (by decide) (fun c_78 => ?_) (fun c_78 => ?_)
            · refine lv_iconst (v := iv 0) hx hb dX0_addSize_79 (by decide) ?_
              refine lv_istore_n (lv' := [(3, .int (iv 0)), (5, .int (iv ((cy + (S17.2.1 (o + 1) i)) + (S.2.1 (a + 1) i)))), (4, .int (iv i)), (2, .int (iv z_4)), (0, .ref (G.2.2.1 + o)), (1, .ref (G.2.2.1 + a))]) hx hb dX0_addSize_80 rfl hl (by decide) rfl (fun ls hl => ?_)
              refine lv_aload_n hx hb dX0_addSize_81 rfl (lv_at hl 4 rfl) ?_
              refine g_X0_9 Cx hW (k := o) (big_l ho) ho (v := .ref (G.2.2.1 + (o + 1))) (hI17.rq.1 o ho) dX0_addSize_82 ?_
              refine lv_iload hx hb dX0_addSize_85 (lv_at hl 2 rfl) ?_
              refine lv_iload hx hb dX0_addSize_87 (lv_at hl 1 rfl) ?_
              refine lv_iload_n hx hb dX0_addSize_89 rfl (lv_at hl 0 rfl) ?_
              refine lv_ldc hx hb hown (hts _ w_1293) dX0_addSize_90 ?_
              refine r_imul hx hb dX0_addSize_92 ?_
              refine r_i (b := 0) (by omega) ?_
              refine r_isub hx hb dX0_addSize_93 ?_
              refine rIast Cx hW hL (k := o + 1) (big_l1 ho) (big_row ho).1 (by decide) (by omega) (by omega) dX0_addSize_94 (fun H locs hW hL => ?_)
              have F_79 : Fr S (uA S17 (o + 1) i (((cy + (S17.2.1 (o + 1) i)) + (S.2.1 (a + 1) i)) - 0)) (pB o) := hFm17.A pB_1
              have F_80 : Fr S (uA S17 (o + 1) i (((cy + (S17.2.1 (o + 1) i)) + (S.2.1 (a + 1) i)) - 0)) (pB o) := hL17_.A pB_1
              have i_81 : cX G (uA S17 (o + 1) i (((cy + (S17.2.1 (o + 1) i)) + (S.2.1 (a + 1) i)) - 0)) o 0 0 := hI17.limb (Or.inl (exq_s ho)) ho ⟨(by omega), (by omega)⟩
              refine lv_iinc (v := iv (i + 1)) (lv' := [(4, .int (iv (i + 1))), (3, .int (iv 0)), (5, .int (iv ((cy + (S17.2.1 (o + 1) i)) + (S.2.1 (a + 1) i)))), (2, .int (iv z_4)), (0, .ref (G.2.2.1 + o)), (1, .ref (G.2.2.1 + a))]) hx hb dX0_addSize_95 hl (k := 2) rfl ((Int32.ofInt_add _ _).symm) (by decide) rfl (fun ls hl => ?_)
              refine lv_goto (tgt := 17) hx hb dX0_addSize_98 (by decide) ?_
              have lk_82 : (uA S17 (o + 1) i (((cy + (S17.2.1 (o + 1) i)) + (S.2.1 (a + 1) i)) - 0)).1 o 1 = S17.1 o 1 := uA_f
              have q_83 : (-1) ≤ S17.1 o 2 ∧ S17.1 o 2 ≤ 1 := hI17.fi o 2 0 (big_lt ho) ho
              have lk_84 : (uA S17 (o + 1) i (((cy + (S17.2.1 (o + 1) i)) + (S.2.1 (a + 1) i)) - 0)).1 o 2 = S17.1 o 2 := uA_f
              exact ih_17 (uA S17 (o + 1) i (((cy + (S17.2.1 (o + 1) i)) + (S.2.1 (a + 1) i)) - 0)) (i + 1) 0 _ _ _ (by omega) i_81 F_79 F_80 (by omega) (by omega) hc (fun j j0 => by rw [uA_ne (by omega)]; exact hun j (by omega)) (by intro q1 q2; rw [show i + 1 - 1 = i by omega, uA_on]; intro q3; have e1 : i = S.1 o 1 - 1 → S.2.1 (o + 1) i ≠ 0 := (fun e => by rw [e]; exact hnb (by omega)); have e2 : i = S.1 a 1 - 1 → S.2.1 (a + 1) i ≠ 0 := (fun e => by rw [e]; exact hna (by omega)); have e3 := hun i (by omega); omega) (by intro q; have e1 : i = n := (by omega); have e3 := hun i (by omega); have e4 := hnt2 q.2; rw [← e1] at e4; rw [← e1, uA_on]; omega) (show _ = _ by rw [V_upd (by omega) (by omega), pw_stp (by omega), V_stp (by omega), V_stp (by omega)]; refine madd hval ?_; unfold msk; rw [show (0 : Int) + i = i by omega]; have e3 := hun i (by omega); split <;> split <;> omega) hW hL (lv_sub hl [0, 1, 3, 4, 5] rfl)
            · refine lv_iconst (v := iv 1) hx hb dX0_addSize_75 (by decide) ?_
              refine lv_goto (tgt := 80) hx hb dX0_addSize_76 (by decide) ?_
              refine lv_istore_n (lv' := [(3, .int (iv 1)), (5, .int (iv ((cy + (S17.2.1 (o + 1) i)) + (S.2.1 (a + 1) i)))), (4, .int (iv i)), (2, .int (iv z_4)), (0, .ref (G.2.2.1 + o)), (1, .ref (G.2.2.1 + a))]) hx hb dX0_addSize_80 rfl hl (by decide) rfl (fun ls hl => ?_)
              refine lv_aload_n hx hb dX0_addSize_81 rfl (lv_at hl 4 rfl) ?_
              refine g_X0_9 Cx hW (k := o) (big_l ho) ho (v := .ref (G.2.2.1 + (o + 1))) (hI17.rq.1 o ho) dX0_addSize_82 ?_
              refine lv_iload hx hb dX0_addSize_85 (lv_at hl 2 rfl) ?_
              refine lv_iload hx hb dX0_addSize_87 (lv_at hl 1 rfl) ?_
              refine lv_iload_n hx hb dX0_addSize_89 rfl (lv_at hl 0 rfl) ?_
              refine lv_ldc hx hb hown (hts _ w_1293) dX0_addSize_90 ?_
              refine r_imul hx hb dX0_addSize_92 ?_
              refine r_i (b := 1000000000) (by omega) ?_
              refine r_isub hx hb dX0_addSize_93 ?_
              refine rIast Cx hW hL (k := o + 1) (big_l1 ho) (big_row ho).1 (by decide) (by omega) (by omega) dX0_addSize_94 (fun H locs hW hL => ?_)
              have F_85 : Fr S (uA S17 (o + 1) i (((cy + (S17.2.1 (o + 1) i)) + (S.2.1 (a + 1) i)) - 1000000000)) (pB o) := hFm17.A pB_1
              have F_86 : Fr S (uA S17 (o + 1) i (((cy + (S17.2.1 (o + 1) i)) + (S.2.1 (a + 1) i)) - 1000000000)) (pB o) := hL17_.A pB_1
              have i_87 : cX G (uA S17 (o + 1) i (((cy + (S17.2.1 (o + 1) i)) + (S.2.1 (a + 1) i)) - 1000000000)) o 0 0 := hI17.limb (Or.inl (exq_s ho)) ho ⟨(by omega), (by omega)⟩
              refine lv_iinc (v := iv (i + 1)) (lv' := [(4, .int (iv (i + 1))), (3, .int (iv 1)), (5, .int (iv ((cy + (S17.2.1 (o + 1) i)) + (S.2.1 (a + 1) i)))), (2, .int (iv z_4)), (0, .ref (G.2.2.1 + o)), (1, .ref (G.2.2.1 + a))]) hx hb dX0_addSize_95 hl (k := 2) rfl ((Int32.ofInt_add _ _).symm) (by decide) rfl (fun ls hl => ?_)
              refine lv_goto (tgt := 17) hx hb dX0_addSize_98 (by decide) ?_
              have lk_88 : (uA S17 (o + 1) i (((cy + (S17.2.1 (o + 1) i)) + (S.2.1 (a + 1) i)) - 1000000000)).1 o 1 = S17.1 o 1 := uA_f
              have q_89 : (-1) ≤ S17.1 o 2 ∧ S17.1 o 2 ≤ 1 := hI17.fi o 2 0 (big_lt ho) ho
              have lk_90 : (uA S17 (o + 1) i (((cy + (S17.2.1 (o + 1) i)) + (S.2.1 (a + 1) i)) - 1000000000)).1 o 2 = S17.1 o 2 := uA_f
              exact ih_17 (uA S17 (o + 1) i (((cy + (S17.2.1 (o + 1) i)) + (S.2.1 (a + 1) i)) - 1000000000)) (i + 1) 1 _ _ _ (by omega) i_87 F_85 F_86 (by omega) (by omega) hc (fun j j0 => by rw [uA_ne (by omega)]; exact hun j (by omega)) (by intro q1 q2; rw [show i + 1 - 1 = i by omega, uA_on]; intro q3; have e1 : i = S.1 o 1 - 1 → S.2.1 (o + 1) i ≠ 0 := (fun e => by rw [e]; exact hnb (by omega)); have e2 : i = S.1 a 1 - 1 → S.2.1 (a + 1) i ≠ 0 := (fun e => by rw [e]; exact hna (by omega)); have e3 := hun i (by omega); omega) (by intro q; have e1 : i = n := (by omega); have e3 := hun i (by omega); have e4 := hnt2 q.2; rw [← e1] at e4; rw [← e1, uA_on]; omega) (show _ = _ by rw [V_upd (by omega) (by omega), pw_stp (by omega), V_stp (by omega), V_stp (by omega)]; refine madd hval ?_; unfold msk; rw [show (0 : Int) + i = i by omega]; have e3 := hun i (by omega); split <;> split <;> omega) hW hL (lv_sub hl [0, 1, 3, 4, 5] rfl)
  have q_91 : (-1) ≤ S.1 o 2 ∧ S.1 o 2 ≤ 1 := j_1.fi o 2 0 (big_lt ho) ho
  exact loop_17 (_ + 1) S 0 0 _ _ _ (Nat.lt_succ_self _) j_1 (Fr.rf : Fr S S (pB o)) Fr.rf (by omega) (by omega) ⟨rfl, rfl⟩ (fun j _ => rfl) (fun _ q => absurd q.1 (by omega)) (fun q => by omega) (show _ = _ from rfl) hW hL (lv_sub hl [0, 1, 2, 3, 4] rfl)

set_option maxRecDepth 100000 in
set_option maxHeartbeats 4000000 in
theorem b_X0_takeSize_1 (l : Launch) (G : sG) (S : sS) {o a : Nat} (hI : cX G S 0 0 0) (ho : tau o = .inl 0) (ha : tau a = .inl 0) (noa : Hd (o ≠ a)) : Met l yX0_takeSize (.code yX0_takeSize cX0_takeSize 8 none :: tb) (rmk 1 0 0) (sPc G 294 S [.ref (G.2.2.1 + o), .ref (G.2.2.1 + o), .ref (G.2.2.1 + a)]) (sQv G 294 (fun u => cX G u o 0 0 ∧ Fr S u (pB o) ∧ (u.1 o 1 = S.1 o 1 ∧ u.1 o 2 = S.1 o 2 ∧ (S.1 a 1 < S.1 o 1 → u.2.1 (o + 1) (S.1 o 1 - 1) ≤ S.2.1 (o + 1) (S.1 o 1 - 1)) ∧ Hd (VR S a ≤ VR S o → VR u o = VR S o - VR S a)))) 0 0 (sF G) := by
  refine sEnter (by decide) (Nat.le_of_ble_eq_true rfl) ?_
  intro p e s m args below meth c Cx hr hlk hnm hW ls hl
  have Cx : sC G p m c cX0_takeSize 8 s args RX0 := Cx
  obtain ⟨hx, hb, hml, hown, hts⟩ := id Cx.1
  have hL : sL G [] := sL_nil
  have hl : lv_has ls 8 [(0, .ref (G.2.2.1 + o)), (1, .ref (G.2.2.1 + o)), (2, .ref (G.2.2.1 + a))] := hl
  have hW0 := hW
  have hnb := nbH hI ho
  have j_1 := hI.exB o
  refine lv_aload_n hx hb dX0_takeSize_0 rfl (lv_at hl 1 rfl) ?_
  have q_2 : 0 ≤ S.1 o 1 ∧ S.1 o 1 ≤ 32 := j_1.fi o 1 0 (big_lt ho) ho
  refine g_X0_24 Cx hW (k := o) (big_l ho) ho (v := S.1 o 1) rfl dX0_takeSize_1 ?_
  refine lv_istore_n (lv' := [(3, .int (iv (S.1 o 1))), (0, .ref (G.2.2.1 + o)), (1, .ref (G.2.2.1 + o)), (2, .ref (G.2.2.1 + a))]) hx hb dX0_takeSize_4 rfl hl (by decide) rfl (fun ls hl => ?_)
  refine lv_aload_n hx hb dX0_takeSize_5 rfl (lv_at hl 3 rfl) ?_
  have q_3 : 0 ≤ S.1 a 1 ∧ S.1 a 1 ≤ 32 := j_1.fi a 1 0 (big_lt ha) ha
  refine g_X0_24 Cx hW (k := a) (big_l ha) ha (v := S.1 a 1) rfl dX0_takeSize_6 ?_
  refine lv_istore (lv' := [(4, .int (iv (S.1 a 1))), (3, .int (iv (S.1 o 1))), (0, .ref (G.2.2.1 + o)), (1, .ref (G.2.2.1 + o)), (2, .ref (G.2.2.1 + a))]) hx hb dX0_takeSize_9 hl (by decide) rfl (fun ls hl => ?_)
  refine lv_iconst (v := iv 0) hx hb dX0_takeSize_11 (by decide) ?_
  refine lv_istore (lv' := [(5, .int (iv 0)), (4, .int (iv (S.1 a 1))), (3, .int (iv (S.1 o 1))), (0, .ref (G.2.2.1 + o)), (1, .ref (G.2.2.1 + o)), (2, .ref (G.2.2.1 + a))]) hx hb dX0_takeSize_12 hl (by decide) rfl (fun ls hl => ?_)
  refine lv_iconst (v := iv 0) hx hb dX0_takeSize_14 (by decide) ?_
  refine lv_istore (lv' := [(6, .int (iv 0)), (5, .int (iv 0)), (4, .int (iv (S.1 a 1))), (3, .int (iv (S.1 o 1))), (0, .ref (G.2.2.1 + o)), (1, .ref (G.2.2.1 + o)), (2, .ref (G.2.2.1 + a))]) hx hb dX0_takeSize_15 hl (by decide) rfl (fun ls hl => ?_)
  have loop_17 : ∀ (fuel : Nat) (S17 : sS) (i : Int) (bo : Int) (H : Heap) (locs : List Loc) (ls : Array Slot), (S.1 o 1 - i).toNat < fuel → (cX G S17 o 0 0) → (Fr S S17 (pB o)) → (Fr S S17 (pB o)) → (0 ≤ bo ∧ bo ≤ 1) → (0 ≤ i ∧ i ≤ S.1 o 1) → (S17.1 o 1 = S.1 o 1 ∧ S17.1 o 2 = S.1 o 2) → (∀ j, i ≤ j → S17.2.1 (o + 1) j = S.2.1 (o + 1) j) → (Hd (i = S.1 o 1 → S.1 a 1 < S.1 o 1 → S17.2.1 (o + 1) (S.1 o 1 - 1) ≤ S.2.1 (o + 1) (S.1 o 1 - 1))) → (Hd (V (S17.2.1 (o + 1)) 0 i.toNat - bo * pw i.toNat = V (S.2.1 (o + 1)) 0 i.toNat - V (msk (S.2.1 (a + 1)) (S.1 a 1)) 0 i.toNat)) → sW G 294 S17 H → sL G locs → lv_has ls 8 [(6, .int (iv i)), (5, .int (iv bo)), (4, .int (iv (S.1 a 1))), (3, .int (iv (S.1 o 1))), (0, .ref (G.2.2.1 + o)), (1, .ref (G.2.2.1 + o)), (2, .ref (G.2.2.1 + a))] → W p l e (rmk 1 0 0) s m args below meth c H locs 0 0 (MQ below (sQv G 294 (fun u => cX G u o 0 0 ∧ Fr S u (pB o) ∧ (u.1 o 1 = S.1 o 1 ∧ u.1 o 2 = S.1 o 2 ∧ (S.1 a 1 < S.1 o 1 → u.2.1 (o + 1) (S.1 o 1 - 1) ≤ S.2.1 (o + 1) (S.1 o 1 - 1)) ∧ Hd (VR S a ≤ VR S o → VR u o = VR S o - VR S a)))) args s 0 0 (sF G)) (F0 m 17 ls []) := by
    intro fuel
    induction fuel with
    | zero => intro S17 i bo H locs ls hmeas hI17 hFm17 hL17_ hbo hi hc hun htp hval hW hL hl; exact absurd hmeas (Nat.not_lt_zero _)
    | succ fuel ih_17 =>
      intro S17 i bo H locs ls hmeas hI17 hFm17 hL17_ hbo hi hc hun htp hval hW hL hl
      have hui := hun i (Int.le_refl _)
      refine lv_iload hx hb dX0_takeSize_17 (lv_at hl 0 rfl) ?_
      refine lv_iload_n hx hb dX0_takeSize_19 rfl (lv_at hl 3 rfl) ?_
      refine r_icmp_ge (tgt := 87) hx hb ⟨(by omega), (by omega)⟩ ⟨(by omega), (by omega)⟩ dX0_takeSize_20 (by decide) (fun c_4 => ?_) (fun c_4 => ?_)
      · refine lv_aload_n hx hb dX0_takeSize_87 rfl (lv_at hl 4 rfl) ?_
        refine lv_iload_n hx hb dX0_takeSize_88 rfl (lv_at hl 3 rfl) ?_
        refine p_X0_24 Cx hW hL (k := o) (big_l ho) ho dX0_takeSize_89 (fun H locs hW hL => ?_)
        have F_5 : Fr S (uF S17 o 1 (S.1 o 1)) (pB o) := hFm17.F pB_0
        have F_6 : Fr S (uF S17 o 1 (S.1 o 1)) (pB o) := hL17_.F pB_0
        have i_7 : cX G (uF S17 o 1 (S.1 o 1)) o 0 0 := hI17.cnt (exq_s ho) ho ⟨by omega, by omega⟩
        have lk_8 : (uF S17 o 1 (S.1 o 1)).1 o 1 = S.1 o 1 := uF_on
        have q_9 : (-1) ≤ S17.1 o 2 ∧ S17.1 o 2 ≤ 1 := hI17.fi o 2 0 (big_lt ho) ho
        have lk_10 : (uF S17 o 1 (S.1 o 1)).1 o 2 = S17.1 o 2 := uF_ne (fun h => absurd h.2 (by decide))
        exact sVret Cx hr hlk hW hL ⟨i_7, F_5, ⟨uF_on, by rw [uF_i (by decide)]; exact hc.2, fun q => htp (by omega) q, (fun q => by have q0 : VR S a ≤ VR S o := q; have cm := hI.fi o 1 0 (big_lt ho) ho; have hcc : S.1 a 1 ≤ S.1 o 1 := (by by_cases z : S.1 a 1 ≤ S.1 o 1; (exact z); (have y := cmp_cnt hI ha ho (by omega) (by omega); exfalso; omega)); have cl := hI.fi a 1 0 (big_lt ha) ha; have hb1 : V (S17.2.1 (o + 1)) 0 i.toNat < pw i.toNat := V_lt (fun j _ _ => limbR hI17 ho j); have e : _ = _ := hval; rw [V_msk (by omega) (by omega), show i = S.1 o 1 by omega] at e; rw [show i = S.1 o 1 by omega] at hb1; have q2 : VR S a ≤ VR S o := q; have p0 := pw_pos (S.1 o 1).toNat; unfold VR at q2 ⊢; rw [uF_on]; show V (S17.2.1 (o + 1)) 0 (S.1 o 1).toNat = _; rw [show S.1 o 1 = S.1 o 1 by omega]; rcases (by omega : bo = 0 ∨ bo = 1) with z | z; (rw [z, Int.zero_mul] at e; omega); (exfalso; rw [z, Int.one_mul] at e; omega))⟩⟩ dX0_takeSize_92
      · refine lv_aload_n hx hb dX0_takeSize_23 rfl (lv_at hl 5 rfl) ?_
        refine g_X0_9 Cx hW (k := o) (big_l ho) ho (v := .ref (G.2.2.1 + (o + 1))) (hI17.rq.1 o ho) dX0_takeSize_24 ?_
        refine lv_iload hx hb dX0_takeSize_27 (lv_at hl 0 rfl) ?_
        refine rIald Cx hW (k := o + 1) (big_l1 ho) (big_row ho).1 (by decide) (by omega) (by omega) dX0_takeSize_29 ?_
        have q_11 := limbR hI17 ho i
        refine r_i (b := S17.2.1 (o + 1) i) rfl ?_
        refine lv_iload hx hb dX0_takeSize_30 (lv_at hl 1 rfl) ?_
        refine r_isub hx hb dX0_takeSize_32 ?_
        refine lv_iload hx hb dX0_takeSize_33 (lv_at hl 0 rfl) ?_
        refine lv_iload hx hb dX0_takeSize_35 (lv_at hl 2 rfl) ?_
        refine r_icmp_ge (tgt := 50) hx hb ⟨(by omega), (by omega)⟩ ⟨(by omega), (by omega)⟩ dX0_takeSize_37 (by decide) (fun c_12 => ?_) (fun c_12 => ?_)
        · refine lv_iconst (v := iv 0) hx hb dX0_takeSize_50 (by decide) ?_
          refine r_isub hx hb dX0_takeSize_51 ?_
          refine lv_istore (lv' := [(7, .int (iv (((S17.2.1 (o + 1) i) - bo) - 0))), (6, .int (iv i)), (5, .int (iv bo)), (4, .int (iv (S.1 a 1))), (3, .int (iv (S.1 o 1))), (0, .ref (G.2.2.1 + o)), (1, .ref (G.2.2.1 + o)), (2, .ref (G.2.2.1 + a))]) hx hb dX0_takeSize_52 hl (by decide) rfl (fun ls hl => ?_)
          refine lv_iload hx hb dX0_takeSize_54 (lv_at hl 0 rfl) ?_
          refine r_if_ge (tgt := 63) hx hb ⟨(by omega), (by omega)⟩ dX0_takeSize_56 (by decide) (fun c_13 => ?_) (fun c_13 => ?_)
          · refine lv_iconst (v := iv 0) hx hb dX0_takeSize_63 (by decide) ?_
            refine lv_istore (lv' := [(5, .int (iv 0)), (7, .int (iv (((S17.2.1 (o + 1) i) - bo) - 0))), (6, .int (iv i)), (4, .int (iv (S.1 a 1))), (3, .int (iv (S.1 o 1))), (0, .ref (G.2.2.1 + o)), (1, .ref (G.2.2.1 + o)), (2, .ref (G.2.2.1 + a))]) hx hb dX0_takeSize_64 hl (by decide) rfl (fun ls hl => ?_)
            refine lv_aload_n hx hb dX0_takeSize_66 rfl (lv_at hl 5 rfl) ?_
            refine g_X0_9 Cx hW (k := o) (big_l ho) ho (v := .ref (G.2.2.1 + (o + 1))) (hI17.rq.1 o ho) dX0_takeSize_67 ?_
            refine lv_iload hx hb dX0_takeSize_70 (lv_at hl 2 rfl) ?_
            refine lv_iload hx hb dX0_takeSize_72 (lv_at hl 1 rfl) ?_
            refine lv_iload hx hb dX0_takeSize_74 (lv_at hl 0 rfl) ?_
            refine lv_ldc hx hb hown (hts _ w_1293) dX0_takeSize_76 ?_
            refine r_imul hx hb dX0_takeSize_78 ?_
            refine r_i (b := 0) (by omega) ?_
            refine r_iadd hx hb dX0_takeSize_79 ?_
            refine rIast Cx hW hL (k := o + 1) (big_l1 ho) (big_row ho).1 (by decide) (by omega) (by omega) dX0_takeSize_80 (fun H locs hW hL => ?_)
            have F_14 : Fr S (uA S17 (o + 1) i ((((S17.2.1 (o + 1) i) - bo) - 0) + 0)) (pB o) := hFm17.A pB_1
            have F_15 : Fr S (uA S17 (o + 1) i ((((S17.2.1 (o + 1) i) - bo) - 0) + 0)) (pB o) := hL17_.A pB_1
            have i_16 : cX G (uA S17 (o + 1) i ((((S17.2.1 (o + 1) i) - bo) - 0) + 0)) o 0 0 := hI17.limb (Or.inl (exq_s ho)) ho ⟨(by omega), (by omega)⟩
            refine lv_iinc (v := iv (i + 1)) (lv' := [(6, .int (iv (i + 1))), (5, .int (iv 0)), (7, .int (iv (((S17.2.1 (o + 1) i) - bo) - 0))), (4, .int (iv (S.1 a 1))), (3, .int (iv (S.1 o 1))), (0, .ref (G.2.2.1 + o)), (1, .ref (G.2.2.1 + o)), (2, .ref (G.2.2.1 + a))]) hx hb dX0_takeSize_81 hl (k := 2) rfl ((Int32.ofInt_add _ _).symm) (by decide) rfl (fun ls hl => ?_)
            refine lv_goto (tgt := 17) hx hb dX0_takeSize_84 (by decide) ?_
            have q_17 : 0 ≤ S17.1 o 1 ∧ S17.1 o 1 ≤ 32 := hI17.fi o 1 0 (big_lt ho) ho
            have lk_18 : (uA S17 (o + 1) i ((((S17.2.1 (o + 1) i) - bo) - 0) + 0)).1 o 1 = S17.1 o 1 := uA_f
            have q_19 : (-1) ≤ S17.1 o 2 ∧ S17.1 o 2 ≤ 1 := hI17.fi o 2 0 (big_lt ho) ho
            have lk_20 : (uA S17 (o + 1) i ((((S17.2.1 (o + 1) i) - bo) - 0) + 0)).1 o 2 = S17.1 o 2 := uA_f
            exact ih_17 (uA S17 (o + 1) i ((((S17.2.1 (o + 1) i) - bo) - 0) + 0)) (i + 1) 0 _ _ _ (by omega) i_16 F_14 F_15 (by omega) (by omega) hc (fun j j0 => by rw [uA_ne (by omega)]; exact hun j (by omega)) (by intro q1 q2; have e := hnb (by omega); rw [show S.1 o 1 - 1 = i by omega] at e ⊢; rw [uA_on]; omega) (show _ = _ by rw [V_upd (by omega) (by omega), pw_stp (by omega), V_stp (by omega), V_stp (by omega)]; refine msub1 hval ?_; unfold msk; rw [show (0 : Int) + i = i by omega]; split <;> omega) hW hL (lv_sub hl [0, 1, 3, 4, 5, 6, 7] rfl)
          · refine lv_iconst (v := iv 1) hx hb dX0_takeSize_59 (by decide) ?_
            refine lv_goto (tgt := 64) hx hb dX0_takeSize_60 (by decide) ?_
            refine lv_istore (lv' := [(5, .int (iv 1)), (7, .int (iv (((S17.2.1 (o + 1) i) - bo) - 0))), (6, .int (iv i)), (4, .int (iv (S.1 a 1))), (3, .int (iv (S.1 o 1))), (0, .ref (G.2.2.1 + o)), (1, .ref (G.2.2.1 + o)), (2, .ref (G.2.2.1 + a))]) hx hb dX0_takeSize_64 hl (by decide) rfl (fun ls hl => ?_)
            refine lv_aload_n hx hb dX0_takeSize_66 rfl (lv_at hl 5 rfl) ?_
            refine g_X0_9 Cx hW (k := o) (big_l ho) ho (v := .ref (G.2.2.1 + (o + 1))) (hI17.rq.1 o ho) dX0_takeSize_67 ?_
            refine lv_iload hx hb dX0_takeSize_70 (lv_at hl 2 rfl) ?_
            refine lv_iload hx hb dX0_takeSize_72 (lv_at hl 1 rfl) ?_
            refine lv_iload hx hb dX0_takeSize_74 (lv_at hl 0 rfl) ?_
            refine lv_ldc hx hb hown (hts _ w_1293) dX0_takeSize_76 ?_
            refine r_imul hx hb dX0_takeSize_78 ?_
            refine r_i (b := 1000000000) (by omega) ?_
            refine r_iadd hx hb dX0_takeSize_79 ?_
            refine rIast Cx hW hL (k := o + 1) (big_l1 ho) (big_row ho).1 (by decide) (by omega) (by omega) dX0_takeSize_80 (fun H locs hW hL => ?_)
            have F_21 : Fr S (uA S17 (o + 1) i ((((S17.2.1 (o + 1) i) - bo) - 0) + 1000000000)) (pB o) := hFm17.A pB_1
            have F_22 : Fr S (uA S17 (o + 1) i ((((S17.2.1 (o + 1) i) - bo) - 0) + 1000000000)) (pB o) := hL17_.A pB_1
            have i_23 : cX G (uA S17 (o + 1) i ((((S17.2.1 (o + 1) i) - bo) - 0) + 1000000000)) o 0 0 := hI17.limb (Or.inl (exq_s ho)) ho ⟨(by omega), (by omega)⟩
            refine lv_iinc (v := iv (i + 1)) (lv' := [(6, .int (iv (i + 1))), (5, .int (iv 1)), (7, .int (iv (((S17.2.1 (o + 1) i) - bo) - 0))), (4, .int (iv (S.1 a 1))), (3, .int (iv (S.1 o 1))), (0, .ref (G.2.2.1 + o)), (1, .ref (G.2.2.1 + o)), (2, .ref (G.2.2.1 + a))]) hx hb dX0_takeSize_81 hl (k := 2) rfl ((Int32.ofInt_add _ _).symm) (by decide) rfl (fun ls hl => ?_)
            refine lv_goto (tgt := 17) hx hb dX0_takeSize_84 (by decide) ?_
            have q_24 : 0 ≤ S17.1 o 1 ∧ S17.1 o 1 ≤ 32 := hI17.fi o 1 0 (big_lt ho) ho
            have lk_25 : (uA S17 (o + 1) i ((((S17.2.1 (o + 1) i) - bo) - 0) + 1000000000)).1 o 1 = S17.1 o 1 := uA_f
            have q_26 : (-1) ≤ S17.1 o 2 ∧ S17.1 o 2 ≤ 1 := hI17.fi o 2 0 (big_lt ho) ho
            have lk_27 : (uA S17 (o + 1) i ((((S17.2.1 (o + 1) i) - bo) - 0) + 1000000000)).1 o 2 = S17.1 o 2 := uA_f
            exact ih_17 (uA S17 (o + 1) i ((((S17.2.1 (o + 1) i) - bo) - 0) + 1000000000)) (i + 1) 1 _ _ _ (by omega) i_23 F_21 F_22 (by omega) (by omega) hc (fun j j0 => by rw [uA_ne (by omega)]; exact hun j (by omega)) (by intro q1 q2; have e := hnb (by omega); rw [show S.1 o 1 - 1 = i by omega] at e ⊢; rw [uA_on]; omega) (show _ = _ by rw [V_upd (by omega) (by omega), pw_stp (by omega), V_stp (by omega), V_stp (by omega)]; refine msub1 hval ?_; unfold msk; rw [show (0 : Int) + i = i by omega]; split <;> omega) hW hL (lv_sub hl [0, 1, 3, 4, 5, 6, 7] rfl)
        · refine lv_aload_n hx hb dX0_takeSize_40 rfl (lv_at hl 6 rfl) ?_
          refine g_X0_9 Cx hW (k := a) (big_l ha) ha (v := .ref (G.2.2.1 + (a + 1))) (hI17.rq.1 a ha) dX0_takeSize_41 ?_
          refine lv_iload hx hb dX0_takeSize_44 (lv_at hl 0 rfl) ?_
          refine rIald Cx hW (k := a + 1) (big_l1 ha) (big_row ha).1 (by decide) (by omega) (by omega) dX0_takeSize_46 ?_
          have q_28 := limbR j_1 ha i
          refine r_i (b := S.2.1 (a + 1) i) ((hL17_ (a + 1) (pB_no (tau_ne (big_row ha).1 ho (fun h => by cases h)) (ne1S noa))).2.1 i) ?_
          refine lv_goto (tgt := 51) hx hb dX0_takeSize_47 (by decide) ?_
          refine r_isub hx hb dX0_takeSize_51 ?_
          refine lv_istore (lv' := [(7, .int (iv (((S17.2.1 (o + 1) i) - bo) - (S.2.1 (a + 1) i)))), (6, .int (iv i)), (5, .int (iv bo)), (4, .int (iv (S.1 a 1))), (3, .int (iv (S.1 o 1))), (0, .ref (G.2.2.1 + o)), (1, .ref (G.2.2.1 + o)), (2, .ref (G.2.2.1 + a))]) hx hb dX0_takeSize_52 hl (by decide) rfl (fun ls hl => ?_)
          refine lv_iload hx hb dX0_takeSize_54 (lv_at hl 0 rfl) ?_
          refine r_if_ge (tgt := 63) hx hb ⟨(by omega), (by omega)⟩ dX0_takeSize_56 (by decide) (fun c_29 => ?_) (fun c_29 => ?_)
          · refine lv_iconst (v := iv 0) hx hb dX0_takeSize_63 (by decide) ?_
            refine lv_istore (lv' := [(5, .int (iv 0)), (7, .int (iv (((S17.2.1 (o + 1) i) - bo) - (S.2.1 (a + 1) i)))), (6, .int (iv i)), (4, .int (iv (S.1 a 1))), (3, .int (iv (S.1 o 1))), (0, .ref (G.2.2.1 + o)), (1, .ref (G.2.2.1 + o)), (2, .ref (G.2.2.1 + a))]) hx hb dX0_takeSize_64 hl (by decide) rfl (fun ls hl => ?_)
            refine lv_aload_n hx hb dX0_takeSize_66 rfl (lv_at hl 5 rfl) ?_
            refine g_X0_9 Cx hW (k := o) (big_l ho) ho (v := .ref (G.2.2.1 + (o + 1))) (hI17.rq.1 o ho) dX0_takeSize_67 ?_
            refine lv_iload hx hb dX0_takeSize_70 (lv_at hl 2 rfl) ?_
            refine lv_iload hx hb dX0_takeSize_72 (lv_at hl 1 rfl) ?_
            refine lv_iload hx hb dX0_takeSize_74 (lv_at hl 0 rfl) ?_
            refine lv_ldc hx hb hown (hts _ w_1293) dX0_takeSize_76 ?_
            refine r_imul hx hb dX0_takeSize_78 ?_
            refine r_i (b := 0) (by omega) ?_
            refine r_iadd hx hb dX0_takeSize_79 ?_
            refine rIast Cx hW hL (k := o + 1) (big_l1 ho) (big_row ho).1 (by decide) (by omega) (by omega) dX0_takeSize_80 (fun H locs hW hL => ?_)
            have F_30 : Fr S (uA S17 (o + 1) i ((((S17.2.1 (o + 1) i) - bo) - (S.2.1 (a + 1) i)) + 0)) (pB o) := hFm17.A pB_1
            have F_31 : Fr S (uA S17 (o + 1) i ((((S17.2.1 (o + 1) i) - bo) - (S.2.1 (a + 1) i)) + 0)) (pB o) := hL17_.A pB_1
            have i_32 : cX G (uA S17 (o + 1) i ((((S17.2.1 (o + 1) i) - bo) - (S.2.1 (a + 1) i)) + 0)) o 0 0 := hI17.limb (Or.inl (exq_s ho)) ho ⟨(by omega), (by omega)⟩
            refine lv_iinc (v := iv (i + 1)) (lv' := [(6, .int (iv (i + 1))), (5, .int (iv 0)), (7, .int (iv (((S17.2.1 (o + 1) i) - bo) - (S.2.1 (a + 1) i)))), (4, .int (iv (S.1 a 1))), (3, .int (iv (S.1 o 1))), (0, .ref (G.2.2.1 + o)), (1, .ref (G.2.2.1 + o)), (2, .ref (G.2.2.1 + a))]) hx hb dX0_takeSize_81 hl (k := 2) rfl ((Int32.ofInt_add _ _).symm) (by decide) rfl (fun ls hl => ?_)
            refine lv_goto (tgt := 17) hx hb dX0_takeSize_84 (by decide) ?_
            have q_33 : 0 ≤ S17.1 o 1 ∧ S17.1 o 1 ≤ 32 := hI17.fi o 1 0 (big_lt ho) ho
            have lk_34 : (uA S17 (o + 1) i ((((S17.2.1 (o + 1) i) - bo) - (S.2.1 (a + 1) i)) + 0)).1 o 1 = S17.1 o 1 := uA_f
            have q_35 : (-1) ≤ S17.1 o 2 ∧ S17.1 o 2 ≤ 1 := hI17.fi o 2 0 (big_lt ho) ho
            have lk_36 : (uA S17 (o + 1) i ((((S17.2.1 (o + 1) i) - bo) - (S.2.1 (a + 1) i)) + 0)).1 o 2 = S17.1 o 2 := uA_f
            exact ih_17 (uA S17 (o + 1) i ((((S17.2.1 (o + 1) i) - bo) - (S.2.1 (a + 1) i)) + 0)) (i + 1) 0 _ _ _ (by omega) i_32 F_30 F_31 (by omega) (by omega) hc (fun j j0 => by rw [uA_ne (by omega)]; exact hun j (by omega)) (by intro q1 q2; have e := hnb (by omega); rw [show S.1 o 1 - 1 = i by omega] at e ⊢; rw [uA_on]; omega) (show _ = _ by rw [V_upd (by omega) (by omega), pw_stp (by omega), V_stp (by omega), V_stp (by omega)]; refine msub1 hval ?_; unfold msk; rw [show (0 : Int) + i = i by omega]; split <;> omega) hW hL (lv_sub hl [0, 1, 3, 4, 5, 6, 7] rfl)
          · refine lv_iconst (v := iv 1) hx hb dX0_takeSize_59 (by decide) ?_
            refine lv_goto (tgt := 64) hx hb dX0_takeSize_60 (by decide) ?_
            refine lv_istore (lv' := [(5, .int (iv 1)), (7, .int (iv (((S17.2.1 (o + 1) i) - bo) - (S.2.1 (a + 1) i)))), (6, .int (iv i)), (4, .int (iv (S.1 a 1))), (3, .int (iv (S.1 o 1))), (0, .ref (G.2.2.1 + o)), (1, .ref (G.2.2.1 + o)), (2, .ref (G.2.2.1 + a))]) hx hb dX0_takeSize_64 hl (by decide) rfl (fun ls hl => ?_)
            refine lv_aload_n hx hb dX0_takeSize_66 rfl (lv_at hl 5 rfl) ?_
            refine g_X0_9 Cx hW (k := o) (big_l ho) ho (v := .ref (G.2.2.1 + (o + 1))) (hI17.rq.1 o ho) dX0_takeSize_67 ?_
            refine lv_iload hx hb dX0_takeSize_70 (lv_at hl 2 rfl) ?_
            refine lv_iload hx hb dX0_takeSize_72 (lv_at hl 1 rfl) ?_
            refine lv_iload hx hb dX0_takeSize_74 (lv_at hl 0 rfl) ?_
            refine lv_ldc hx hb hown (hts _ w_1293) dX0_takeSize_76 ?_
            refine r_imul hx hb dX0_takeSize_78 ?_
            refine r_i (b := 1000000000) (by omega) ?_
            refine r_iadd hx hb dX0_takeSize_79 ?_
            refine rIast Cx hW hL (k := o + 1) (big_l1 ho) (big_row ho).1 (by decide) (by omega) (by omega) dX0_takeSize_80 (fun H locs hW hL => ?_)
            have F_37 : Fr S (uA S17 (o + 1) i ((((S17.2.1 (o + 1) i) - bo) - (S.2.1 (a + 1) i)) + 1000000000)) (pB o) := hFm17.A pB_1
            have F_38 : Fr S (uA S17 (o + 1) i ((((S17.2.1 (o + 1) i) - bo) - (S.2.1 (a + 1) i)) + 1000000000)) (pB o) := hL17_.A pB_1
            have i_39 : cX G (uA S17 (o + 1) i ((((S17.2.1 (o + 1) i) - bo) - (S.2.1 (a + 1) i)) + 1000000000)) o 0 0 := hI17.limb (Or.inl (exq_s ho)) ho ⟨(by omega), (by omega)⟩
            refine lv_iinc (v := iv (i + 1)) (lv' := [(6, .int (iv (i + 1))), (5, .int (iv 1)), (7, .int (iv (((S17.2.1 (o + 1) i) - bo) - (S.2.1 (a + 1) i)))), (4, .int (iv (S.1 a 1))), (3, .int (iv (S.1 o 1))), (0, .ref (G.2.2.1 + o)), (1, .ref (G.2.2.1 + o)), (2, .ref (G.2.2.1 + a))]) hx hb dX0_takeSize_81 hl (k := 2) rfl ((Int32.ofInt_add _ _).symm) (by decide) rfl (fun ls hl => ?_)
            refine lv_goto (tgt := 17) hx hb dX0_takeSize_84 (by decide) ?_
            have q_40 : 0 ≤ S17.1 o 1 ∧ S17.1 o 1 ≤ 32 := hI17.fi o 1 0 (big_lt ho) ho
            have lk_41 : (uA S17 (o + 1) i ((((S17.2.1 (o + 1) i) - bo) - (S.2.1 (a + 1) i)) + 1000000000)).1 o 1 = S17.1 o 1 := uA_f
            have q_42 : (-1) ≤ S17.1 o 2 ∧ S17.1 o 2 ≤ 1 := hI17.fi o 2 0 (big_lt ho) ho
            have lk_43 : (uA S17 (o + 1) i ((((S17.2.1 (o + 1) i) - bo) - (S.2.1 (a + 1) i)) + 1000000000)).1 o 2 = S17.1 o 2 := uA_f
            exact ih_17 (uA S17 (o + 1) i ((((S17.2.1 (o + 1) i) - bo) - (S.2.1 (a + 1) i)) + 1000000000)) (i + 1) 1 _ _ _ (by omega) i_39 F_37 F_38 (by omega) (by omega) hc (fun j j0 => by rw [uA_ne (by omega)]; exact hun j (by omega)) (by intro q1 q2; have e := hnb (by omega); rw [show S.1 o 1 - 1 = i by omega] at e ⊢; rw [uA_on]; omega) (show _ = _ by rw [V_upd (by omega) (by omega), pw_stp (by omega), V_stp (by omega), V_stp (by omega)]; refine msub1 hval ?_; unfold msk; rw [show (0 : Int) + i = i by omega]; split <;> omega) hW hL (lv_sub hl [0, 1, 3, 4, 5, 6, 7] rfl)
  have q_44 : (-1) ≤ S.1 o 2 ∧ S.1 o 2 ≤ 1 := j_1.fi o 2 0 (big_lt ho) ho
  exact loop_17 (_ + 1) S 0 0 _ _ _ (Nat.lt_succ_self _) j_1 (Fr.rf : Fr S S (pB o)) Fr.rf (by omega) (by omega) ⟨rfl, rfl⟩ (fun j _ => rfl) (fun _ _ => Int.le_refl _) (show _ = _ from rfl) hW hL (lv_sub hl [0, 1, 2, 3, 4, 5, 6] rfl)

set_option maxRecDepth 100000 in
set_option maxHeartbeats 4000000 in
theorem b_X0_takeSize_2 (l : Launch) (G : sG) (S : sS) {o a : Nat} (hI : cX G S 0 0 0) (ho : tau o = .inl 0) (ha : tau a = .inl 0) (noa : Hd (o ≠ a)) : Met l yX0_takeSize (.code yX0_takeSize cX0_takeSize 8 none :: tb) (rmk 1 0 0) (sPc G 294 S [.ref (G.2.2.1 + o), .ref (G.2.2.1 + a), .ref (G.2.2.1 + o)]) (sQv G 294 (fun u => cX G u o 0 0 ∧ Fr S u (pB o) ∧ (u.1 o 1 = S.1 a 1 ∧ u.1 o 2 = S.1 o 2 ∧ Hd (VR S o ≤ VR S a → VR u o = VR S a - VR S o)))) 0 0 (sF G) := by
  refine sEnter (by decide) (Nat.le_of_ble_eq_true rfl) ?_
  intro p e s m args below meth c Cx hr hlk hnm hW ls hl
  have Cx : sC G p m c cX0_takeSize 8 s args RX0 := Cx
  obtain ⟨hx, hb, hml, hown, hts⟩ := id Cx.1
  have hL : sL G [] := sL_nil
  have hl : lv_has ls 8 [(0, .ref (G.2.2.1 + o)), (1, .ref (G.2.2.1 + a)), (2, .ref (G.2.2.1 + o))] := hl
  have hW0 := hW
  have hnb := nbH hI ho
  have j_1 := hI.exB o
  refine lv_aload_n hx hb dX0_takeSize_0 rfl (lv_at hl 1 rfl) ?_
  have q_2 : 0 ≤ S.1 a 1 ∧ S.1 a 1 ≤ 32 := j_1.fi a 1 0 (big_lt ha) ha
  refine g_X0_24 Cx hW (k := a) (big_l ha) ha (v := S.1 a 1) rfl dX0_takeSize_1 ?_
  refine lv_istore_n (lv' := [(3, .int (iv (S.1 a 1))), (0, .ref (G.2.2.1 + o)), (1, .ref (G.2.2.1 + a)), (2, .ref (G.2.2.1 + o))]) hx hb dX0_takeSize_4 rfl hl (by decide) rfl (fun ls hl => ?_)
  refine lv_aload_n hx hb dX0_takeSize_5 rfl (lv_at hl 3 rfl) ?_
  have q_3 : 0 ≤ S.1 o 1 ∧ S.1 o 1 ≤ 32 := j_1.fi o 1 0 (big_lt ho) ho
  refine g_X0_24 Cx hW (k := o) (big_l ho) ho (v := S.1 o 1) rfl dX0_takeSize_6 ?_
  refine lv_istore (lv' := [(4, .int (iv (S.1 o 1))), (3, .int (iv (S.1 a 1))), (0, .ref (G.2.2.1 + o)), (1, .ref (G.2.2.1 + a)), (2, .ref (G.2.2.1 + o))]) hx hb dX0_takeSize_9 hl (by decide) rfl (fun ls hl => ?_)
  refine lv_iconst (v := iv 0) hx hb dX0_takeSize_11 (by decide) ?_
  refine lv_istore (lv' := [(5, .int (iv 0)), (4, .int (iv (S.1 o 1))), (3, .int (iv (S.1 a 1))), (0, .ref (G.2.2.1 + o)), (1, .ref (G.2.2.1 + a)), (2, .ref (G.2.2.1 + o))]) hx hb dX0_takeSize_12 hl (by decide) rfl (fun ls hl => ?_)
  refine lv_iconst (v := iv 0) hx hb dX0_takeSize_14 (by decide) ?_
  refine lv_istore (lv' := [(6, .int (iv 0)), (5, .int (iv 0)), (4, .int (iv (S.1 o 1))), (3, .int (iv (S.1 a 1))), (0, .ref (G.2.2.1 + o)), (1, .ref (G.2.2.1 + a)), (2, .ref (G.2.2.1 + o))]) hx hb dX0_takeSize_15 hl (by decide) rfl (fun ls hl => ?_)
  have loop_17 : ∀ (fuel : Nat) (S17 : sS) (i : Int) (bo : Int) (H : Heap) (locs : List Loc) (ls : Array Slot), (S.1 a 1 - i).toNat < fuel → (cX G S17 o 0 0) → (Fr S S17 (pB o)) → (Fr S S17 (pB o)) → (0 ≤ bo ∧ bo ≤ 1) → (0 ≤ i ∧ i ≤ S.1 a 1) → (S17.1 o 1 = S.1 o 1 ∧ S17.1 o 2 = S.1 o 2) → (∀ j, i ≤ j → S17.2.1 (o + 1) j = S.2.1 (o + 1) j) → (Hd (V (S17.2.1 (o + 1)) 0 i.toNat - bo * pw i.toNat = V (S.2.1 (a + 1)) 0 i.toNat - V (msk (S.2.1 (o + 1)) (S.1 o 1)) 0 i.toNat)) → sW G 294 S17 H → sL G locs → lv_has ls 8 [(6, .int (iv i)), (5, .int (iv bo)), (4, .int (iv (S.1 o 1))), (3, .int (iv (S.1 a 1))), (0, .ref (G.2.2.1 + o)), (1, .ref (G.2.2.1 + a)), (2, .ref (G.2.2.1 + o))] → W p l e (rmk 1 0 0) s m args below meth c H locs 0 0 (MQ below (sQv G 294 (fun u => cX G u o 0 0 ∧ Fr S u (pB o) ∧ (u.1 o 1 = S.1 a 1 ∧ u.1 o 2 = S.1 o 2 ∧ Hd (VR S o ≤ VR S a → VR u o = VR S a - VR S o)))) args s 0 0 (sF G)) (F0 m 17 ls []) := by
    intro fuel
    induction fuel with
    | zero => intro S17 i bo H locs ls hmeas hI17 hFm17 hL17_ hbo hi hc hun hval hW hL hl; exact absurd hmeas (Nat.not_lt_zero _)
    | succ fuel ih_17 =>
      intro S17 i bo H locs ls hmeas hI17 hFm17 hL17_ hbo hi hc hun hval hW hL hl
      have hui := hun i (Int.le_refl _)
      refine lv_iload hx hb dX0_takeSize_17 (lv_at hl 0 rfl) ?_
      refine lv_iload_n hx hb dX0_takeSize_19 rfl (lv_at hl 3 rfl) ?_
      refine r_icmp_ge (tgt := 87) hx hb ⟨(by omega), (by omega)⟩ ⟨(by omega), (by omega)⟩ dX0_takeSize_20 (by decide) (fun c_4 => ?_) (fun c_4 => ?_)
      · refine lv_aload_n hx hb dX0_takeSize_87 rfl (lv_at hl 4 rfl) ?_
        refine lv_iload_n hx hb dX0_takeSize_88 rfl (lv_at hl 3 rfl) ?_
        refine p_X0_24 Cx hW hL (k := o) (big_l ho) ho dX0_takeSize_89 (fun H locs hW hL => ?_)
        have F_5 : Fr S (uF S17 o 1 (S.1 a 1)) (pB o) := hFm17.F pB_0
        have F_6 : Fr S (uF S17 o 1 (S.1 a 1)) (pB o) := hL17_.F pB_0
        have i_7 : cX G (uF S17 o 1 (S.1 a 1)) o 0 0 := hI17.cnt (exq_s ho) ho ⟨by omega, by omega⟩
        have lk_8 : (uF S17 o 1 (S.1 a 1)).1 o 1 = S.1 a 1 := uF_on
        have q_9 : (-1) ≤ S17.1 o 2 ∧ S17.1 o 2 ≤ 1 := hI17.fi o 2 0 (big_lt ho) ho
        have lk_10 : (uF S17 o 1 (S.1 a 1)).1 o 2 = S17.1 o 2 := uF_ne (fun h => absurd h.2 (by decide))
        exact sVret Cx hr hlk hW hL ⟨i_7, F_5, ⟨uF_on, by rw [uF_i (by decide)]; exact hc.2, (fun q => by have q0 : VR S o ≤ VR S a := q; have cm := hI.fi a 1 0 (big_lt ha) ha; have hcc : S.1 o 1 ≤ S.1 a 1 := (by by_cases z : S.1 o 1 ≤ S.1 a 1; (exact z); (have y := cmp_cnt hI ho ha (by omega) (by omega); exfalso; omega)); have cl := hI.fi o 1 0 (big_lt ho) ho; have hb1 : V (S17.2.1 (o + 1)) 0 i.toNat < pw i.toNat := V_lt (fun j _ _ => limbR hI17 ho j); have e : _ = _ := hval; rw [V_msk (by omega) (by omega), show i = S.1 a 1 by omega] at e; rw [show i = S.1 a 1 by omega] at hb1; have q2 : VR S o ≤ VR S a := q; have p0 := pw_pos (S.1 a 1).toNat; unfold VR at q2 ⊢; rw [uF_on]; show V (S17.2.1 (o + 1)) 0 (S.1 a 1).toNat = _; rw [show S.1 a 1 = S.1 a 1 by omega]; rcases (by omega : bo = 0 ∨ bo = 1) with z | z; (rw [z, Int.zero_mul] at e; omega); (exfalso; rw [z, Int.one_mul] at e; omega))⟩⟩ dX0_takeSize_92
      · refine lv_aload_n hx hb dX0_takeSize_23 rfl (lv_at hl 5 rfl) ?_
        refine g_X0_9 Cx hW (k := a) (big_l ha) ha (v := .ref (G.2.2.1 + (a + 1))) (hI17.rq.1 a ha) dX0_takeSize_24 ?_
        refine lv_iload hx hb dX0_takeSize_27 (lv_at hl 0 rfl) ?_
        refine rIald Cx hW (k := a + 1) (big_l1 ha) (big_row ha).1 (by decide) (by omega) (by omega) dX0_takeSize_29 ?_
        have q_11 := limbR j_1 ha i
        refine r_i (b := S.2.1 (a + 1) i) ((hL17_ (a + 1) (pB_no (tau_ne (big_row ha).1 ho (fun h => by cases h)) (ne1S noa))).2.1 i) ?_
        refine lv_iload hx hb dX0_takeSize_30 (lv_at hl 1 rfl) ?_
        refine r_isub hx hb dX0_takeSize_32 ?_
        refine lv_iload hx hb dX0_takeSize_33 (lv_at hl 0 rfl) ?_
        refine lv_iload hx hb dX0_takeSize_35 (lv_at hl 2 rfl) ?_
        refine r_icmp_ge (tgt := 50) hx hb ⟨(by omega), (by omega)⟩ ⟨(by omega), (by omega)⟩ dX0_takeSize_37 (by decide) (fun c_12 => ?_) (fun c_12 => ?_)
        · refine lv_iconst (v := iv 0) hx hb dX0_takeSize_50 (by decide) ?_
          refine r_isub hx hb dX0_takeSize_51 ?_
          refine lv_istore (lv' := [(7, .int (iv (((S.2.1 (a + 1) i) - bo) - 0))), (6, .int (iv i)), (5, .int (iv bo)), (4, .int (iv (S.1 o 1))), (3, .int (iv (S.1 a 1))), (0, .ref (G.2.2.1 + o)), (1, .ref (G.2.2.1 + a)), (2, .ref (G.2.2.1 + o))]) hx hb dX0_takeSize_52 hl (by decide) rfl (fun ls hl => ?_)
          refine lv_iload hx hb dX0_takeSize_54 (lv_at hl 0 rfl) ?_
          refine r_if_ge (tgt := 63) hx hb ⟨(by omega), (by omega)⟩ dX0_takeSize_56 (by decide) (fun c_13 => ?_) (fun c_13 => ?_)
          · refine lv_iconst (v := iv 0) hx hb dX0_takeSize_63 (by decide) ?_
            refine lv_istore (lv' := [(5, .int (iv 0)), (7, .int (iv (((S.2.1 (a + 1) i) - bo) - 0))), (6, .int (iv i)), (4, .int (iv (S.1 o 1))), (3, .int (iv (S.1 a 1))), (0, .ref (G.2.2.1 + o)), (1, .ref (G.2.2.1 + a)), (2, .ref (G.2.2.1 + o))]) hx hb dX0_takeSize_64 hl (by decide) rfl (fun ls hl => ?_)
            refine lv_aload_n hx hb dX0_takeSize_66 rfl (lv_at hl 5 rfl) ?_
            refine g_X0_9 Cx hW (k := o) (big_l ho) ho (v := .ref (G.2.2.1 + (o + 1))) (hI17.rq.1 o ho) dX0_takeSize_67 ?_
            refine lv_iload hx hb dX0_takeSize_70 (lv_at hl 2 rfl) ?_
            refine lv_iload hx hb dX0_takeSize_72 (lv_at hl 1 rfl) ?_
            refine lv_iload hx hb dX0_takeSize_74 (lv_at hl 0 rfl) ?_
            refine lv_ldc hx hb hown (hts _ w_1293) dX0_takeSize_76 ?_
            refine r_imul hx hb dX0_takeSize_78 ?_
            refine r_i (b := 0) (by omega) ?_
            refine r_iadd hx hb dX0_takeSize_79 ?_
            refine rIast Cx hW hL (k := o + 1) (big_l1 ho) (big_row ho).1 (by decide) (by omega) (by omega) dX0_takeSize_80 (fun H locs hW hL => ?_)
            have F_14 : Fr S (uA S17 (o + 1) i ((((S.2.1 (a + 1) i) - bo) - 0) + 0)) (pB o) := hFm17.A pB_1
            have F_15 : Fr S (uA S17 (o + 1) i ((((S.2.1 (a + 1) i) - bo) - 0) + 0)) (pB o) := hL17_.A pB_1
            have i_16 : cX G (uA S17 (o + 1) i ((((S.2.1 (a + 1) i) - bo) - 0) + 0)) o 0 0 := hI17.limb (Or.inl (exq_s ho)) ho ⟨(by omega), (by omega)⟩
            refine lv_iinc (v := iv (i + 1)) (lv' := [(6, .int (iv (i + 1))), (5, .int (iv 0)), (7, .int (iv (((S.2.1 (a + 1) i) - bo) - 0))), (4, .int (iv (S.1 o 1))), (3, .int (iv (S.1 a 1))), (0, .ref (G.2.2.1 + o)), (1, .ref (G.2.2.1 + a)), (2, .ref (G.2.2.1 + o))]) hx hb dX0_takeSize_81 hl (k := 2) rfl ((Int32.ofInt_add _ _).symm) (by decide) rfl (fun ls hl => ?_)
            refine lv_goto (tgt := 17) hx hb dX0_takeSize_84 (by decide) ?_
            have q_17 : 0 ≤ S17.1 o 1 ∧ S17.1 o 1 ≤ 32 := hI17.fi o 1 0 (big_lt ho) ho
            have lk_18 : (uA S17 (o + 1) i ((((S.2.1 (a + 1) i) - bo) - 0) + 0)).1 o 1 = S17.1 o 1 := uA_f
            have q_19 : (-1) ≤ S17.1 o 2 ∧ S17.1 o 2 ≤ 1 := hI17.fi o 2 0 (big_lt ho) ho
            have lk_20 : (uA S17 (o + 1) i ((((S.2.1 (a + 1) i) - bo) - 0) + 0)).1 o 2 = S17.1 o 2 := uA_f
            exact ih_17 (uA S17 (o + 1) i ((((S.2.1 (a + 1) i) - bo) - 0) + 0)) (i + 1) 0 _ _ _ (by omega) i_16 F_14 F_15 (by omega) (by omega) hc (fun j j0 => by rw [uA_ne (by omega)]; exact hun j (by omega)) (show _ = _ by rw [V_upd (by omega) (by omega), pw_stp (by omega), V_stp (by omega), V_stp (by omega)]; refine msub1 hval ?_; unfold msk; rw [show (0 : Int) + i = i by omega]; split <;> omega) hW hL (lv_sub hl [0, 1, 3, 4, 5, 6, 7] rfl)
          · refine lv_iconst (v := iv 1) hx hb dX0_takeSize_59 (by decide) ?_
            refine lv_goto (tgt := 64) hx hb dX0_takeSize_60 (by decide) ?_
            refine lv_istore (lv' := [(5, .int (iv 1)), (7, .int (iv (((S.2.1 (a + 1) i) - bo) - 0))), (6, .int (iv i)), (4, .int (iv (S.1 o 1))), (3, .int (iv (S.1 a 1))), (0, .ref (G.2.2.1 + o)), (1, .ref (G.2.2.1 + a)), (2, .ref (G.2.2.1 + o))]) hx hb dX0_takeSize_64 hl (by decide) rfl (fun ls hl => ?_)
            refine lv_aload_n hx hb dX0_takeSize_66 rfl (lv_at hl 5 rfl) ?_
            refine g_X0_9 Cx hW (k := o) (big_l ho) ho (v := .ref (G.2.2.1 + (o + 1))) (hI17.rq.1 o ho) dX0_takeSize_67 ?_
            refine lv_iload hx hb dX0_takeSize_70 (lv_at hl 2 rfl) ?_
            refine lv_iload hx hb dX0_takeSize_72 (lv_at hl 1 rfl) ?_
            refine lv_iload hx hb dX0_takeSize_74 (lv_at hl 0 rfl) ?_
            refine lv_ldc hx hb hown (hts _ w_1293) dX0_takeSize_76 ?_
            refine r_imul hx hb dX0_takeSize_78 ?_
            refine r_i (b := 1000000000) (by omega) ?_
            refine r_iadd hx hb dX0_takeSize_79 ?_
            refine rIast Cx hW hL (k := o + 1) (big_l1 ho) (big_row ho).1 (by decide) (by omega) (by omega) dX0_takeSize_80 (fun H locs hW hL => ?_)
            have F_21 : Fr S (uA S17 (o + 1) i ((((S.2.1 (a + 1) i) - bo) - 0) + 1000000000)) (pB o) := hFm17.A pB_1
            have F_22 : Fr S (uA S17 (o + 1) i ((((S.2.1 (a + 1) i) - bo) - 0) + 1000000000)) (pB o) := hL17_.A pB_1
            have i_23 : cX G (uA S17 (o + 1) i ((((S.2.1 (a + 1) i) - bo) - 0) + 1000000000)) o 0 0 := hI17.limb (Or.inl (exq_s ho)) ho ⟨(by omega), (by omega)⟩
            refine lv_iinc (v := iv (i + 1)) (lv' := [(6, .int (iv (i + 1))), (5, .int (iv 1)), (7, .int (iv (((S.2.1 (a + 1) i) - bo) - 0))), (4, .int (iv (S.1 o 1))), (3, .int (iv (S.1 a 1))), (0, .ref (G.2.2.1 + o)), (1, .ref (G.2.2.1 + a)), (2, .ref (G.2.2.1 + o))]) hx hb dX0_takeSize_81 hl (k := 2) rfl ((Int32.ofInt_add _ _).symm) (by decide) rfl (fun ls hl => ?_)
            refine lv_goto (tgt := 17) hx hb dX0_takeSize_84 (by decide) ?_
            have q_24 : 0 ≤ S17.1 o 1 ∧ S17.1 o 1 ≤ 32 := hI17.fi o 1 0 (big_lt ho) ho
            have lk_25 : (uA S17 (o + 1) i ((((S.2.1 (a + 1) i) - bo) - 0) + 1000000000)).1 o 1 = S17.1 o 1 := uA_f
            have q_26 : (-1) ≤ S17.1 o 2 ∧ S17.1 o 2 ≤ 1 := hI17.fi o 2 0 (big_lt ho) ho
            have lk_27 : (uA S17 (o + 1) i ((((S.2.1 (a + 1) i) - bo) - 0) + 1000000000)).1 o 2 = S17.1 o 2 := uA_f
            exact ih_17 (uA S17 (o + 1) i ((((S.2.1 (a + 1) i) - bo) - 0) + 1000000000)) (i + 1) 1 _ _ _ (by omega) i_23 F_21 F_22 (by omega) (by omega) hc (fun j j0 => by rw [uA_ne (by omega)]; exact hun j (by omega)) (show _ = _ by rw [V_upd (by omega) (by omega), pw_stp (by omega), V_stp (by omega), V_stp (by omega)]; refine msub1 hval ?_; unfold msk; rw [show (0 : Int) + i = i by omega]; split <;> omega) hW hL (lv_sub hl [0, 1, 3, 4, 5, 6, 7] rfl)
        · refine lv_aload_n hx hb dX0_takeSize_40 rfl (lv_at hl 6 rfl) ?_
          refine g_X0_9 Cx hW (k := o) (big_l ho) ho (v := .ref (G.2.2.1 + (o + 1))) (hI17.rq.1 o ho) dX0_takeSize_41 ?_
          refine lv_iload hx hb dX0_takeSize_44 (lv_at hl 0 rfl) ?_
          refine rIald Cx hW (k := o + 1) (big_l1 ho) (big_row ho).1 (by decide) (by omega) (by omega) dX0_takeSize_46 ?_
          have q_28 := limbR hI17 ho i
          refine r_i (b := S17.2.1 (o + 1) i) rfl ?_
          refine lv_goto (tgt := 51) hx hb dX0_takeSize_47 (by decide) ?_
          refine r_isub hx hb dX0_takeSize_51 ?_
          refine lv_istore (lv' := [(7, .int (iv (((S.2.1 (a + 1) i) - bo) - (S17.2.1 (o + 1) i)))), (6, .int (iv i)), (5, .int (iv bo)), (4, .int (iv (S.1 o 1))), (3, .int (iv (S.1 a 1))), (0, .ref (G.2.2.1 + o)), (1, .ref (G.2.2.1 + a)), (2, .ref (G.2.2.1 + o))]) hx hb dX0_takeSize_52 hl (by decide) rfl (fun ls hl => ?_)
          refine lv_iload hx hb dX0_takeSize_54 (lv_at hl 0 rfl) ?_
          refine r_if_ge (tgt := 63) hx hb ⟨(by omega), (by omega)⟩ dX0_takeSize_56 (by decide) (fun c_29 => ?_) (fun c_29 => ?_)
          · refine lv_iconst (v := iv 0) hx hb dX0_takeSize_63 (by decide) ?_
            refine lv_istore (lv' := [(5, .int (iv 0)), (7, .int (iv (((S.2.1 (a + 1) i) - bo) - (S17.2.1 (o + 1) i)))), (6, .int (iv i)), (4, .int (iv (S.1 o 1))), (3, .int (iv (S.1 a 1))), (0, .ref (G.2.2.1 + o)), (1, .ref (G.2.2.1 + a)), (2, .ref (G.2.2.1 + o))]) hx hb dX0_takeSize_64 hl (by decide) rfl (fun ls hl => ?_)
            refine lv_aload_n hx hb dX0_takeSize_66 rfl (lv_at hl 5 rfl) ?_
            refine g_X0_9 Cx hW (k := o) (big_l ho) ho (v := .ref (G.2.2.1 + (o + 1))) (hI17.rq.1 o ho) dX0_takeSize_67 ?_
            refine lv_iload hx hb dX0_takeSize_70 (lv_at hl 2 rfl) ?_
            refine lv_iload hx hb dX0_takeSize_72 (lv_at hl 1 rfl) ?_
            refine lv_iload hx hb dX0_takeSize_74 (lv_at hl 0 rfl) ?_
            refine lv_ldc hx hb hown (hts _ w_1293) dX0_takeSize_76 ?_
            refine r_imul hx hb dX0_takeSize_78 ?_
            refine r_i (b := 0) (by omega) ?_
            refine r_iadd hx hb dX0_takeSize_79 ?_
            refine rIast Cx hW hL (k := o + 1) (big_l1 ho) (big_row ho).1 (by decide) (by omega) (by omega) dX0_takeSize_80 (fun H locs hW hL => ?_)
            have F_30 : Fr S (uA S17 (o + 1) i ((((S.2.1 (a + 1) i) - bo) - (S17.2.1 (o + 1) i)) + 0)) (pB o) := hFm17.A pB_1
            have F_31 : Fr S (uA S17 (o + 1) i ((((S.2.1 (a + 1) i) - bo) - (S17.2.1 (o + 1) i)) + 0)) (pB o) := hL17_.A pB_1
            have i_32 : cX G (uA S17 (o + 1) i ((((S.2.1 (a + 1) i) - bo) - (S17.2.1 (o + 1) i)) + 0)) o 0 0 := hI17.limb (Or.inl (exq_s ho)) ho ⟨(by omega), (by omega)⟩
            refine lv_iinc (v := iv (i + 1)) (lv' := [(6, .int (iv (i + 1))), (5, .int (iv 0)), (7, .int (iv (((S.2.1 (a + 1) i) - bo) - (S17.2.1 (o + 1) i)))), (4, .int (iv (S.1 o 1))), (3, .int (iv (S.1 a 1))), (0, .ref (G.2.2.1 + o)), (1, .ref (G.2.2.1 + a)), (2, .ref (G.2.2.1 + o))]) hx hb dX0_takeSize_81 hl (k := 2) rfl ((Int32.ofInt_add _ _).symm) (by decide) rfl (fun ls hl => ?_)
            refine lv_goto (tgt := 17) hx hb dX0_takeSize_84 (by decide) ?_
            have q_33 : 0 ≤ S17.1 o 1 ∧ S17.1 o 1 ≤ 32 := hI17.fi o 1 0 (big_lt ho) ho
            have lk_34 : (uA S17 (o + 1) i ((((S.2.1 (a + 1) i) - bo) - (S17.2.1 (o + 1) i)) + 0)).1 o 1 = S17.1 o 1 := uA_f
            have q_35 : (-1) ≤ S17.1 o 2 ∧ S17.1 o 2 ≤ 1 := hI17.fi o 2 0 (big_lt ho) ho
            have lk_36 : (uA S17 (o + 1) i ((((S.2.1 (a + 1) i) - bo) - (S17.2.1 (o + 1) i)) + 0)).1 o 2 = S17.1 o 2 := uA_f
            exact ih_17 (uA S17 (o + 1) i ((((S.2.1 (a + 1) i) - bo) - (S17.2.1 (o + 1) i)) + 0)) (i + 1) 0 _ _ _ (by omega) i_32 F_30 F_31 (by omega) (by omega) hc (fun j j0 => by rw [uA_ne (by omega)]; exact hun j (by omega)) (show _ = _ by rw [V_upd (by omega) (by omega), pw_stp (by omega), V_stp (by omega), V_stp (by omega)]; refine msub1 hval ?_; unfold msk; rw [show (0 : Int) + i = i by omega]; split <;> omega) hW hL (lv_sub hl [0, 1, 3, 4, 5, 6, 7] rfl)
          · refine lv_iconst (v := iv 1) hx hb dX0_takeSize_59 (by decide) ?_
            refine lv_goto (tgt := 64) hx hb dX0_takeSize_60 (by decide) ?_
            refine lv_istore (lv' := [(5, .int (iv 1)), (7, .int (iv (((S.2.1 (a + 1) i) - bo) - (S17.2.1 (o + 1) i)))), (6, .int (iv i)), (4, .int (iv (S.1 o 1))), (3, .int (iv (S.1 a 1))), (0, .ref (G.2.2.1 + o)), (1, .ref (G.2.2.1 + a)), (2, .ref (G.2.2.1 + o))]) hx hb dX0_takeSize_64 hl (by decide) rfl (fun ls hl => ?_)
            refine lv_aload_n hx hb dX0_takeSize_66 rfl (lv_at hl 5 rfl) ?_
            refine g_X0_9 Cx hW (k := o) (big_l ho) ho (v := .ref (G.2.2.1 + (o + 1))) (hI17.rq.1 o ho) dX0_takeSize_67 ?_
            refine lv_iload hx hb dX0_takeSize_70 (lv_at hl 2 rfl) ?_
            refine lv_iload hx hb dX0_takeSize_72 (lv_at hl 1 rfl) ?_
            refine lv_iload hx hb dX0_takeSize_74 (lv_at hl 0 rfl) ?_
            refine lv_ldc hx hb hown (hts _ w_1293) dX0_takeSize_76 ?_
            refine r_imul hx hb dX0_takeSize_78 ?_
            refine r_i (b := 1000000000) (by omega) ?_
            refine r_iadd hx hb dX0_takeSize_79 ?_
            refine rIast Cx hW hL (k := o + 1) (big_l1 ho) (big_row ho).1 (by decide) (by omega) (by omega) dX0_takeSize_80 (fun H locs hW hL => ?_)
            have F_37 : Fr S (uA S17 (o + 1) i ((((S.2.1 (a + 1) i) - bo) - (S17.2.1 (o + 1) i)) + 1000000000)) (pB o) := hFm17.A pB_1
            have F_38 : Fr S (uA S17 (o + 1) i ((((S.2.1 (a + 1) i) - bo) - (S17.2.1 (o + 1) i)) + 1000000000)) (pB o) := hL17_.A pB_1
            have i_39 : cX G (uA S17 (o + 1) i ((((S.2.1 (a + 1) i) - bo) - (S17.2.1 (o + 1) i)) + 1000000000)) o 0 0 := hI17.limb (Or.inl (exq_s ho)) ho ⟨(by omega), (by omega)⟩
            refine lv_iinc (v := iv (i + 1)) (lv' := [(6, .int (iv (i + 1))), (5, .int (iv 1)), (7, .int (iv (((S.2.1 (a + 1) i) - bo) - (S17.2.1 (o + 1) i)))), (4, .int (iv (S.1 o 1))), (3, .int (iv (S.1 a 1))), (0, .ref (G.2.2.1 + o)), (1, .ref (G.2.2.1 + a)), (2, .ref (G.2.2.1 + o))]) hx hb dX0_takeSize_81 hl (k := 2) rfl ((Int32.ofInt_add _ _).symm) (by decide) rfl (fun ls hl => ?_)
            refine lv_goto (tgt := 17) hx hb dX0_takeSize_84 (by decide) ?_
            have q_40 : 0 ≤ S17.1 o 1 ∧ S17.1 o 1 ≤ 32 := hI17.fi o 1 0 (big_lt ho) ho
            have lk_41 : (uA S17 (o + 1) i ((((S.2.1 (a + 1) i) - bo) - (S17.2.1 (o + 1) i)) + 1000000000)).1 o 1 = S17.1 o 1 := uA_f
            have q_42 : (-1) ≤ S17.1 o 2 ∧ S17.1 o 2 ≤ 1 := hI17.fi o 2 0 (big_lt ho) ho
            have lk_43 : (uA S17 (o + 1) i ((((S.2.1 (a + 1) i) - bo) - (S17.2.1 (o + 1) i)) + 1000000000)).1 o 2 = S17.1 o 2 := uA_f
            exact ih_17 (uA S17 (o + 1) i ((((S.2.1 (a + 1) i) - bo) - (S17.2.1 (o + 1) i)) + 1000000000)) (i + 1) 1 _ _ _ (by omega) i_39 F_37 F_38 (by omega) (by omega) hc (fun j j0 => by rw [uA_ne (by omega)]; exact hun j (by omega)) (show _ = _ by rw [V_upd (by omega) (by omega), pw_stp (by omega), V_stp (by omega), V_stp (by omega)]; refine msub1 hval ?_; unfold msk; rw [show (0 : Int) + i = i by omega]; split <;> omega) hW hL (lv_sub hl [0, 1, 3, 4, 5, 6, 7] rfl)
  have q_44 : (-1) ≤ S.1 o 2 ∧ S.1 o 2 ≤ 1 := j_1.fi o 2 0 (big_lt ho) ho
  exact loop_17 (_ + 1) S 0 0 _ _ _ (Nat.lt_succ_self _) j_1 (Fr.rf : Fr S S (pB o)) Fr.rf (by omega) (by omega) ⟨rfl, rfl⟩ (fun j _ => rfl) (show _ = _ from rfl) hW hL (lv_sub hl [0, 1, 2, 3, 4, 5, 6] rfl)
