theorem bs_fr {S u : sS} {P : pS} {o : Nat} (f : Fr S u P) (h : P o = false) (b : bs S o) : bs u o := by unfold bs; rw [(f o h).1 1, (f o h).1 2]; exact b
theorem bs_F {S : sS} {k i o : Nat} {x : Int} (h : k = o → False) (b : bs S o) : bs (uF S k i x) o := by unfold bs; rw [uF_ne (fun z => h z.1.symm), uF_ne (fun z => h z.1.symm)]; exact b
theorem bs_F0 {S : sS} {k i o : Nat} {x : Int} (h1 : 1 ≠ i) (h2 : 2 ≠ i) (b : bs S o) : bs (uF S k i x) o := by unfold bs; rw [uF_ne (fun z => h1 z.2), uF_ne (fun z => h2 z.2)]; exact b
theorem bv_fr {S u : sS} {P : pS} {o : Nat} (f : Fr S u P) (h1 : P o = false) (h2 : P (o + 1) = false) : bv u o = bv S o := by unfold bv; rw [(f o h1).1 2, VR_fr f h1 h2]
theorem bv_F {S : sS} {k i o : Nat} {x : Int} (h : k = o → False) : bv (uF S k i x) o = bv S o := by unfold bv; rw [uF_ne (fun z => h z.1.symm), VR_F (fun z => h z.1)]
theorem bv_F0 {S : sS} {k i o : Nat} {x : Int} (h1 : 1 ≠ i) (h2 : 2 ≠ i) : bv (uF S k i x) o = bv S o := by unfold bv; rw [uF_ne (fun z => h2 z.2), VR_F (fun z => h1 z.2.symm)]
theorem bv_A {S : sS} {k o : Nat} {i x : Int} (h : k ≠ o + 1) : bv (uA S k i x) o = bv S o := by unfold bv; rw [VR_A h]; rfl
theorem put_bv {u : sS} {o : Nat} {v : Int} (h0 : 0 ≤ v) (hc : 0 ≤ u.1 o 1) (hv : VR u o = v) (hz : v = 0 → u.1 o 1 = 0 ∧ u.1 o 2 = 0) (h1 : 0 < v → u.1 o 2 = 1) : bv u o = v ∧ bs u o := by
  by_cases q : v = 0
  · have e := hz q
    refine ⟨?_, fun z => absurd e.2 z, fun _ => e.1⟩
    unfold bv; rw [e.2, q, Int.zero_mul]
  · have e := h1 (by omega)
    refine ⟨?_, fun _ => VR_c hc (by omega), fun z => by omega⟩
    unfold bv; rw [e, hv, Int.one_mul]
theorem cp_bv {S u : sS} {o a : Nat} (h1 : u.1 o 1 = S.1 a 1) (h2 : u.1 o 2 = S.1 a 2) (h3 : ∀ j, 0 ≤ j → j < S.1 a 1 → u.2.1 (o + 1) j = S.2.1 (a + 1) j) : bv u o = bv S a := by unfold bv; rw [h2, VR_cp h1 h3]
theorem cp_bs {S u : sS} {o a : Nat} (h1 : u.1 o 1 = S.1 a 1) (h2 : u.1 o 2 = S.1 a 2) (h : bs S a) : bs u o := by unfold bs; rw [h1, h2]; exact h
theorem tn_bv {S u : sS} {o : Nat} (h1 : u.1 o 1 = S.1 o 1) (h2 : u.1 o 2 = -S.1 o 2) (h3 : u.2 = S.2) : bv u o = -bv S o := by unfold bv; rw [h2, VR_tn h1 h3, Int.neg_mul]
theorem tn_bs {S u : sS} {o : Nat} (h1 : u.1 o 1 = S.1 o 1) (h2 : u.1 o 2 = -S.1 o 2) (h : bs S o) : bs u o := by
  unfold bs at h ⊢; rw [h1, h2]; exact ⟨fun z => h.1 (by omega), fun z => h.2 (by omega)⟩
theorem nv_mk {f g : Int → Int} {a c s : Int} (hc : 0 ≤ c) (hs : (s < 0 → f a = -c) ∧ (0 ≤ s → f a = c)) (h1 : -1 ≤ s ∧ s ≤ 1) (hz : (s ≠ 0 → 0 < c) ∧ (s = 0 → c = 0)) (hm : ∀ j, 0 ≤ j → j < c → f (a + 1 + j) = g j) : nv f a = s * V g 0 c.toNat := by
  have ha := al_e (f := f) (p := a)
  have hg := sg_e (f := f) (p := a)
  have e : al f a = c := by omega
  unfold nv nu
  rw [e, V_cg (g := g) (t := 0) (fun i i0 i1 => by rw [show (0 : Int) + i = i by omega]; exact hm i i0 (by omega))]
  rcases (by omega : s = -1 ∨ s = 0 ∨ s = 1) with q | q | q
  · rw [hg.1 (by omega), q]
  · rw [hg.2.2 (by omega), q]
  · rw [hg.2.1 (by omega), q]
theorem st_nv {f : Int → Int} {a us v : Int} (h0 : 0 ≤ us) (hv : (0 ≤ v → v = V f (a + 1) us.toNat) ∧ (v < 0 → -v = V f (a + 1) us.toNat)) (hh : (v < 0 → f a = -us) ∧ (0 ≤ v → f a = us)) : nv f a = v := by
  have ha := al_e (f := f) (p := a)
  have hg := sg_e (f := f) (p := a)
  have e : al f a = us := by omega
  unfold nv nu
  rw [e]
  by_cases q : us = 0
  · rw [q] at hv ⊢
    have z : V f (a + 1) (0 : Int).toNat = 0 := rfl
    rw [z] at hv ⊢
    omega
  · by_cases z : v < 0
    · rw [hg.1 (by omega), ← hv.2 z]; omega
    · rw [hg.2.1 (by omega), ← hv.1 (by omega)]; omega
theorem mst {A x w w2 P : Int} (h : w = x + w2 * 1000000000) : A + w * P = A + x * P + w2 * (1000000000 * P) := by subst h; grind
/-- what a division has found, ahead of the signs -/
def DVF (S m : sS) (o b q : Nat) : Prop := VR S o = VR m q * VR S b + VR m o ∧ VR m o < VR S b ∧ (0 ≤ m.1 q 2 ∧ bs m q) ∧ 0 ≤ m.1 o 2 ∧ bs m o
theorem bv_p {S : sS} {o : Nat} (h0 : 0 ≤ S.1 o 2) (h1 : S.1 o 2 ≤ 1) (h : bs S o) : bv S o = VR S o := by
  unfold bv
  by_cases q : S.1 o 2 = 0
  · have e : VR S o = 0 := by unfold VR; rw [h.2 q]; rfl
    rw [q, e, Int.zero_mul]
  · rw [show S.1 o 2 = 1 by omega, Int.one_mul]
theorem bv_n {S : sS} {o : Nat} (h0 : S.1 o 2 < 0) (h1 : -1 ≤ S.1 o 2) : bv S o = -VR S o := by
  unfold bv; rw [show S.1 o 2 = -1 by omega]; omega
theorem ediv_u {a b q r : Int} (h : a = q * b + r) (h0 : 0 ≤ r) (h1 : r < b) : q = a / b ∧ r = a % b := by
  have e := Int.ediv_emod_unique (a := a) (b := b) (r := r) (q := q) (by omega)
  have z := e.mpr ⟨by rw [h, Int.mul_comm]; omega, h0, h1⟩
  exact ⟨z.1.symm, z.2.symm⟩
set_option maxRecDepth 100000 in
set_option maxHeartbeats 4000000 in
theorem b_X0_put (l : Launch) (G : sG) (S : sS) {o : Nat} {v : Int} (hI : cX G S 0 0 0) (ho : tau o = .inl 0) (hv : -9223372036854775808 ≤ v ∧ v ≤ 9223372036854775807) : Met l yX0_put (.code yX0_put cX0_put 6 none :: tb) (rmk 2 0 0) (sPc G 294 S [.ref (G.2.2.1 + o), .long (jv v)]) (sQv G 294 (fun u => cX G u 0 0 0 ∧ Fr S u (pB o) ∧ (u.1 o 1 ≤ 3 ∧ (0 ≤ v → v ≤ 999999999 → u.1 o 1 ≤ 1) ∧ (v = 0 → u.1 o 1 = 0 ∧ u.1 o 2 = 0) ∧ (0 ≤ v → 0 ≤ u.1 o 2) ∧ Hd (0 ≤ v → v ≤ 999999999 → VR u o = v) ∧ Hd (0 ≤ v → v ≤ 999999999 → bv u o = v ∧ bs u o)))) 0 0 (sF G) := by
  refine sEnter (by decide) (Nat.le_of_ble_eq_true rfl) ?_
  intro p e s m args below meth c Cx hr hlk hnm hW ls hl
  have Cx : sC G p m c cX0_put 6 s args RX0 := Cx
  obtain ⟨hx, hb, hml, hown, hts⟩ := id Cx.1
  have hL : sL G [] := sL_nil
  have hl : lv_has ls 6 [(0, .ref (G.2.2.1 + o)), (1, .long (jv v))] := hl
  have hW0 := hW
  have j_1 := hI.exB o
  refine lv_lload_n hx hb dX0_put_0 rfl (lv_at hl 1 rfl) ?_
  refine lv_lstore_n (lv' := [(3, .long (jv v)), (0, .ref (G.2.2.1 + o)), (1, .long (jv v))]) hx hb dX0_put_1 rfl hl (by decide) rfl (fun ls hl => ?_)
  refine lv_aload_n hx hb dX0_put_2 rfl (lv_at hl 1 rfl) ?_
  refine lv_iconst (v := iv 0) hx hb dX0_put_3 (by decide) ?_
  refine p_X0_24 Cx hW hL (k := o) (big_l ho) ho dX0_put_4 (fun H locs hW hL => ?_)
  have F_2 : Fr S (uF S o 1 0) (pB o) := (Fr.rf : Fr S S (pB o)).F pB_0
  have i_3 : cX G (uF S o 1 0) o 0 0 := j_1.cnt (exq_s ho) ho ⟨by omega, by omega⟩
  refine lv_iconst (v := iv 0) hx hb dX0_put_7 (by decide) ?_
  refine lv_istore (lv' := [(5, .int (iv 0)), (3, .long (jv v)), (0, .ref (G.2.2.1 + o)), (1, .long (jv v))]) hx hb dX0_put_8 hl (by decide) rfl (fun ls hl => ?_)
  have loop_10 : ∀ (fuel : Nat) (S10 : sS) (i : Int) (w : Int) (H : Heap) (locs : List Loc) (ls : Array Slot), (3 - i).toNat < fuel → (cX G S10 o 0 0) → (Fr S S10 (pB o)) → (Fr ((uF S o 1 0)) S10 (pB o)) → (0 ≤ i ∧ i ≤ 3) → (-9223372036854775808 ≤ w ∧ w ≤ 9223372036854775807) → (S10.1 o 1 ≤ i) → (0 < S10.1 o 1 → S10.2.1 (o + 1) (S10.1 o 1 - 1) ≠ 0) → (0 ≤ v → v ≤ 999999999 → (i = 0 → w = v) ∧ (1 ≤ i → w = 0 ∧ S10.1 o 1 ≤ 1)) → (v = 0 → w = 0 ∧ S10.1 o 1 = 0) → (Hd (0 ≤ v → v ≤ 999999999 → 1 ≤ i → S10.2.1 (o + 1) 0 = v ∧ (v ≠ 0 → S10.1 o 1 = 1))) → sW G 294 S10 H → sL G locs → lv_has ls 6 [(5, .int (iv i)), (3, .long (jv w)), (0, .ref (G.2.2.1 + o)), (1, .long (jv v))] → W p l e (rmk 2 0 0) s m args below meth c H locs 0 0 (MQ below (sQv G 294 (fun u => cX G u 0 0 0 ∧ Fr S u (pB o) ∧ (u.1 o 1 ≤ 3 ∧ (0 ≤ v → v ≤ 999999999 → u.1 o 1 ≤ 1) ∧ (v = 0 → u.1 o 1 = 0 ∧ u.1 o 2 = 0) ∧ (0 ≤ v → 0 ≤ u.1 o 2) ∧ Hd (0 ≤ v → v ≤ 999999999 → VR u o = v) ∧ Hd (0 ≤ v → v ≤ 999999999 → bv u o = v ∧ bs u o)))) args s 0 0 (sF G)) (F0 m 10 ls []) := by
    intro fuel
    induction fuel with
    | zero => intro S10 i w H locs ls hmeas hI10 hFm10 hL10_ hi hw hc hn hv1 hv0 hl0 hW hL hl; exact absurd hmeas (Nat.not_lt_zero _)
    | succ fuel ih_10 =>
      intro S10 i w H locs ls hmeas hI10 hFm10 hL10_ hi hw hc hn hv1 hv0 hl0 hW hL hl
      refine lv_iload hx hb dX0_put_10 (lv_at hl 0 rfl) ?_
      refine lv_iconst (v := iv 3) hx hb dX0_put_12 (by decide) ?_
      refine r_icmp_ge (tgt := 62) hx hb ⟨(by omega), (by omega)⟩ ⟨(by omega), (by omega)⟩ dX0_put_13 (by decide) (fun c_4 => ?_) (fun c_4 => ?_)
      · refine lv_aload_n hx hb dX0_put_62 rfl (lv_at hl 2 rfl) ?_
        refine lv_lload_n hx hb dX0_put_63 rfl (lv_at hl 3 rfl) ?_
        refine sBi (sSt (As := [.long (jv v)]) (rest := [.ref (G.2.2.1 + o)]) Cx (t_J13_signum_95d88 l G S10 (a := v) (by omega)) (c_X0_28 Cx rfl rfl (rmk_ok (by omega) (by decide))) hW rfl hl.1 rfl (Nat.le_of_ble_eq_true rfl) dX0_put_64 ⟨Nat.le_of_ble_eq_true rfl, Nat.le_of_ble_eq_true rfl⟩) hL (fun r_7 u_5 H locs k_6 hW hL => ?_)
        obtain ⟨eu_5, xu_5⟩ := k_6
        rw [eu_5] at hW
        have yu_5 : (v < 0 → r_7 = -1) ∧ (v = 0 → r_7 = 0) ∧ (0 < v → r_7 = 1) := sgn3 xu_5
        clear xu_5
        refine p_X0_34 Cx hW hL (k := o) (big_l ho) ho dX0_put_67 (fun H locs hW hL => ?_)
        have F_8 : Fr S (uF S10 o 2 r_7) (pB o) := hFm10.F pB_0
        have F_9 : Fr ((uF S o 1 0)) (uF S10 o 2 r_7) (pB o) := hL10_.F pB_0
        have i_10 : cX G (uF S10 o 2 r_7) o 0 0 := hI10.F ho rfl (show (-1) ≤ r_7 ∧ r_7 ≤ 1 from ⟨by omega, by omega⟩)
        have j_11 : cX G (uF S10 o 2 r_7) 0 0 0 := i_10.inB ho (by intro q; rw [uF_i (by decide)] at q ⊢; exact hn q)
        have q_12 : 0 ≤ S10.1 o 1 ∧ S10.1 o 1 ≤ 32 := hI10.fi o 1 0 (big_lt ho) ho
        have lk_13 : (uF S10 o 2 r_7).1 o 1 = S10.1 o 1 := uF_ne (fun h => absurd h.2 (by decide))
        have lk_14 : (uF S10 o 2 r_7).1 o 2 = r_7 := uF_on
        exact sVret Cx hr hlk hW hL ⟨j_11, F_8, ⟨by rw [uF_i (by decide)]; omega, by rw [uF_i (by decide)]; omega, by rw [uF_i (by decide), uF_on]; omega, by rw [uF_on]; omega, fun q1 q2 => by have e := hl0 q1 q2 (by omega); unfold VR; rw [uF_i (by decide)]; exact V_one (fun z => (hv0 z).2) (fun z => ⟨e.2 z, e.1⟩), fun q1 q2 => put_bv q1 (by rw [uF_i (by decide)]; have cu : 0 ≤ S10.1 o 1 ∧ S10.1 o 1 ≤ 32 := hI10.fi o 1 0 (big_lt ho) ho; exact cu.1) (by have e := hl0 q1 q2 (by omega); unfold VR; rw [uF_i (by decide)]; exact V_one (fun z => (hv0 z).2) (fun z => ⟨e.2 z, e.1⟩)) (by rw [uF_i (by decide), uF_on]; omega) (by rw [uF_on]; omega)⟩⟩ dX0_put_70
      · refine lv_aload_n hx hb dX0_put_16 rfl (lv_at hl 2 rfl) ?_
        refine g_X0_9 Cx hW (k := o) (big_l ho) ho (v := .ref (G.2.2.1 + (o + 1))) (hI10.rq.1 o ho) dX0_put_17 ?_
        refine lv_iload hx hb dX0_put_20 (lv_at hl 0 rfl) ?_
        refine lv_lload_n hx hb dX0_put_22 rfl (lv_at hl 1 rfl) ?_
        refine lv_ldc2 hx hb hown (hts _ w_1163) dX0_put_23 ?_
        refine r_lrem hx hb ⟨(by omega), (by omega)⟩ ⟨(by omega), (by omega)⟩ (by omega) dX0_put_26 ?_
        obtain ⟨z_15, ez_15⟩ : ∃ z : Int, z = w.tmod 1000000000 := ⟨_, rfl⟩
        have hz_15 := tmodL (a := w) (b := 1000000000) (by omega)
        rw [← ez_15] at hz_15
        refine r_j (b := z_15) ez_15.symm ?_
        clear ez_15
        refine r_absl hx hb (hml.trans hl.1.symm) hown (hts _ w_1184) (hts _ w_1080) (hts _ w_206) (hts _ w_1081) (rmk_f (by omega)) (rmk_l (by omega) (Nat.le_of_ble_eq_true rfl)) (Nat.le_of_ble_eq_true rfl) (Nat.le_of_ble_eq_true rfl) ⟨(by omega), (by omega)⟩ dX0_put_27 (fun z_16 hz_16 => ?_)
        refine r_l2i hx hb dX0_put_30 ?_
        refine rIast Cx hW hL (k := o + 1) (big_l1 ho) (big_row ho).1 (by decide) (by omega) (by omega) dX0_put_31 (fun H locs hW hL => ?_)
        have F_17 : Fr S (uA S10 (o + 1) i z_16) (pB o) := hFm10.A pB_1
        have F_18 : Fr ((uF S o 1 0)) (uA S10 (o + 1) i z_16) (pB o) := hL10_.A pB_1
        have i_19 : cX G (uA S10 (o + 1) i z_16) o 0 0 := hI10.limb (Or.inl (exq_s ho)) ho ⟨(by omega), (by omega)⟩
        refine lv_lload_n hx hb dX0_put_32 rfl (lv_at hl 1 rfl) ?_
        refine lv_ldc2 hx hb hown (hts _ w_1163) dX0_put_33 ?_
        refine r_ldiv hx hb ⟨(by omega), (by omega)⟩ ⟨(by omega), (by omega)⟩ (by omega) dX0_put_36 ?_
        obtain ⟨z_20, ez_20⟩ : ∃ z : Int, z = w.tdiv 1000000000 := ⟨_, rfl⟩
        have hz_20 := tdivL (a := w) (b := 1000000000) (by omega)
        rw [← ez_20] at hz_20
        refine r_j (b := z_20) ez_20.symm ?_
        clear ez_20
        refine lv_lstore_n (lv' := [(3, .long (jv z_20)), (5, .int (iv i)), (0, .ref (G.2.2.1 + o)), (1, .long (jv v))]) hx hb dX0_put_37 rfl hl (by decide) rfl (fun ls hl => ?_)
        refine lv_aload_n hx hb dX0_put_38 rfl (lv_at hl 2 rfl) ?_
        refine g_X0_9 Cx hW (k := o) (big_l ho) ho (v := .ref (G.2.2.1 + (o + 1))) (i_19.rq.1 o ho) dX0_put_39 ?_
        refine lv_iload hx hb dX0_put_42 (lv_at hl 1 rfl) ?_
        refine rIald Cx hW (k := o + 1) (big_l1 ho) (big_row ho).1 (by decide) (by omega) (by omega) dX0_put_44 ?_
        refine r_i (b := z_16) uA_on ?_
        refine r_if_eq (tgt := 56) hx hb ⟨(by omega), (by omega)⟩ dX0_put_45 (by decide) (fun c_21 => ?_) (fun c_21 => ?_)
        · refine lv_iinc (v := iv (i + 1)) (lv' := [(5, .int (iv (i + 1))), (3, .long (jv z_20)), (0, .ref (G.2.2.1 + o)), (1, .long (jv v))]) hx hb dX0_put_56 hl (k := 1) rfl ((Int32.ofInt_add _ _).symm) (by decide) rfl (fun ls hl => ?_)
          refine lv_goto (tgt := 10) hx hb dX0_put_59 (by decide) ?_
          have q_22 : 0 ≤ S10.1 o 1 ∧ S10.1 o 1 ≤ 32 := hI10.fi o 1 0 (big_lt ho) ho
          have lk_23 : (uA S10 (o + 1) i z_16).1 o 1 = S10.1 o 1 := uA_f
          exact ih_10 (uA S10 (o + 1) i z_16) (i + 1) z_20 _ _ _ (by omega) i_19 F_17 F_18 (by omega) (by omega) (show S10.1 o 1 ≤ _ by omega) (by intro q; show (uA S10 (o + 1) i _).2.1 (o + 1) (S10.1 o 1 - 1) ≠ 0; rw [uA_ne (by have : S10.1 o 1 ≤ i := hc; omega)]; exact hn q) (show 0 ≤ v → v ≤ 999999999 → (_ = 0 → _ = v) ∧ (_ → _ ∧ S10.1 o 1 ≤ 1) by omega) (show v = 0 → _ ∧ S10.1 o 1 = 0 by omega) (fun q1 q2 q3 => by have e1 := hv1 q1 q2; rcases (by omega : i = 0 ∨ 1 ≤ i) with q | q; refine ⟨?_, fun _ => ?_⟩; rw [q, uA_on]; omega; exfalso; omega; have e2 := hl0 q1 q2 q; refine ⟨?_, e2.2⟩; rw [uA_ne (by omega)]; exact e2.1) hW hL (lv_sub hl [0, 1, 2, 3] rfl)
        · refine lv_aload_n hx hb dX0_put_48 rfl (lv_at hl 2 rfl) ?_
          refine lv_iload hx hb dX0_put_49 (lv_at hl 1 rfl) ?_
          refine lv_iconst (v := iv 1) hx hb dX0_put_51 (by decide) ?_
          refine r_iadd hx hb dX0_put_52 ?_
          refine p_X0_24 Cx hW hL (k := o) (big_l ho) ho dX0_put_53 (fun H locs hW hL => ?_)
          have F_24 : Fr S (uF (uA S10 (o + 1) i z_16) o 1 (i + 1)) (pB o) := F_17.F pB_0
          have F_25 : Fr ((uF S o 1 0)) (uF (uA S10 (o + 1) i z_16) o 1 (i + 1)) (pB o) := F_18.F pB_0
          have i_26 : cX G (uF (uA S10 (o + 1) i z_16) o 1 (i + 1)) o 0 0 := i_19.cnt (exq_s ho) ho ⟨by omega, by omega⟩
          refine lv_iinc (v := iv (i + 1)) (lv' := [(5, .int (iv (i + 1))), (3, .long (jv z_20)), (0, .ref (G.2.2.1 + o)), (1, .long (jv v))]) hx hb dX0_put_56 hl (k := 1) rfl ((Int32.ofInt_add _ _).symm) (by decide) rfl (fun ls hl => ?_)
          refine lv_goto (tgt := 10) hx hb dX0_put_59 (by decide) ?_
          have lk_27 : (uF (uA S10 (o + 1) i z_16) o 1 (i + 1)).1 o 1 = i + 1 := uF_on
          exact ih_10 (uF (uA S10 (o + 1) i z_16) o 1 (i + 1)) (i + 1) z_20 _ _ _ (by omega) i_26 F_24 F_25 (by omega) (by omega) (by rw [uF_on]; omega) (by rw [uF_on]; intro q; show (uA S10 (o + 1) i _).2.1 (o + 1) (i + 1 - 1) ≠ 0; rw [show i + 1 - 1 = i by omega, uA_on]; omega) (by rw [uF_on]; omega) (by rw [uF_on]; omega) (fun q1 q2 q3 => by have e1 := hv1 q1 q2; rcases (by omega : i = 0 ∨ 1 ≤ i) with q | q; refine ⟨?_, fun _ => ?_⟩; show (uA S10 (o + 1) i _).2.1 (o + 1) 0 = v; rw [q, uA_on]; omega; rw [uF_on]; omega; exfalso; omega) hW hL (lv_sub hl [0, 1, 2, 3] rfl)
  have lk_28 : (uF S o 1 0).1 o 1 = 0 := uF_on
  exact loop_10 (_ + 1) (uF S o 1 0) 0 v _ _ _ (Nat.lt_succ_self _) i_3 F_2 Fr.rf (by omega) (by omega) (by rw [uF_on]; omega) (by rw [uF_on]; intro q; omega) (by omega) (by rw [uF_on]; omega) (fun _ _ q => absurd q (by omega)) hW hL (lv_sub hl [0, 1, 2, 3] rfl)

set_option maxRecDepth 100000 in
set_option maxHeartbeats 4000000 in
theorem b_X0_load (l : Launch) (G : sG) (S : sS) {o k N : Nat} {a : Int} (hI : cX G S 0 0 0) (ho : tau o = .inl 0) (hk : sla k N) (hat : a % 8 = 0 ∧ 0 ≤ a ∧ a + 7 < N) : Met l yX0_load (.code yX0_load cX0_load 5 none :: tb) (rmk 2 0 0) (sPc G 294 S [.ref (G.2.2.1 + o), .ref (G.2.2.1 + k), .int (iv a)]) (sQv G 294 (fun u => cX G u 0 0 0 ∧ Fr S u (pB o) ∧ (u.1 o 1 ≤ slotL k ∧ (u.1 o 1 = 7 → u.2.1 (o + 1) 6 ≤ slotT k) ∧ (0 ≤ S.2.1 k a → u.1 o 1 = S.2.1 k a) ∧ (S.2.1 k a ≤ 0 → u.1 o 1 = -S.2.1 k a) ∧ (0 < S.2.1 k a → u.1 o 2 = 1) ∧ (S.2.1 k a < 0 → u.1 o 2 = -1) ∧ (S.2.1 k a = 0 → u.1 o 2 = 0) ∧ Hd (bv u o = nv (S.2.1 k) a ∧ bs u o)))) 0 0 (sF G) := by
  refine sEnter (by decide) (Nat.le_of_ble_eq_true rfl) ?_
  intro p e s m args below meth c Cx hr hlk hnm hW ls hl
  have Cx : sC G p m c cX0_load 5 s args RX0 := Cx
  obtain ⟨hx, hb, hml, hown, hts⟩ := id Cx.1
  have hL : sL G [] := sL_nil
  have hl : lv_has ls 5 [(0, .ref (G.2.2.1 + o)), (1, .ref (G.2.2.1 + k)), (2, .int (iv a))] := hl
  have hW0 := hW
  have hss : SlotOK (S.2.1 k) a (slotL k) (slotT k) := hI.sl (by omega) (by omega) (by rw [hk.2.2.2.2.1]; omega)
  have hL7 := slotL7 k
  have hh := hss.1
  have hN5 := hk.2.2.1
  have j_1 := hI.exB o
  refine lv_aload_n hx hb dX0_load_0 rfl (lv_at hl 1 rfl) ?_
  refine lv_iload_n hx hb dX0_load_1 rfl (lv_at hl 2 rfl) ?_
  refine rIald Cx hW (k := k) (Nat.lt_trans hk.1 (by decide)) hk.2.1 (by omega) (by omega) (by omega) dX0_load_2 ?_
  have q_2 : (-2147483648) ≤ S.2.1 k a ∧ S.2.1 k a ≤ 2147483647 := sla_r hk j_1 a 
  refine r_i (b := S.2.1 k a) rfl ?_
  refine lv_istore_n (lv' := [(3, .int (iv (S.2.1 k a))), (0, .ref (G.2.2.1 + o)), (1, .ref (G.2.2.1 + k)), (2, .int (iv a))]) hx hb dX0_load_3 rfl hl (by decide) rfl (fun ls hl => ?_)
  refine lv_aload_n hx hb dX0_load_4 rfl (lv_at hl 1 rfl) ?_
  refine lv_iload_n hx hb dX0_load_5 rfl (lv_at hl 0 rfl) ?_
  refine sBi (sSt (As := [.int (iv (S.2.1 k a))]) (rest := [.ref (G.2.2.1 + o)]) Cx (t_J6_signum_0f7a4 l G S (a := S.2.1 k a) (by omega)) (c_X0_43 Cx rfl rfl (rmk_ok (by omega) (by decide))) hW rfl hl.1 rfl (Nat.le_of_ble_eq_true rfl) dX0_load_6 ⟨Nat.le_of_ble_eq_true rfl, Nat.le_of_ble_eq_true rfl⟩) hL (fun r_5 u_3 H locs k_4 hW hL => ?_)
  obtain ⟨eu_3, xu_3⟩ := k_4
  rw [eu_3] at hW
  have yu_3 : ((S.2.1 k a) < 0 → r_5 = -1) ∧ ((S.2.1 k a) = 0 → r_5 = 0) ∧ (0 < (S.2.1 k a) → r_5 = 1) := sgn3 xu_3
  clear xu_3
  refine p_X0_34 Cx hW hL (k := o) (big_l ho) ho dX0_load_9 (fun H locs hW hL => ?_)
  have F_6 : Fr S (uF S o 2 r_5) (pB o) := (Fr.rf : Fr S S (pB o)).F pB_0
  have i_7 : cX G (uF S o 2 r_5) o 0 0 := j_1.F ho rfl (show (-1) ≤ r_5 ∧ r_5 ≤ 1 from ⟨by omega, by omega⟩)
  refine lv_aload_n hx hb dX0_load_12 rfl (lv_at hl 1 rfl) ?_
  refine lv_iload_n hx hb dX0_load_13 rfl (lv_at hl 0 rfl) ?_
  refine r_abs hx hb (hml.trans hl.1.symm) hown (hts _ w_1155) (hts _ w_1156) (hts _ w_206) (hts _ w_1157) (rmk_f (by omega)) (rmk_l (by omega) (Nat.le_of_ble_eq_true rfl)) (Nat.le_of_ble_eq_true rfl) (Nat.le_of_ble_eq_true rfl) ⟨(by omega), (by omega)⟩ dX0_load_14 (fun z_8 hz_8 => ?_)
  refine lv_bipush (v := iv 7) hx hb dX0_load_17 (by decide) ?_
  refine r_min hx hb (hml.trans hl.1.symm) hown (hts _ w_1158) (hts _ w_777) (hts _ w_206) (hts _ w_778) (rmk_f (by omega)) (rmk_l (by omega) (Nat.le_of_ble_eq_true rfl)) (Nat.le_of_ble_eq_true rfl) (Nat.le_of_ble_eq_true rfl) ⟨(by omega), (by omega)⟩ ⟨(by omega), (by omega)⟩ dX0_load_19 (fun z_9 hz_9 => ?_)
  refine p_X0_24 Cx hW hL (k := o) (big_l ho) ho dX0_load_22 (fun H locs hW hL => ?_)
  have F_10 : Fr S (uF (uF S o 2 r_5) o 1 z_9) (pB o) := F_6.F pB_0
  have i_11 : cX G (uF (uF S o 2 r_5) o 1 z_9) o 0 0 := i_7.cnt (exq_s ho) ho ⟨by omega, by omega⟩
  refine lv_iconst (v := iv 0) hx hb dX0_load_25 (by decide) ?_
  refine lv_istore (lv' := [(4, .int (iv 0)), (3, .int (iv (S.2.1 k a))), (0, .ref (G.2.2.1 + o)), (1, .ref (G.2.2.1 + k)), (2, .int (iv a))]) hx hb dX0_load_26 hl (by decide) rfl (fun ls hl => ?_)
  have loop_28 : ∀ (fuel : Nat) (S28 : sS) (i : Int) (H : Heap) (locs : List Loc) (ls : Array Slot), (S28.1 o 1 - i).toNat < fuel → (cX G S28 o 0 0) → (Fr S S28 (pB o)) → (Fr ((uF (uF S o 2 r_5) o 1 z_9)) S28 (pB o)) → (0 ≤ i ∧ i ≤ S28.1 o 1) → ((0 ≤ S.2.1 k a → S28.1 o 1 = S.2.1 k a) ∧ (S.2.1 k a ≤ 0 → S28.1 o 1 = -S.2.1 k a)) → ((0 < S.2.1 k a → S28.1 o 2 = 1) ∧ (S.2.1 k a < 0 → S28.1 o 2 = -1) ∧ (S.2.1 k a = 0 → S28.1 o 2 = 0)) → (∀ j, 0 ≤ j → j < i → S28.2.1 (o + 1) j = S.2.1 k (a + 1 + j)) → sW G 294 S28 H → sL G locs → lv_has ls 5 [(4, .int (iv i)), (3, .int (iv (S.2.1 k a))), (0, .ref (G.2.2.1 + o)), (1, .ref (G.2.2.1 + k)), (2, .int (iv a))] → W p l e (rmk 2 0 0) s m args below meth c H locs 0 0 (MQ below (sQv G 294 (fun u => cX G u 0 0 0 ∧ Fr S u (pB o) ∧ (u.1 o 1 ≤ slotL k ∧ (u.1 o 1 = 7 → u.2.1 (o + 1) 6 ≤ slotT k) ∧ (0 ≤ S.2.1 k a → u.1 o 1 = S.2.1 k a) ∧ (S.2.1 k a ≤ 0 → u.1 o 1 = -S.2.1 k a) ∧ (0 < S.2.1 k a → u.1 o 2 = 1) ∧ (S.2.1 k a < 0 → u.1 o 2 = -1) ∧ (S.2.1 k a = 0 → u.1 o 2 = 0) ∧ Hd (bv u o = nv (S.2.1 k) a ∧ bs u o)))) args s 0 0 (sF G)) (F0 m 28 ls []) := by
    intro fuel
    induction fuel with
    | zero => intro S28 i H locs ls hmeas hI28 hFm28 hL28_ hi hc hsg hm hW hL hl; exact absurd hmeas (Nat.not_lt_zero _)
    | succ fuel ih_28 =>
      intro S28 i H locs ls hmeas hI28 hFm28 hL28_ hi hc hsg hm hW hL hl
      refine lv_iload hx hb dX0_load_28 (lv_at hl 0 rfl) ?_
      refine lv_aload_n hx hb dX0_load_30 rfl (lv_at hl 2 rfl) ?_
      have q_12 : 0 ≤ S28.1 o 1 ∧ S28.1 o 1 ≤ 32 := hI28.fi o 1 0 (big_lt ho) ho
      refine g_X0_24 Cx hW (k := o) (big_l ho) ho (v := S28.1 o 1) rfl dX0_load_31 ?_
      refine r_icmp_ge (tgt := 58) hx hb ⟨(by omega), (by omega)⟩ ⟨(by omega), (by omega)⟩ dX0_load_34 (by decide) (fun c_13 => ?_) (fun c_13 => ?_)
      · have j_14 : cX G S28 0 0 0 := hI28.inB ho (fun q => by rw [hm _ (by omega) (by omega), show a + 1 + (S28.1 o 1 - 1) = a + S28.1 o 1 by omega]; exact slot_top hss hc q)
        have q_15 : (-1) ≤ S28.1 o 2 ∧ S28.1 o 2 ≤ 1 := j_14.fi o 2 0 (big_lt ho) ho
        exact sVret Cx hr hlk hW hL ⟨j_14, hFm28, ⟨by omega, fun q => by rw [hm 6 (by omega) (by omega), show a + 1 + 6 = a + 7 by omega]; exact hss.2.2.2.2 (by omega), hc.1, hc.2, hsg.1, hsg.2.1, hsg.2.2, (nv_mk (by omega) (by omega) (by omega) (by omega) (fun j j0 j1 => (hm j j0 (by omega)).symm)).symm, (by omega), (by omega)⟩⟩ dX0_load_58
      · refine lv_aload_n hx hb dX0_load_37 rfl (lv_at hl 2 rfl) ?_
        refine g_X0_9 Cx hW (k := o) (big_l ho) ho (v := .ref (G.2.2.1 + (o + 1))) (hI28.rq.1 o ho) dX0_load_38 ?_
        refine lv_iload hx hb dX0_load_41 (lv_at hl 0 rfl) ?_
        refine lv_aload_n hx hb dX0_load_43 rfl (lv_at hl 3 rfl) ?_
        refine lv_iload_n hx hb dX0_load_44 rfl (lv_at hl 4 rfl) ?_
        refine lv_iconst (v := iv 1) hx hb dX0_load_45 (by decide) ?_
        refine r_iadd hx hb dX0_load_46 ?_
        refine lv_iload hx hb dX0_load_47 (lv_at hl 0 rfl) ?_
        refine r_iadd hx hb dX0_load_49 ?_
        refine rIald Cx hW (k := k) (Nat.lt_trans hk.1 (by decide)) hk.2.1 (by omega) (by omega) (by omega) dX0_load_50 ?_
        have q_16 : (-2147483648) ≤ S.2.1 k ((a + 1) + i) ∧ S.2.1 k ((a + 1) + i) ≤ 2147483647 := sla_r hk j_1 ((a + 1) + i) 
        refine r_i (b := S.2.1 k ((a + 1) + i)) (((hL28_ k (pB_no (tau_ne hk.2.1 ho (fun h => by cases h)) (ac_ne hk.2.2.2.1 (big_row ho).2.1 (by decide)))).2.1 ((a + 1) + i)).trans ((uF_a).trans (uF_a))) ?_
        refine rIast Cx hW hL (k := o + 1) (big_l1 ho) (big_row ho).1 (by decide) (by have := hss.2.1 (a + 1 + i) (by omega) (by omega); omega) (by have := hss.2.1 (a + 1 + i) (by omega) (by omega); omega) dX0_load_51 (fun H locs hW hL => ?_)
        have F_17 : Fr S (uA S28 (o + 1) i (S.2.1 k ((a + 1) + i))) (pB o) := hFm28.A pB_1
        have F_18 : Fr ((uF (uF S o 2 r_5) o 1 z_9)) (uA S28 (o + 1) i (S.2.1 k ((a + 1) + i))) (pB o) := hL28_.A pB_1
        have i_19 : cX G (uA S28 (o + 1) i (S.2.1 k ((a + 1) + i))) o 0 0 := hI28.limb (Or.inl (exq_s ho)) ho ⟨(by have := hss.2.1 (a + 1 + i) (by omega) (by omega); omega), (by have := hss.2.1 (a + 1 + i) (by omega) (by omega); omega)⟩
        refine lv_iinc (v := iv (i + 1)) (lv' := [(4, .int (iv (i + 1))), (3, .int (iv (S.2.1 k a))), (0, .ref (G.2.2.1 + o)), (1, .ref (G.2.2.1 + k)), (2, .int (iv a))]) hx hb dX0_load_52 hl (k := 0) rfl ((Int32.ofInt_add _ _).symm) (by decide) rfl (fun ls hl => ?_)
        refine lv_goto (tgt := 28) hx hb dX0_load_55 (by decide) ?_
        have lk_20 : (uA S28 (o + 1) i (S.2.1 k ((a + 1) + i))).1 o 1 = S28.1 o 1 := uA_f
        have q_21 : (-1) ≤ S28.1 o 2 ∧ S28.1 o 2 ≤ 1 := hI28.fi o 2 0 (big_lt ho) ho
        have lk_22 : (uA S28 (o + 1) i (S.2.1 k ((a + 1) + i))).1 o 2 = S28.1 o 2 := uA_f
        exact ih_28 (uA S28 (o + 1) i (S.2.1 k ((a + 1) + i))) (i + 1) _ _ _ (show (S28.1 o 1 - (i + 1)).toNat < fuel by omega) i_19 F_17 F_18 (show 0 ≤ i + 1 ∧ i + 1 ≤ S28.1 o 1 by omega) hc hsg (fun j j0 j1 => by rw [uA_get]; split; rename_i q; rw [q.2]; rename_i q; exact hm j j0 (by omega)) hW hL (lv_sub hl [0, 1, 2, 3, 4] rfl)
  have lk_23 : (uF (uF S o 2 r_5) o 1 z_9).1 o 1 = z_9 := uF_on
  have lk_24 : (uF (uF S o 2 r_5) o 1 z_9).1 o 2 = r_5 := (uF_ne (fun h => absurd h.2 (by decide))).trans (uF_on)
  exact loop_28 (_ + 1) (uF (uF S o 2 r_5) o 1 z_9) 0 _ _ _ (Nat.lt_succ_self _) i_11 F_10 Fr.rf (by rw [uF_on]; omega) (by rw [uF_on]; omega) (by rw [uF_i (by decide), uF_on]; omega) (fun j j0 j1 => absurd j1 (by omega)) hW hL (lv_sub hl [0, 1, 2, 3, 4] rfl)

set_option maxRecDepth 100000 in
set_option maxHeartbeats 4000000 in
theorem b_X0_save (l : Launch) (G : sG) (S : sS) {o k N : Nat} {a : Int} (hI : cX G S 0 0 0) (ho : tau o = .inl 0) (hk : sla k N) (hat : a % 8 = 0 ∧ 0 ≤ a ∧ a + 7 < N) (hcn : S.1 o 1 ≤ slotL k ∧ (S.1 o 1 = 7 → S.2.1 (o + 1) 6 ≤ slotT k)) (hd0 : Hd (dc k → a = 0 → 0 ≤ S.1 o 2)) : Met l yX0_save (.code yX0_save cX0_save 5 none :: tb) (rmk 2 0 0) (sPc G 294 S [.ref (G.2.2.1 + o), .ref (G.2.2.1 + k), .int (iv a)]) (sQv G 294 (fun u => cX G u 0 0 0 ∧ Fr S u (p1 k) ∧ (Hd (bs S o → nv (u.2.1 k) a = bv S o) ∧ Hd (∀ j, j < a ∨ a + 8 ≤ j → u.2.1 k j = S.2.1 k j)))) 0 0 (sF G) := by
  refine sEnter (by decide) (Nat.le_of_ble_eq_true rfl) ?_
  intro p e s m args below meth c Cx hr hlk hnm hW ls hl
  have Cx : sC G p m c cX0_save 5 s args RX0 := Cx
  obtain ⟨hx, hb, hml, hown, hts⟩ := id Cx.1
  have hL : sL G [] := sL_nil
  have hl : lv_has ls 5 [(0, .ref (G.2.2.1 + o)), (1, .ref (G.2.2.1 + k)), (2, .int (iv a))] := hl
  have hW0 := hW
  have hss : SlotOK (S.2.1 k) a (slotL k) (slotT k) := hI.sl (by omega) (by omega) (by rw [hk.2.2.2.2.1]; omega)
  have hL7 := slotL7 k
  have hh := hss.1
  have hN5 := hk.2.2.1
  have hnb := nbH hI ho
  have j_1 := hI.exS k a
  refine lv_aload_n hx hb dX0_save_0 rfl (lv_at hl 0 rfl) ?_
  have q_2 : 0 ≤ S.1 o 1 ∧ S.1 o 1 ≤ 32 := j_1.fi o 1 0 (big_lt ho) ho
  refine g_X0_24 Cx hW (k := o) (big_l ho) ho (v := S.1 o 1) rfl dX0_save_1 ?_
  refine lv_bipush (v := iv 7) hx hb dX0_save_4 (by decide) ?_
  refine r_min hx hb (hml.trans hl.1.symm) hown (hts _ w_1158) (hts _ w_777) (hts _ w_206) (hts _ w_778) (rmk_f (by omega)) (rmk_l (by omega) (Nat.le_of_ble_eq_true rfl)) (Nat.le_of_ble_eq_true rfl) (Nat.le_of_ble_eq_true rfl) ⟨(by omega), (by omega)⟩ ⟨(by omega), (by omega)⟩ dX0_save_6 (fun z_3 hz_3 => ?_)
  refine lv_istore_n (lv' := [(3, .int (iv z_3)), (0, .ref (G.2.2.1 + o)), (1, .ref (G.2.2.1 + k)), (2, .int (iv a))]) hx hb dX0_save_9 rfl hl (by decide) rfl (fun ls hl => ?_)
  refine lv_aload_n hx hb dX0_save_10 rfl (lv_at hl 2 rfl) ?_
  refine lv_iload_n hx hb dX0_save_11 rfl (lv_at hl 3 rfl) ?_
  refine lv_aload_n hx hb dX0_save_12 rfl (lv_at hl 1 rfl) ?_
  have q_4 : (-1) ≤ S.1 o 2 ∧ S.1 o 2 ≤ 1 := j_1.fi o 2 0 (big_lt ho) ho
  refine g_X0_34 Cx hW (k := o) (big_l ho) ho (v := S.1 o 2) rfl dX0_save_13 ?_
  refine r_if_ge (tgt := 24) hx hb ⟨(by omega), (by omega)⟩ dX0_save_16 (by decide) (fun c_5 => ?_) (fun c_5 => ?_)
  · refine lv_iload_n hx hb dX0_save_24 rfl (lv_at hl 0 rfl) ?_
    refine rIast Cx hW hL (k := k) (Nat.lt_trans hk.1 (by decide)) hk.2.1 (by omega) (by omega) (by omega) dX0_save_25 (fun H locs hW hL => ?_)
    have F_6 : Fr S (uA S k a z_3) (p1 k) := (Fr.rf : Fr S S (p1 k)).A p1_0
    have i_7 : cX G (uA S k a z_3) 0 k a := j_1.slot hk.2.2.2.1 ⟨by omega, by omega, by omega⟩ ⟨(by omega), (by omega)⟩ (fun q1 q2 => by have := hd0 q1 (by omega); omega)
    refine lv_iconst (v := iv 0) hx hb dX0_save_26 (by decide) ?_
    refine lv_istore (lv' := [(4, .int (iv 0)), (3, .int (iv z_3)), (0, .ref (G.2.2.1 + o)), (1, .ref (G.2.2.1 + k)), (2, .int (iv a))]) hx hb dX0_save_27 hl (by decide) rfl (fun ls hl => ?_)
    have loop_29 : ∀ (fuel : Nat) (S29 : sS) (i : Int) (H : Heap) (locs : List Loc) (ls : Array Slot), (S.1 o 1 - i).toNat < fuel → (cX G S29 0 k a) → (Fr S S29 (p1 k)) → (Fr ((uA S k a z_3)) S29 (p1 k)) → (0 ≤ i ∧ i ≤ S.1 o 1) → (S29.2.1 k a = S.1 o 1 ∨ S29.2.1 k a = -S.1 o 1) → ((S.1 o 2 < 0 → S29.2.1 k a = -S.1 o 1) ∧ (0 ≤ S.1 o 2 → S29.2.1 k a = S.1 o 1)) → (Hd (∀ j, j < a ∨ a + 8 ≤ j → S29.2.1 k j = S.2.1 k j)) → (∀ i, a < i → i < a + 8 → 0 ≤ S29.2.1 k i ∧ S29.2.1 k i ≤ 999999999) → (∀ j, 0 ≤ j → j < i → S29.2.1 k (a + 1 + j) = S.2.1 (o + 1) j) → sW G 294 S29 H → sL G locs → lv_has ls 5 [(4, .int (iv i)), (3, .int (iv z_3)), (0, .ref (G.2.2.1 + o)), (1, .ref (G.2.2.1 + k)), (2, .int (iv a))] → W p l e (rmk 2 0 0) s m args below meth c H locs 0 0 (MQ below (sQv G 294 (fun u => cX G u 0 0 0 ∧ Fr S u (p1 k) ∧ (Hd (bs S o → nv (u.2.1 k) a = bv S o) ∧ Hd (∀ j, j < a ∨ a + 8 ≤ j → u.2.1 k j = S.2.1 k j)))) args s 0 0 (sF G)) (F0 m 29 ls []) := by
      intro fuel
      induction fuel with
      | zero => intro S29 i H locs ls hmeas hI29 hFm29 hL29_ hi hh2 hh3 hfr hrr hm hW hL hl; exact absurd hmeas (Nat.not_lt_zero _)
      | succ fuel ih_29 =>
        intro S29 i H locs ls hmeas hI29 hFm29 hL29_ hi hh2 hh3 hfr hrr hm hW hL hl
        refine lv_iload hx hb dX0_save_29 (lv_at hl 0 rfl) ?_
        refine lv_iload_n hx hb dX0_save_31 rfl (lv_at hl 1 rfl) ?_
        refine r_icmp_ge (tgt := 56) hx hb ⟨(by omega), (by omega)⟩ ⟨(by omega), (by omega)⟩ dX0_save_32 (by decide) (fun c_8 => ?_) (fun c_8 => ?_)
        · have j_9 : cX G S29 0 0 0 := hI29.inS (fun _ => slot_mk (c := S.1 o 1) hh2 (by omega) hrr (fun q => by rw [show a + S.1 o 1 = a + 1 + (S.1 o 1 - 1) by omega, hm _ (by omega) (by omega)]; exact hnb q) (fun q => by rw [show a + 7 = a + 1 + 6 by omega, hm 6 (by omega) (by omega)]; exact hcn.2 q))
          exact sVret Cx hr hlk hW hL ⟨j_9, hFm29, ⟨fun q => nv_mk (by omega) hh3 (by have so : -1 ≤ S.1 o 2 ∧ S.1 o 2 ≤ 1 := hI.fi o 2 0 (big_lt ho) ho; exact so) q (fun j j0 j1 => hm j j0 (by omega)), hfr⟩⟩ dX0_save_56
        · refine lv_aload_n hx hb dX0_save_35 rfl (lv_at hl 3 rfl) ?_
          refine lv_iload_n hx hb dX0_save_36 rfl (lv_at hl 4 rfl) ?_
          refine lv_iconst (v := iv 1) hx hb dX0_save_37 (by decide) ?_
          refine r_iadd hx hb dX0_save_38 ?_
          refine lv_iload hx hb dX0_save_39 (lv_at hl 0 rfl) ?_
          refine r_iadd hx hb dX0_save_41 ?_
          refine lv_aload_n hx hb dX0_save_42 rfl (lv_at hl 2 rfl) ?_
          refine g_X0_9 Cx hW (k := o) (big_l ho) ho (v := .ref (G.2.2.1 + (o + 1))) (hI29.rq.1 o ho) dX0_save_43 ?_
          refine lv_iload hx hb dX0_save_46 (lv_at hl 0 rfl) ?_
          refine rIald Cx hW (k := o + 1) (big_l1 ho) (big_row ho).1 (by decide) (by omega) (by omega) dX0_save_48 ?_
          have q_10 := limbR j_1 ho i
          refine r_i (b := S.2.1 (o + 1) i) (((hL29_ (o + 1) (p1_no (ac_ne (big_row ho).2.1 hk.2.2.2.1 (by decide)))).2.1 i).trans (uA_ne (fun h => absurd h.1 (ac_ne (big_row ho).2.1 hk.2.2.2.1 (by decide))))) ?_
          refine rIast Cx hW hL (k := k) (Nat.lt_trans hk.1 (by decide)) hk.2.1 (by omega) (by omega) (by omega) dX0_save_49 (fun H locs hW hL => ?_)
          have F_11 : Fr S (uA S29 k ((a + 1) + i) (S.2.1 (o + 1) i)) (p1 k) := hFm29.A p1_0
          have F_12 : Fr ((uA S k a z_3)) (uA S29 k ((a + 1) + i) (S.2.1 (o + 1) i)) (p1 k) := hL29_.A p1_0
          have i_13 : cX G (uA S29 k ((a + 1) + i) (S.2.1 (o + 1) i)) 0 k a := hI29.slot hk.2.2.2.1 ⟨by omega, by omega, by omega⟩ ⟨(by omega), (by omega)⟩ (fun _ q => by omega)
          refine lv_iinc (v := iv (i + 1)) (lv' := [(4, .int (iv (i + 1))), (3, .int (iv z_3)), (0, .ref (G.2.2.1 + o)), (1, .ref (G.2.2.1 + k)), (2, .int (iv a))]) hx hb dX0_save_50 hl (k := 0) rfl ((Int32.ofInt_add _ _).symm) (by decide) rfl (fun ls hl => ?_)
          refine lv_goto (tgt := 29) hx hb dX0_save_53 (by decide) ?_
          exact ih_29 (uA S29 k ((a + 1) + i) (S.2.1 (o + 1) i)) (i + 1) _ _ _ (by omega) i_13 F_11 F_12 (by omega) (by rw [uA_ne (by omega)]; exact hh2) (by rw [uA_ne (by omega)]; exact hh3) (fun j j0 => by rw [uA_ne (by omega)]; exact hfr j j0) (fun j j0 j1 => by rw [uA_get]; split; exact ⟨by omega, by omega⟩; exact hrr j j0 j1) (fun j j0 j1 => by rw [uA_get]; split; rename_i q; rw [show j = i by omega]; rename_i q; exact hm j j0 (by omega)) hW hL (lv_sub hl [0, 1, 2, 3, 4] rfl)
    exact loop_29 (_ + 1) (uA S k a z_3) 0 _ _ _ (Nat.lt_succ_self _) i_7 F_6 Fr.rf (by omega) (by rw [uA_on]; omega) (by rw [uA_on]; omega) (fun j j0 => by rw [uA_ne (by omega)]) (fun j j0 j1 => by rw [uA_ne (by omega)]; exact hss.2.1 j j0 j1) (fun j j0 j1 => absurd j1 (by omega)) hW hL (lv_sub hl [0, 1, 2, 3, 4] rfl)
  · refine lv_iload_n hx hb dX0_save_19 rfl (lv_at hl 0 rfl) ?_
    refine r_ineg hx hb dX0_save_20 ?_
    refine lv_goto (tgt := 25) hx hb dX0_save_21 (by decide) ?_
    refine rIast Cx hW hL (k := k) (Nat.lt_trans hk.1 (by decide)) hk.2.1 (by omega) (by omega) (by omega) dX0_save_25 (fun H locs hW hL => ?_)
    have F_14 : Fr S (uA S k a (-z_3)) (p1 k) := (Fr.rf : Fr S S (p1 k)).A p1_0
    have i_15 : cX G (uA S k a (-z_3)) 0 k a := j_1.slot hk.2.2.2.1 ⟨by omega, by omega, by omega⟩ ⟨(by omega), (by omega)⟩ (fun q1 q2 => by have := hd0 q1 (by omega); omega)
    refine lv_iconst (v := iv 0) hx hb dX0_save_26 (by decide) ?_
    refine lv_istore (lv' := [(4, .int (iv 0)), (3, .int (iv z_3)), (0, .ref (G.2.2.1 + o)), (1, .ref (G.2.2.1 + k)), (2, .int (iv a))]) hx hb dX0_save_27 hl (by decide) rfl (fun ls hl => ?_)
    have loop_29 : ∀ (fuel : Nat) (S29 : sS) (i : Int) (H : Heap) (locs : List Loc) (ls : Array Slot), (S.1 o 1 - i).toNat < fuel → (cX G S29 0 k a) → (Fr S S29 (p1 k)) → (Fr ((uA S k a (-z_3))) S29 (p1 k)) → (0 ≤ i ∧ i ≤ S.1 o 1) → (S29.2.1 k a = S.1 o 1 ∨ S29.2.1 k a = -S.1 o 1) → ((S.1 o 2 < 0 → S29.2.1 k a = -S.1 o 1) ∧ (0 ≤ S.1 o 2 → S29.2.1 k a = S.1 o 1)) → (Hd (∀ j, j < a ∨ a + 8 ≤ j → S29.2.1 k j = S.2.1 k j)) → (∀ i, a < i → i < a + 8 → 0 ≤ S29.2.1 k i ∧ S29.2.1 k i ≤ 999999999) → (∀ j, 0 ≤ j → j < i → S29.2.1 k (a + 1 + j) = S.2.1 (o + 1) j) → sW G 294 S29 H → sL G locs → lv_has ls 5 [(4, .int (iv i)), (3, .int (iv z_3)), (0, .ref (G.2.2.1 + o)), (1, .ref (G.2.2.1 + k)), (2, .int (iv a))] → W p l e (rmk 2 0 0) s m args below meth c H locs 0 0 (MQ below (sQv G 294 (fun u => cX G u 0 0 0 ∧ Fr S u (p1 k) ∧ (Hd (bs S o → nv (u.2.1 k) a = bv S o) ∧ Hd (∀ j, j < a ∨ a + 8 ≤ j → u.2.1 k j = S.2.1 k j)))) args s 0 0 (sF G)) (F0 m 29 ls []) := by
      intro fuel
      induction fuel with
      | zero => intro S29 i H locs ls hmeas hI29 hFm29 hL29_ hi hh2 hh3 hfr hrr hm hW hL hl; exact absurd hmeas (Nat.not_lt_zero _)
      | succ fuel ih_29 =>
        intro S29 i H locs ls hmeas hI29 hFm29 hL29_ hi hh2 hh3 hfr hrr hm hW hL hl
        refine lv_iload hx hb dX0_save_29 (lv_at hl 0 rfl) ?_
        refine lv_iload_n hx hb dX0_save_31 rfl (lv_at hl 1 rfl) ?_
        refine r_icmp_ge (tgt := 56) hx hb ⟨(by omega), (by omega)⟩ ⟨(by omega), (by omega)⟩ dX0_save_32 (by decide) (fun c_16 => ?_) (fun c_16 => ?_)
        · have j_17 : cX G S29 0 0 0 := hI29.inS (fun _ => slot_mk (c := S.1 o 1) hh2 (by omega) hrr (fun q => by rw [show a + S.1 o 1 = a + 1 + (S.1 o 1 - 1) by omega, hm _ (by omega) (by omega)]; exact hnb q) (fun q => by rw [show a + 7 = a + 1 + 6 by omega, hm 6 (by omega) (by omega)]; exact hcn.2 q))
          exact sVret Cx hr hlk hW hL ⟨j_17, hFm29, ⟨fun q => nv_mk (by omega) hh3 (by have so : -1 ≤ S.1 o 2 ∧ S.1 o 2 ≤ 1 := hI.fi o 2 0 (big_lt ho) ho; exact so) q (fun j j0 j1 => hm j j0 (by omega)), hfr⟩⟩ dX0_save_56
        · refine lv_aload_n hx hb dX0_save_35 rfl (lv_at hl 3 rfl) ?_
          refine lv_iload_n hx hb dX0_save_36 rfl (lv_at hl 4 rfl) ?_
          refine lv_iconst (v := iv 1) hx hb dX0_save_37 (by decide) ?_
          refine r_iadd hx hb dX0_save_38 ?_
          refine lv_iload hx hb dX0_save_39 (lv_at hl 0 rfl) ?_
          refine r_iadd hx hb dX0_save_41 ?_
          refine lv_aload_n hx hb dX0_save_42 rfl (lv_at hl 2 rfl) ?_
          refine g_X0_9 Cx hW (k := o) (big_l ho) ho (v := .ref (G.2.2.1 + (o + 1))) (hI29.rq.1 o ho) dX0_save_43 ?_
          refine lv_iload hx hb dX0_save_46 (lv_at hl 0 rfl) ?_
          refine rIald Cx hW (k := o + 1) (big_l1 ho) (big_row ho).1 (by decide) (by omega) (by omega) dX0_save_48 ?_
          have q_18 := limbR j_1 ho i
          refine r_i (b := S.2.1 (o + 1) i) (((hL29_ (o + 1) (p1_no (ac_ne (big_row ho).2.1 hk.2.2.2.1 (by decide)))).2.1 i).trans (uA_ne (fun h => absurd h.1 (ac_ne (big_row ho).2.1 hk.2.2.2.1 (by decide))))) ?_
          refine rIast Cx hW hL (k := k) (Nat.lt_trans hk.1 (by decide)) hk.2.1 (by omega) (by omega) (by omega) dX0_save_49 (fun H locs hW hL => ?_)
          have F_19 : Fr S (uA S29 k ((a + 1) + i) (S.2.1 (o + 1) i)) (p1 k) := hFm29.A p1_0
          have F_20 : Fr ((uA S k a (-z_3))) (uA S29 k ((a + 1) + i) (S.2.1 (o + 1) i)) (p1 k) := hL29_.A p1_0
          have i_21 : cX G (uA S29 k ((a + 1) + i) (S.2.1 (o + 1) i)) 0 k a := hI29.slot hk.2.2.2.1 ⟨by omega, by omega, by omega⟩ ⟨(by omega), (by omega)⟩ (fun _ q => by omega)
          refine lv_iinc (v := iv (i + 1)) (lv' := [(4, .int (iv (i + 1))), (3, .int (iv z_3)), (0, .ref (G.2.2.1 + o)), (1, .ref (G.2.2.1 + k)), (2, .int (iv a))]) hx hb dX0_save_50 hl (k := 0) rfl ((Int32.ofInt_add _ _).symm) (by decide) rfl (fun ls hl => ?_)
          refine lv_goto (tgt := 29) hx hb dX0_save_53 (by decide) ?_
          exact ih_29 (uA S29 k ((a + 1) + i) (S.2.1 (o + 1) i)) (i + 1) _ _ _ (by omega) i_21 F_19 F_20 (by omega) (by rw [uA_ne (by omega)]; exact hh2) (by rw [uA_ne (by omega)]; exact hh3) (fun j j0 => by rw [uA_ne (by omega)]; exact hfr j j0) (fun j j0 j1 => by rw [uA_get]; split; exact ⟨by omega, by omega⟩; exact hrr j j0 j1) (fun j j0 j1 => by rw [uA_get]; split; rename_i q; rw [show j = i by omega]; rename_i q; exact hm j j0 (by omega)) hW hL (lv_sub hl [0, 1, 2, 3, 4] rfl)
    exact loop_29 (_ + 1) (uA S k a (-z_3)) 0 _ _ _ (Nat.lt_succ_self _) i_15 F_14 Fr.rf (by omega) (by rw [uA_on]; omega) (by rw [uA_on]; omega) (fun j j0 => by rw [uA_ne (by omega)]) (fun j j0 j1 => by rw [uA_ne (by omega)]; exact hss.2.1 j j0 j1) (fun j j0 j1 => absurd j1 (by omega)) hW hL (lv_sub hl [0, 1, 2, 3, 4] rfl)

set_option maxRecDepth 100000 in
set_option maxHeartbeats 4000000 in
theorem b_X0_store (l : Launch) (G : sG) (S : sS) {k N : Nat} {a v : Int} (hI : cX G S 0 0 0) (hk : sla k N) (hat : a % 8 = 0 ∧ 0 ≤ a ∧ a + 7 < N) (hv : -9223372036854775807 ≤ v ∧ v ≤ 9223372036854775807) (hd0 : Hd (dc k → a = 0 → 0 ≤ v)) : Met l yX0_store (.code yX0_store cX0_store 8 none :: tb) (rmk 2 0 0) (sPc G 294 S [.ref (G.2.2.1 + k), .int (iv a), .long (jv v)]) (sQv G 294 (fun u => cX G u 0 0 0 ∧ Fr S u (p1 k) ∧ (Hd (nv (u.2.1 k) a = v) ∧ Hd (∀ j, j < a ∨ a + 8 ≤ j → u.2.1 k j = S.2.1 k j)))) 0 0 (sF G) := by
  refine sEnter (by decide) (Nat.le_of_ble_eq_true rfl) ?_
  intro p e s m args below meth c Cx hr hlk hnm hW ls hl
  have Cx : sC G p m c cX0_store 8 s args RX0 := Cx
  obtain ⟨hx, hb, hml, hown, hts⟩ := id Cx.1
  have hL : sL G [] := sL_nil
  have hl : lv_has ls 8 [(0, .ref (G.2.2.1 + k)), (1, .int (iv a)), (2, .long (jv v))] := hl
  have hW0 := hW
  have hss : SlotOK (S.2.1 k) a (slotL k) (slotT k) := hI.sl (by omega) (by omega) (by rw [hk.2.2.2.2.1]; omega)
  have hL6 := slotL6 k
  have hN5 := hk.2.2.1
  have j_1 := hI.exS k a
  refine lv_lload_n hx hb dX0_store_0 rfl (lv_at hl 2 rfl) ?_
  refine r_absl hx hb (hml.trans hl.1.symm) hown (hts _ w_1184) (hts _ w_1080) (hts _ w_206) (hts _ w_1081) (rmk_f (by omega)) (rmk_l (by omega) (Nat.le_of_ble_eq_true rfl)) (Nat.le_of_ble_eq_true rfl) (Nat.le_of_ble_eq_true rfl) ⟨(by omega), (by omega)⟩ dX0_store_1 (fun z_2 hz_2 => ?_)
  refine lv_lstore (lv' := [(4, .long (jv z_2)), (0, .ref (G.2.2.1 + k)), (1, .int (iv a)), (2, .long (jv v))]) hx hb dX0_store_4 hl (by decide) rfl (fun ls hl => ?_)
  refine lv_iconst (v := iv 0) hx hb dX0_store_6 (by decide) ?_
  refine lv_istore (lv' := [(6, .int (iv 0)), (4, .long (jv z_2)), (0, .ref (G.2.2.1 + k)), (1, .int (iv a)), (2, .long (jv v))]) hx hb dX0_store_7 hl (by decide) rfl (fun ls hl => ?_)
  refine lv_iconst (v := iv 1) hx hb dX0_store_9 (by decide) ?_
  refine lv_istore (lv' := [(7, .int (iv 1)), (6, .int (iv 0)), (4, .long (jv z_2)), (0, .ref (G.2.2.1 + k)), (1, .int (iv a)), (2, .long (jv v))]) hx hb dX0_store_10 hl (by decide) rfl (fun ls hl => ?_)
  have loop_12 : ∀ (fuel : Nat) (S12 : sS) (i : Int) (us : Int) (w : Int) (H : Heap) (locs : List Loc) (ls : Array Slot), (4 - i).toNat < fuel → (cX G S12 0 k a) → (Fr S S12 (p1 k)) → (Fr S S12 (p1 k)) → (1 ≤ i ∧ i ≤ 4 ∧ us = i - 1) → (0 ≤ w) → ((i = 1 ∧ w ≤ 9223372036854775807) ∨ (i = 2 ∧ w ≤ 9223372036) ∨ (i = 3 ∧ w ≤ 9) ∨ (i = 4 ∧ w = 0)) → (Hd ((0 ≤ v → v = V (S12.2.1 k) (a + 1) us.toNat + w * pw us.toNat) ∧ (v < 0 → -v = V (S12.2.1 k) (a + 1) us.toNat + w * pw us.toNat))) → (Hd (∀ j, j < a ∨ a + 8 ≤ j → S12.2.1 k j = S.2.1 k j)) → (∀ j, a < j → j < a + 8 → 0 ≤ S12.2.1 k j ∧ S12.2.1 k j ≤ 999999999) → (Hd (0 < us → w = 0 → S12.2.1 k (a + us) ≠ 0)) → sW G 294 S12 H → sL G locs → lv_has ls 8 [(7, .int (iv i)), (6, .int (iv us)), (4, .long (jv w)), (0, .ref (G.2.2.1 + k)), (1, .int (iv a)), (2, .long (jv v))] → W p l e (rmk 2 0 0) s m args below meth c H locs 0 0 (MQ below (sQv G 294 (fun u => cX G u 0 0 0 ∧ Fr S u (p1 k) ∧ (Hd (nv (u.2.1 k) a = v) ∧ Hd (∀ j, j < a ∨ a + 8 ≤ j → u.2.1 k j = S.2.1 k j)))) args s 0 0 (sF G)) (F0 m 12 ls []) := by
    intro fuel
    induction fuel with
    | zero => intro S12 i us w H locs ls hmeas hI12 hFm12 hL12_ hi hw0 hw hvl hfr hrr htp hW hL hl; exact absurd hmeas (Nat.not_lt_zero _)
    | succ fuel ih_12 =>
      intro S12 i us w H locs ls hmeas hI12 hFm12 hL12_ hi hw0 hw hvl hfr hrr htp hW hL hl
      refine lv_iload hx hb dX0_store_12 (lv_at hl 0 rfl) ?_
      refine lv_iconst (v := iv 3) hx hb dX0_store_14 (by decide) ?_
      refine r_icmp_gt (tgt := 56) hx hb ⟨(by omega), (by omega)⟩ ⟨(by omega), (by omega)⟩ dX0_store_15 (by decide) (fun c_3 => ?_) (fun c_3 => ?_)
      · refine lv_aload_n hx hb dX0_store_56 rfl (lv_at hl 3 rfl) ?_
        refine lv_iload_n hx hb dX0_store_57 rfl (lv_at hl 4 rfl) ?_
        refine lv_lload_n hx hb dX0_store_58 rfl (lv_at hl 5 rfl) ?_
        refine lv_lconst (v := jv 0) hx hb dX0_store_59 (by decide) ?_
        refine r_lcmp hx hb ⟨(by omega), (by omega)⟩ ⟨(by omega), (by omega)⟩ dX0_store_60 (fun z_4 az_4 bz_4 cz_4 => ?_)
        refine r_if_ge (tgt := 70) hx hb ⟨(by omega), (by omega)⟩ dX0_store_61 (by decide) (fun c_5 => ?_) (fun c_5 => ?_)
        · refine lv_iload hx hb dX0_store_70 (lv_at hl 1 rfl) ?_
          refine rIast Cx hW hL (k := k) (Nat.lt_trans hk.1 (by decide)) hk.2.1 (by omega) (by omega) (by omega) dX0_store_72 (fun H locs hW hL => ?_)
          have F_6 : Fr S (uA S12 k a us) (p1 k) := hFm12.A p1_0
          have F_7 : Fr S (uA S12 k a us) (p1 k) := hL12_.A p1_0
          have i_8 : cX G (uA S12 k a us) 0 k a := hI12.slot hk.2.2.2.1 ⟨by omega, by omega, by omega⟩ ⟨(by omega), (by omega)⟩ (fun q1 q2 => by have := hd0 q1 (by omega); omega)
          have j_9 : cX G (uA S12 k a us) 0 0 0 := i_8.inS (fun _ => slot_mk (c := us) (by rw [uA_on]; omega) (by omega) (fun j j0 j1 => by rw [uA_ne (by omega)]; exact hrr j j0 j1) (fun q => by rw [uA_ne (by omega)]; exact htp q (by omega)) (fun q => by omega))
          exact sVret Cx hr hlk hW hL ⟨j_9, F_6, ⟨st_nv (us := us) (by omega) (by rw [V_same (by omega)]; have e := hvl; rw [show w = 0 by omega, Int.zero_mul, Int.add_zero] at e; exact e) (by rw [uA_on]; omega), fun j j0 => by rw [uA_ne (by omega)]; exact hfr j j0⟩⟩ dX0_store_73
        · refine lv_iload hx hb dX0_store_64 (lv_at hl 1 rfl) ?_
          refine r_ineg hx hb dX0_store_66 ?_
          refine lv_goto (tgt := 72) hx hb dX0_store_67 (by decide) ?_
          refine rIast Cx hW hL (k := k) (Nat.lt_trans hk.1 (by decide)) hk.2.1 (by omega) (by omega) (by omega) dX0_store_72 (fun H locs hW hL => ?_)
          have F_10 : Fr S (uA S12 k a (-us)) (p1 k) := hFm12.A p1_0
          have F_11 : Fr S (uA S12 k a (-us)) (p1 k) := hL12_.A p1_0
          have i_12 : cX G (uA S12 k a (-us)) 0 k a := hI12.slot hk.2.2.2.1 ⟨by omega, by omega, by omega⟩ ⟨(by omega), (by omega)⟩ (fun q1 q2 => by have := hd0 q1 (by omega); omega)
          have j_13 : cX G (uA S12 k a (-us)) 0 0 0 := i_12.inS (fun _ => slot_mk (c := us) (by rw [uA_on]; omega) (by omega) (fun j j0 j1 => by rw [uA_ne (by omega)]; exact hrr j j0 j1) (fun q => by rw [uA_ne (by omega)]; exact htp q (by omega)) (fun q => by omega))
          exact sVret Cx hr hlk hW hL ⟨j_13, F_10, ⟨st_nv (us := us) (by omega) (by rw [V_same (by omega)]; have e := hvl; rw [show w = 0 by omega, Int.zero_mul, Int.add_zero] at e; exact e) (by rw [uA_on]; omega), fun j j0 => by rw [uA_ne (by omega)]; exact hfr j j0⟩⟩ dX0_store_73
      · refine lv_lload hx hb dX0_store_18 (lv_at hl 2 rfl) ?_
        refine lv_lconst (v := jv 0) hx hb dX0_store_20 (by decide) ?_
        refine r_lcmp hx hb ⟨(by omega), (by omega)⟩ ⟨(by omega), (by omega)⟩ dX0_store_21 (fun z_14 az_14 bz_14 cz_14 => ?_)
        refine r_if_eq (tgt := 56) hx hb ⟨(by omega), (by omega)⟩ dX0_store_22 (by decide) (fun c_15 => ?_) (fun c_15 => ?_)
        · refine lv_aload_n hx hb dX0_store_56 rfl (lv_at hl 3 rfl) ?_
          refine lv_iload_n hx hb dX0_store_57 rfl (lv_at hl 4 rfl) ?_
          refine lv_lload_n hx hb dX0_store_58 rfl (lv_at hl 5 rfl) ?_
          refine lv_lconst (v := jv 0) hx hb dX0_store_59 (by decide) ?_
          refine r_lcmp hx hb ⟨(by omega), (by omega)⟩ ⟨(by omega), (by omega)⟩ dX0_store_60 (fun z_16 az_16 bz_16 cz_16 => ?_)
          refine r_if_ge (tgt := 70) hx hb ⟨(by omega), (by omega)⟩ dX0_store_61 (by decide) (fun c_17 => ?_) (fun c_17 => ?_)
          · refine lv_iload hx hb dX0_store_70 (lv_at hl 1 rfl) ?_
            refine rIast Cx hW hL (k := k) (Nat.lt_trans hk.1 (by decide)) hk.2.1 (by omega) (by omega) (by omega) dX0_store_72 (fun H locs hW hL => ?_)
            have F_18 : Fr S (uA S12 k a us) (p1 k) := hFm12.A p1_0
            have F_19 : Fr S (uA S12 k a us) (p1 k) := hL12_.A p1_0
            have i_20 : cX G (uA S12 k a us) 0 k a := hI12.slot hk.2.2.2.1 ⟨by omega, by omega, by omega⟩ ⟨(by omega), (by omega)⟩ (fun q1 q2 => by have := hd0 q1 (by omega); omega)
            have j_21 : cX G (uA S12 k a us) 0 0 0 := i_20.inS (fun _ => slot_mk (c := us) (by rw [uA_on]; omega) (by omega) (fun j j0 j1 => by rw [uA_ne (by omega)]; exact hrr j j0 j1) (fun q => by rw [uA_ne (by omega)]; exact htp q (by omega)) (fun q => by omega))
            exact sVret Cx hr hlk hW hL ⟨j_21, F_18, ⟨st_nv (us := us) (by omega) (by rw [V_same (by omega)]; have e := hvl; rw [show w = 0 by omega, Int.zero_mul, Int.add_zero] at e; exact e) (by rw [uA_on]; omega), fun j j0 => by rw [uA_ne (by omega)]; exact hfr j j0⟩⟩ dX0_store_73
          · refine lv_iload hx hb dX0_store_64 (lv_at hl 1 rfl) ?_
            refine r_ineg hx hb dX0_store_66 ?_
            refine lv_goto (tgt := 72) hx hb dX0_store_67 (by decide) ?_
            refine rIast Cx hW hL (k := k) (Nat.lt_trans hk.1 (by decide)) hk.2.1 (by omega) (by omega) (by omega) dX0_store_72 (fun H locs hW hL => ?_)
            have F_22 : Fr S (uA S12 k a (-us)) (p1 k) := hFm12.A p1_0
            have F_23 : Fr S (uA S12 k a (-us)) (p1 k) := hL12_.A p1_0
            have i_24 : cX G (uA S12 k a (-us)) 0 k a := hI12.slot hk.2.2.2.1 ⟨by omega, by omega, by omega⟩ ⟨(by omega), (by omega)⟩ (fun q1 q2 => by have := hd0 q1 (by omega); omega)
            have j_25 : cX G (uA S12 k a (-us)) 0 0 0 := i_24.inS (fun _ => slot_mk (c := us) (by rw [uA_on]; omega) (by omega) (fun j j0 j1 => by rw [uA_ne (by omega)]; exact hrr j j0 j1) (fun q => by rw [uA_ne (by omega)]; exact htp q (by omega)) (fun q => by omega))
            exact sVret Cx hr hlk hW hL ⟨j_25, F_22, ⟨st_nv (us := us) (by omega) (by rw [V_same (by omega)]; have e := hvl; rw [show w = 0 by omega, Int.zero_mul, Int.add_zero] at e; exact e) (by rw [uA_on]; omega), fun j j0 => by rw [uA_ne (by omega)]; exact hfr j j0⟩⟩ dX0_store_73
        · refine lv_aload_n hx hb dX0_store_25 rfl (lv_at hl 3 rfl) ?_
          refine lv_iload_n hx hb dX0_store_26 rfl (lv_at hl 4 rfl) ?_
          refine lv_iload hx hb dX0_store_27 (lv_at hl 0 rfl) ?_
          refine r_iadd hx hb dX0_store_29 ?_
          refine lv_lload hx hb dX0_store_30 (lv_at hl 2 rfl) ?_
          refine lv_ldc2 hx hb hown (hts _ w_1163) dX0_store_32 ?_
          refine r_lrem hx hb ⟨(by omega), (by omega)⟩ ⟨(by omega), (by omega)⟩ (by omega) dX0_store_35 ?_
          obtain ⟨z_26, ez_26⟩ : ∃ z : Int, z = w.tmod 1000000000 := ⟨_, rfl⟩
          have hz_26 := tmodL (a := w) (b := 1000000000) (by omega)
          rw [← ez_26] at hz_26
          refine r_j (b := z_26) ez_26.symm ?_
          clear ez_26
          refine r_l2i hx hb dX0_store_36 ?_
          refine rIast Cx hW hL (k := k) (Nat.lt_trans hk.1 (by decide)) hk.2.1 (by omega) (by omega) (by omega) dX0_store_37 (fun H locs hW hL => ?_)
          have F_27 : Fr S (uA S12 k (a + i) z_26) (p1 k) := hFm12.A p1_0
          have F_28 : Fr S (uA S12 k (a + i) z_26) (p1 k) := hL12_.A p1_0
          have i_29 : cX G (uA S12 k (a + i) z_26) 0 k a := hI12.slot hk.2.2.2.1 ⟨by omega, by omega, by omega⟩ ⟨(by omega), (by omega)⟩ (fun _ q => by omega)
          refine lv_lload hx hb dX0_store_38 (lv_at hl 2 rfl) ?_
          refine lv_ldc2 hx hb hown (hts _ w_1163) dX0_store_40 ?_
          refine r_ldiv hx hb ⟨(by omega), (by omega)⟩ ⟨(by omega), (by omega)⟩ (by omega) dX0_store_43 ?_
          obtain ⟨z_30, ez_30⟩ : ∃ z : Int, z = w.tdiv 1000000000 := ⟨_, rfl⟩
          have hz_30 := tdivL (a := w) (b := 1000000000) (by omega)
          rw [← ez_30] at hz_30
          refine r_j (b := z_30) ez_30.symm ?_
          clear ez_30
          refine lv_lstore (lv' := [(4, .long (jv z_30)), (7, .int (iv i)), (6, .int (iv us)), (0, .ref (G.2.2.1 + k)), (1, .int (iv a)), (2, .long (jv v))]) hx hb dX0_store_44 hl (by decide) rfl (fun ls hl => ?_)
          refine lv_iload hx hb dX0_store_46 (lv_at hl 1 rfl) ?_
          refine lv_istore (lv' := [(6, .int (iv i)), (4, .long (jv z_30)), (7, .int (iv i)), (0, .ref (G.2.2.1 + k)), (1, .int (iv a)), (2, .long (jv v))]) hx hb dX0_store_48 hl (by decide) rfl (fun ls hl => ?_)
          refine lv_iinc (v := iv (i + 1)) (lv' := [(7, .int (iv (i + 1))), (6, .int (iv i)), (4, .long (jv z_30)), (0, .ref (G.2.2.1 + k)), (1, .int (iv a)), (2, .long (jv v))]) hx hb dX0_store_50 hl (k := 2) rfl ((Int32.ofInt_add _ _).symm) (by decide) rfl (fun ls hl => ?_)
          refine lv_goto (tgt := 12) hx hb dX0_store_53 (by decide) ?_
          exact ih_12 (uA S12 k (a + i) z_26) (i + 1) i z_30 _ _ _ (by omega) i_29 F_27 F_28 (by omega) (by omega) (by omega) (by rw [show i = us + 1 by omega, V_upd (by omega) (by omega), pw_stp (by omega)]; refine ⟨fun q => ?_, fun q => ?_⟩; (rw [← mst (w := w) (by omega)]; exact hvl.1 q); (rw [← mst (w := w) (by omega)]; exact hvl.2 q)) (fun j j0 => by rw [uA_ne (by omega)]; exact hfr j j0) (fun j j0 j1 => by rw [uA_get]; split; exact ⟨by omega, by omega⟩; exact hrr j j0 j1) (fun q q2 => by rw [uA_on]; omega) hW hL (lv_sub hl [0, 1, 2, 3, 4, 5] rfl)
  exact loop_12 (_ + 1) S 1 0 z_2 _ _ _ (Nat.lt_succ_self _) j_1 (Fr.rf : Fr S S (p1 k)) Fr.rf (by omega) (by omega) (by omega) (by refine ⟨fun q => ?_, fun q => ?_⟩ <;> show _ = (0 : Int) + _ * 1 <;> omega) (fun j j0 => rfl) hss.2.1 (fun q _ => absurd q (by omega)) hW hL (lv_sub hl [0, 1, 2, 3, 4, 5] rfl)

set_option maxRecDepth 100000 in
set_option maxHeartbeats 4000000 in
theorem b_X0_divide (l : Launch) (G : sG) (S : sS) {o b q h : Nat} {n : Int} (hI : cX G S 0 0 0) (ho : tau o = .inl 0) (hbb : tau b = .inl 0) (hq : tau q = .inl 0) (hh : tau h = .inl 0) (nob : Hd (o ≠ b)) (noq : Hd (o ≠ q)) (noh : Hd (o ≠ h)) (nbq : Hd (b ≠ q)) (nbh : Hd (b ≠ h)) (nqh : Hd (q ≠ h)) (hso : Hd (bs S o)) (hsb : Hd (bs S b)) (hn0 : 1 ≤ n ∧ n ≤ 30 ∧ S.1 o 1 ≤ n ∧ S.1 b 1 ≤ 30) : Met l yX0_divide (.code yX0_divide cX0_divide 5 none :: tb) (rmk 4 0 0) (sPc G 294 S [.ref (G.2.2.1 + o), .ref (G.2.2.1 + b), .ref (G.2.2.1 + q), .ref (G.2.2.1 + h)]) (sQv G 294 (fun u => cX G u 0 0 0 ∧ Fr S u (pD o q h) ∧ ((u.1 o 1 ≤ S.1 o 1 ∨ u.1 o 1 ≤ S.1 b 1) ∧ u.1 q 1 ≤ n + 1 ∧ Hd (u.1 q 1 = n + 1 → u.2.1 (q + 1) n ≤ 1) ∧ Hd (0 ≤ S.1 o 2 → u.1 q 1 ≤ n) ∧ (1 ≤ S.1 b 1 → 0 < S.1 b 2 → 0 ≤ u.1 o 2) ∧ (S.1 b 2 ≤ 0 → u.1 o 1 = S.1 o 1 ∧ u.1 o 2 = S.1 o 2) ∧ Hd (0 < S.1 b 2 → bv u q = bv S o / bv S b ∧ bv u o = bv S o % bv S b) ∧ Hd (bs u q) ∧ Hd (bs u o)))) 0 0 (sF G) := by
  refine sEnter (by decide) (Nat.le_of_ble_eq_true rfl) ?_
  intro p e s m args below meth c Cx hr hlk hnm hW ls hl
  have Cx : sC G p m c cX0_divide 5 s args RX0 := Cx
  obtain ⟨hx, hb, hml, hown, hts⟩ := id Cx.1
  have hL : sL G [] := sL_nil
  have hl : lv_has ls 5 [(0, .ref (G.2.2.1 + o)), (1, .ref (G.2.2.1 + b)), (2, .ref (G.2.2.1 + q)), (3, .ref (G.2.2.1 + h))] := hl
  have hW0 := hW
  have sO : -1 ≤ S.1 o 2 ∧ S.1 o 2 ≤ 1 := hI.fi o 2 0 (big_lt ho) ho; have sB : -1 ≤ S.1 b 2 ∧ S.1 b 2 ≤ 1 := hI.fi b 2 0 (big_lt hbb) hbb; have cO : 0 ≤ S.1 o 1 ∧ S.1 o 1 ≤ 32 := hI.fi o 1 0 (big_lt ho) ho; have cB : 0 ≤ S.1 b 1 ∧ S.1 b 1 ≤ 32 := hI.fi b 1 0 (big_lt hbb) hbb; have hso1 := hso.1; have hso2 := hso.2; have hsb1 := hsb.1; have hsb2 := hsb.2
  refine lv_aload_n hx hb dX0_divide_0 rfl (lv_at hl 2 rfl) ?_
  refine lv_lconst (v := jv 0) hx hb dX0_divide_1 (by decide) ?_
  refine sBv (sV (As := [.long (jv 0)]) (rest := []) (k := q) Cx (b_X0_put l G S (o := q) (v := 0) hI hq (by omega)) (c_X0_62 Cx rfl rfl (rmk_ok (by omega) (by decide))) hW (big_l hq) hq rfl rfl hl.1 rfl (Nat.le_of_ble_eq_true rfl) dX0_divide_2 ⟨Nat.le_of_ble_eq_true rfl, Nat.le_of_ble_eq_true rfl⟩) hL (fun u_1 H locs k_2 hW hL => ?_)
  obtain ⟨iu_1, fu_1, xu_1⟩ := k_2
  have F_3 := (Fr.rf : Fr S S (pD o q h)).trans (fu_1.to (pB_sub (pD_2 pB_0) (pD_2 pB_1)))
  have bv_4 : bv u_1 q = 0 := (xu_1.2.2.2.2.2 (by decide) (by decide)).1
  refine lv_aload_n hx hb dX0_divide_5 rfl (lv_at hl 1 rfl) ?_
  have q_5 : (-1) ≤ S.1 b 2 ∧ S.1 b 2 ≤ 1 := hI.fi b 2 0 (big_lt hbb) hbb
  refine g_X0_34 Cx hW (k := b) (big_l hbb) hbb (v := S.1 b 2) ((fu_1 b (pB_no (neD nbq) (tau_ne hbb (big_row hq).1 (fun h => by cases h)))).1 2) dX0_divide_6 ?_
  refine r_if_gt (tgt := 13) hx hb ⟨(by omega), (by omega)⟩ dX0_divide_9 (by decide) (fun c_6 => ?_) (fun c_6 => ?_)
  · refine lv_aload_n hx hb dX0_divide_13 rfl (lv_at hl 0 rfl) ?_
    have q_7 : (-1) ≤ S.1 o 2 ∧ S.1 o 2 ≤ 1 := hI.fi o 2 0 (big_lt ho) ho
    refine g_X0_34 Cx hW (k := o) (big_l ho) ho (v := S.1 o 2) ((fu_1 o (pB_no (neD noq) (tau_ne ho (big_row hq).1 (fun h => by cases h)))).1 2) dX0_divide_14 ?_
    refine r_if_ge (tgt := 24) hx hb ⟨(by omega), (by omega)⟩ dX0_divide_17 (by decide) (fun c_8 => ?_) (fun c_8 => ?_)
    · refine lv_iconst (v := iv 0) hx hb dX0_divide_24 (by decide) ?_
      refine lv_istore (lv' := [(4, .int (iv 0)), (0, .ref (G.2.2.1 + o)), (1, .ref (G.2.2.1 + b)), (2, .ref (G.2.2.1 + q)), (3, .ref (G.2.2.1 + h))]) hx hb dX0_divide_25 hl (by decide) rfl (fun ls hl => ?_)
      refine lv_aload_n hx hb dX0_divide_27 rfl (lv_at hl 1 rfl) ?_
      refine lv_aload_n hx hb dX0_divide_28 rfl (lv_at hl 1 rfl) ?_
      refine g_X0_34 Cx hW (k := o) (big_l ho) ho (v := S.1 o 2) ((fu_1 o (pB_no (neD noq) (tau_ne ho (big_row hq).1 (fun h => by cases h)))).1 2) dX0_divide_29 ?_
      refine r_abs hx hb (hml.trans hl.1.symm) hown (hts _ w_1155) (hts _ w_1156) (hts _ w_206) (hts _ w_1157) (rmk_f (by omega)) (rmk_l (by omega) (Nat.le_of_ble_eq_true rfl)) (Nat.le_of_ble_eq_true rfl) (Nat.le_of_ble_eq_true rfl) ⟨(by omega), (by omega)⟩ dX0_divide_32 (fun z_9 hz_9 => ?_)
      refine p_X0_34 Cx hW hL (k := o) (big_l ho) ho dX0_divide_35 (fun H locs hW hL => ?_)
      have F_10 : Fr S (uF u_1 o 2 z_9) (pD o q h) := F_3.F (pD_1 pB_0)
      have i_11 : cX G (uF u_1 o 2 z_9) 0 0 0 := iu_1.F ho rfl (show (-1) ≤ z_9 ∧ z_9 ≤ 1 from ⟨by omega, by omega⟩)
      refine lv_aload_n hx hb dX0_divide_38 rfl (lv_at hl 2 rfl) ?_
      have q_12 : 0 ≤ S.1 b 1 ∧ S.1 b 1 ≤ 32 := hI.fi b 1 0 (big_lt hbb) hbb
      refine g_X0_24 Cx hW (k := b) (big_l hbb) hbb (v := S.1 b 1) ((uF_ne (fun h => absurd h.2 (by decide))).trans ((fu_1 b (pB_no (neD nbq) (tau_ne hbb (big_row hq).1 (fun h => by cases h)))).1 1)) dX0_divide_39 ?_
      refine lv_iconst (v := iv 1) hx hb dX0_divide_42 (by decide) ?_
      refine r_icmp_ne (tgt := 69) hx hb ⟨(by omega), (by omega)⟩ ⟨(by omega), (by omega)⟩ dX0_divide_43 (by decide) (fun c_13 => ?_) (fun c_13 => ?_)
      · refine lv_aload_n hx hb dX0_divide_69 rfl (lv_at hl 1 rfl) ?_
        refine lv_aload_n hx hb dX0_divide_70 rfl (lv_at hl 2 rfl) ?_
        have lk_14 : (uF u_1 o 2 z_9).1 b 1 = S.1 b 1 := (uF_ne (fun h => absurd h.2 (by decide))).trans ((fu_1 b (pB_no (neD nbq) (tau_ne hbb (big_row hq).1 (fun h => by cases h)))).1 1)
        have q_15 : 0 ≤ S.1 o 1 ∧ S.1 o 1 ≤ 32 := hI.fi o 1 0 (big_lt ho) ho
        have lk_16 : (uF u_1 o 2 z_9).1 o 1 = S.1 o 1 := (uF_ne (fun h => absurd h.2 (by decide))).trans ((fu_1 o (pB_no (neD noq) (tau_ne ho (big_row hq).1 (fun h => by cases h)))).1 1)
        refine sBi (sV (As := [.ref (G.2.2.1 + b)]) (rest := []) (k := o) Cx (b_X0_compareSize l G (uF u_1 o 2 z_9) (o := o) (a := b) i_11 ho hbb) (c_X0_79 Cx rfl rfl (rmk_ok (by omega) (by decide))) hW (big_l ho) ho rfl rfl hl.1 rfl (Nat.le_of_ble_eq_true rfl) dX0_divide_71 ⟨Nat.le_of_ble_eq_true rfl, Nat.le_of_ble_eq_true rfl⟩) hL (fun r_19 u_17 H locs k_18 hW hL => ?_)
        obtain ⟨eu_17, xu_17⟩ := k_18
        rw [eu_17] at hW
        have hkc : Hd (r_19 < 0 → VR (uF u_1 o 2 z_9) o < VR S b) := fun q => by have e := xu_17.2.2.2.2.2.1 q; have e2 : VR (uF u_1 o 2 z_9) b = VR S b := (VR_F (fun h => absurd h.2 (by decide))).trans (VR_fr fu_1 (pB_no (neD nbq) (tau_ne hbb (big_row hq).1 (fun h => by cases h))) (pB_no (tau_ne (big_row hbb).1 hq (fun h => by cases h)) (ne1 nbq))); rw [e2] at e; exact e
        have hkg : Hd (0 ≤ r_19 → VR S b ≤ VR S o) := fun z => by have e1 := xu_17.2.2.2.2.2.2.1; have e2 := xu_17.2.2.2.2.2.2.2; rw [((VR_F (fun h => absurd h.2 (by decide))).trans (VR_fr fu_1 (pB_no (neD noq) (tau_ne ho (big_row hq).1 (fun h => by cases h))) (pB_no (tau_ne (big_row ho).1 hq (fun h => by cases h)) (ne1 noq))) : VR (uF u_1 o 2 z_9) o = VR S o), ((VR_F (fun h => absurd h.2 (by decide))).trans (VR_fr fu_1 (pB_no (neD nbq) (tau_ne hbb (big_row hq).1 (fun h => by cases h))) (pB_no (tau_ne (big_row hbb).1 hq (fun h => by cases h)) (ne1 nbq))) : VR (uF u_1 o 2 z_9) b = VR S b)] at e1 e2; rcases (by omega : r_19 = 0 ∨ 0 < r_19) with y | y; (have := e1 y; omega); (have := e2 y; omega)
        refine r_if_lt (tgt := 84) hx hb ⟨(by omega), (by omega)⟩ dX0_divide_74 (by decide) (fun c_20 => ?_) (fun c_20 => ?_)
        · have q_21 : 0 ≤ u_1.1 q 1 ∧ u_1.1 q 1 ≤ 32 := iu_1.fi q 1 0 (big_lt hq) hq
          have lk_22 : (uF u_1 o 2 z_9).1 q 1 = u_1.1 q 1 := uF_ne (fun h => absurd h.2 (by decide))
          have q_23 : (-1) ≤ u_1.1 q 2 ∧ u_1.1 q 2 ≤ 1 := iu_1.fi q 2 0 (big_lt hq) hq
          have lk_24 : (uF u_1 o 2 z_9).1 q 2 = u_1.1 q 2 := uF_ne (fun h => absurd h.1 (neS noq))
          have lk_25 : (uF u_1 o 2 z_9).1 o 2 = z_9 := uF_on
          have hq0 : VR (uF u_1 o 2 z_9) q = 0 := by unfold VR; rw [show (uF u_1 o 2 z_9).1 q 1 = 0 by omega]; rfl
          have hdv : Hd (DVF S (uF u_1 o 2 z_9) o b q) := ⟨by rw [hq0, Int.zero_mul, Int.zero_add]; exact ((VR_F (fun h => absurd h.2 (by decide))).trans (VR_fr fu_1 (pB_no (neD noq) (tau_ne ho (big_row hq).1 (fun h => by cases h))) (pB_no (tau_ne (big_row ho).1 hq (fun h => by cases h)) (ne1 noq))) : VR (uF u_1 o 2 z_9) o = VR S o).symm, hkc (by omega), ⟨by omega, ⟨fun z => by omega, fun z => by omega⟩⟩, by omega, ⟨fun z => by omega, fun z => by omega⟩⟩
          refine lv_iload hx hb dX0_divide_84 (lv_at hl 0 rfl) ?_
          refine r_if_eq (tgt := 121) hx hb ⟨(by omega), (by omega)⟩ dX0_divide_86 (by decide) (fun _ => ?_) (fun c => absurd (by omega) c)
          exact sVret Cx hr hlk hW hL ⟨i_11, F_10, ⟨by omega, by omega, fun z => absurd z (by omega), fun z => by omega, by omega, by omega, (fun _ => by have d1 := hdv.1; have d2 := hdv.2.1; have tq : 0 ≤ VR (uF u_1 o 2 z_9) q := VR_0 i_11 hq; have to : 0 ≤ VR (uF u_1 o 2 z_9) o := VR_0 i_11 ho; have sq : -1 ≤ (uF u_1 o 2 z_9).1 q 2 ∧ (uF u_1 o 2 z_9).1 q 2 ≤ 1 := i_11.fi q 2 0 (big_lt hq) hq; have so : -1 ≤ (uF u_1 o 2 z_9).1 o 2 ∧ (uF u_1 o 2 z_9).1 o 2 ≤ 1 := i_11.fi o 2 0 (big_lt ho) ho; have eq := bv_p hdv.2.2.1.1 sq.2 hdv.2.2.1.2; have eo := bv_p hdv.2.2.2.1 so.2 hdv.2.2.2.2; have eb : bv S b = VR S b := bv_p (by omega) (by omega) hsb; have e1 := (show bv (uF u_1 o 2 z_9) q = bv (uF u_1 o 2 z_9) q from rfl); have e2 := (show bv (uF u_1 o 2 z_9) o = bv (uF u_1 o 2 z_9) o from rfl); have eS : bv S o = VR S o := bv_p (by omega) (by omega) hso; exact ediv_u (by rw [e1, e2, eq, eo, eS, eb]; exact d1) (by rw [e2, eo]; exact to) (by rw [e2, eo, eb]; exact d2)), (show Hd (bs (uF u_1 o 2 z_9) q) from hdv.2.2.1.2), (show Hd (bs (uF u_1 o 2 z_9) o) from hdv.2.2.2.2)⟩⟩ dX0_divide_121
        · refine lv_aload_n hx hb dX0_divide_77 rfl (lv_at hl 1 rfl) ?_
          refine lv_aload_n hx hb dX0_divide_78 rfl (lv_at hl 2 rfl) ?_
          refine lv_aload_n hx hb dX0_divide_79 rfl (lv_at hl 3 rfl) ?_
          refine lv_aload_n hx hb dX0_divide_80 rfl (lv_at hl 4 rfl) ?_
          have q_26 : 0 ≤ u_1.1 q 1 ∧ u_1.1 q 1 ≤ 32 := iu_1.fi q 1 0 (big_lt hq) hq
          have lk_27 : (uF u_1 o 2 z_9).1 q 1 = u_1.1 q 1 := uF_ne (fun h => absurd h.2 (by decide))
          have q_28 : (-1) ≤ u_1.1 q 2 ∧ u_1.1 q 2 ≤ 1 := iu_1.fi q 2 0 (big_lt hq) hq
          have lk_29 : (uF u_1 o 2 z_9).1 q 2 = u_1.1 q 2 := uF_ne (fun h => absurd h.1 (neS noq))
          have lk_30 : (uF u_1 o 2 z_9).1 o 2 = z_9 := uF_on
          refine sBv (sV (As := [.ref (G.2.2.1 + b), .ref (G.2.2.1 + q), .ref (G.2.2.1 + h)]) (rest := []) (k := o) Cx (b_X0_divideLong l G (uF u_1 o 2 z_9) (o := o) (b := b) (q := q) (h := h) i_11 ho hbb hq hh (neD nob) (neD noq) (neD noh) (neD nbq) (neD nbh) (neD nqh) (by omega) (by omega) (by omega)) (c_X0_94 Cx rfl rfl (rmk_ok (by omega) (by decide))) hW (big_l ho) ho rfl rfl hl.1 rfl (Nat.le_of_ble_eq_true rfl) dX0_divide_81 ⟨Nat.le_of_ble_eq_true rfl, Nat.le_of_ble_eq_true rfl⟩) hL (fun u_31 H locs k_32 hW hL => ?_)
          obtain ⟨iu_31, fu_31, xu_31⟩ := k_32
          have F_33 := F_10.trans fu_31
          have hkd : Hd (1 ≤ S.1 b 1 → VR u_31 o < VR S b) := fun _ => by have e := xu_31.2.2.2.2.1 (by omega) (by omega); have e2 : VR (uF u_1 o 2 z_9) b = VR S b := (VR_F (fun h => absurd h.2 (by decide))).trans (VR_fr fu_1 (pB_no (neD nbq) (tau_ne hbb (big_row hq).1 (fun h => by cases h))) (pB_no (tau_ne (big_row hbb).1 hq (fun h => by cases h)) (ne1 nbq))); rw [e2] at e; exact e
          have dl := xu_31.2.2.2.2.2 (by omega) (by omega)
          have dl1 : VR (uF u_1 o 2 z_9) o = _ := dl.1
          have hob : 0 < S.1 o 1 := by omega
          have dl3 := dl.2.2.1
          have dl4 := dl.2.2.2
          have sU : 0 ≤ u_31.1 o 1 ∧ u_31.1 o 1 ≤ 32 := iu_31.fi o 1 0 (big_lt ho) ho
          have hdv : Hd (DVF S u_31 o b q) := ⟨by have e : VR (uF u_1 o 2 z_9) o = VR u_31 q * VR (uF u_1 o 2 z_9) b + VR u_31 o := dl1; rw [((VR_F (fun h => absurd h.2 (by decide))).trans (VR_fr fu_1 (pB_no (neD noq) (tau_ne ho (big_row hq).1 (fun h => by cases h))) (pB_no (tau_ne (big_row ho).1 hq (fun h => by cases h)) (ne1 noq))) : VR (uF u_1 o 2 z_9) o = VR S o), ((VR_F (fun h => absurd h.2 (by decide))).trans (VR_fr fu_1 (pB_no (neD nbq) (tau_ne hbb (big_row hq).1 (fun h => by cases h))) (pB_no (tau_ne (big_row hbb).1 hq (fun h => by cases h)) (ne1 nbq))) : VR (uF u_1 o 2 z_9) b = VR S b)] at e; exact e, hkd (by omega), ⟨by omega, dl.2.1⟩, by omega, ⟨fun z => by omega, fun z => by omega⟩⟩
          refine lv_iload hx hb dX0_divide_84 (lv_at hl 0 rfl) ?_
          refine r_if_eq (tgt := 121) hx hb ⟨(by omega), (by omega)⟩ dX0_divide_86 (by decide) (fun _ => ?_) (fun c => absurd (by omega) c)
          have q_34 : 0 ≤ u_31.1 o 1 ∧ u_31.1 o 1 ≤ 32 := iu_31.fi o 1 0 (big_lt ho) ho
          have q_35 : 0 ≤ u_31.1 q 1 ∧ u_31.1 q 1 ≤ 32 := iu_31.fi q 1 0 (big_lt hq) hq
          have q_36 : (-1) ≤ u_31.1 o 2 ∧ u_31.1 o 2 ≤ 1 := iu_31.fi o 2 0 (big_lt ho) ho
          exact sVret Cx hr hlk hW hL ⟨iu_31, F_33, ⟨by omega, by omega, fun z => absurd z (by omega), fun z => by omega, by omega, by omega, (fun _ => by have d1 := hdv.1; have d2 := hdv.2.1; have tq : 0 ≤ VR u_31 q := VR_0 iu_31 hq; have to : 0 ≤ VR u_31 o := VR_0 iu_31 ho; have sq : -1 ≤ u_31.1 q 2 ∧ u_31.1 q 2 ≤ 1 := iu_31.fi q 2 0 (big_lt hq) hq; have so : -1 ≤ u_31.1 o 2 ∧ u_31.1 o 2 ≤ 1 := iu_31.fi o 2 0 (big_lt ho) ho; have eq := bv_p hdv.2.2.1.1 sq.2 hdv.2.2.1.2; have eo := bv_p hdv.2.2.2.1 so.2 hdv.2.2.2.2; have eb : bv S b = VR S b := bv_p (by omega) (by omega) hsb; have e1 := (show bv u_31 q = bv u_31 q from rfl); have e2 := (show bv u_31 o = bv u_31 o from rfl); have eS : bv S o = VR S o := bv_p (by omega) (by omega) hso; exact ediv_u (by rw [e1, e2, eq, eo, eS, eb]; exact d1) (by rw [e2, eo]; exact to) (by rw [e2, eo, eb]; exact d2)), (show Hd (bs u_31 q) from hdv.2.2.1.2), (show Hd (bs u_31 o) from hdv.2.2.2.2)⟩⟩ dX0_divide_121
      · have hb0 : S.2.1 (b + 1) 0 ≠ 0 := by have e := nbH hI hbb (by omega); rw [show S.1 b 1 - 1 = 0 by omega] at e; exact e
        have hb00 := limbR hI hbb 0
        refine lv_aload_n hx hb dX0_divide_46 rfl (lv_at hl 3 rfl) ?_
        refine lv_aload_n hx hb dX0_divide_47 rfl (lv_at hl 1 rfl) ?_
        have q_37 : 0 ≤ S.1 o 1 ∧ S.1 o 1 ≤ 32 := hI.fi o 1 0 (big_lt ho) ho
        have lk_38 : (uF u_1 o 2 z_9).1 o 1 = S.1 o 1 := (uF_ne (fun h => absurd h.2 (by decide))).trans ((fu_1 o (pB_no (neD noq) (tau_ne ho (big_row hq).1 (fun h => by cases h)))).1 1)
        have lk_39 : (uF u_1 o 2 z_9).1 o 2 = z_9 := uF_on
        refine sBv (sV (As := [.ref (G.2.2.1 + o)]) (rest := []) (k := q) Cx (s_X0_copy l G (uF u_1 o 2 z_9) (o := q) (a := o) i_11 hq ho) (c_X0_72 Cx rfl rfl (rmk_ok (by omega) (by decide))) hW (big_l hq) hq rfl rfl hl.1 rfl (Nat.le_of_ble_eq_true rfl) dX0_divide_48 ⟨Nat.le_of_ble_eq_true rfl, Nat.le_of_ble_eq_true rfl⟩) hL (fun u_40 H locs k_41 hW hL => ?_)
        obtain ⟨iu_40, fu_40, xu_40⟩ := k_41
        have F_42 := F_10.trans (fu_40.to (pB_sub (pD_2 pB_0) (pD_2 pB_1)))
        have bv_43 : bv u_40 q = bv (uF u_1 o 2 z_9) o := (cp_bv xu_40.1 xu_40.2.1 xu_40.2.2).trans ((show bv (uF u_1 o 2 z_9) o = bv (uF u_1 o 2 z_9) o from rfl))
        refine lv_aload_n hx hb dX0_divide_51 rfl (lv_at hl 1 rfl) ?_
        refine lv_aload_n hx hb dX0_divide_52 rfl (lv_at hl 3 rfl) ?_
        refine lv_aload_n hx hb dX0_divide_53 rfl (lv_at hl 2 rfl) ?_
        refine g_X0_9 Cx hW (k := b) (big_l hbb) hbb (v := .ref (G.2.2.1 + (b + 1))) (iu_40.rq.1 b hbb) dX0_divide_54 ?_
        refine lv_iconst (v := iv 0) hx hb dX0_divide_57 (by decide) ?_
        refine rIald Cx hW (k := b + 1) (big_l1 hbb) (big_row hbb).1 (by decide) (by omega) (by omega) dX0_divide_58 ?_
        have q_44 := limbR hI hbb 0
        refine r_i (b := S.2.1 (b + 1) 0) (((fu_40 (b + 1) (pB_no (tau_ne (big_row hbb).1 hq (fun h => by cases h)) (ne1 nbq))).2.1 0).trans ((uF_a).trans ((fu_1 (b + 1) (pB_no (tau_ne (big_row hbb).1 hq (fun h => by cases h)) (ne1 nbq))).2.1 0))) ?_
        have q_45 : 0 ≤ u_40.1 q 1 ∧ u_40.1 q 1 ≤ 32 := iu_40.fi q 1 0 (big_lt hq) hq
        have q_46 : (-1) ≤ u_40.1 q 2 ∧ u_40.1 q 2 ≤ 1 := iu_40.fi q 2 0 (big_lt hq) hq
        refine sBi (sV (As := [.int (iv (S.2.1 (b + 1) 0))]) (rest := [.ref (G.2.2.1 + o)]) (k := q) Cx (b_X0_reduce l G u_40 (o := q) (y := S.2.1 (b + 1) 0) iu_40 hq (by omega)) (c_X0_91 Cx rfl rfl (rmk_ok (by omega) (by decide))) hW (big_l hq) hq rfl rfl hl.1 rfl (Nat.le_of_ble_eq_true rfl) dX0_divide_59 ⟨Nat.le_of_ble_eq_true rfl, Nat.le_of_ble_eq_true rfl⟩) hL (fun r_49 u_47 H locs k_48 hW hL => ?_)
        obtain ⟨iu_47, fu_47, xu_47⟩ := k_48
        have F_50 := F_42.trans (fu_47.to (pB_sub (pD_2 pB_0) (pD_2 pB_1)))
        refine r_i2l hx hb ⟨(by omega), (by omega)⟩ dX0_divide_62 ?_
        refine sBv (sV (As := [.long (jv r_49)]) (rest := []) (k := o) Cx (b_X0_put l G u_47 (o := o) (v := r_49) iu_47 ho (by omega)) (c_X0_62 Cx rfl rfl (rmk_ok (by omega) (by decide))) hW (big_l ho) ho rfl rfl hl.1 rfl (Nat.le_of_ble_eq_true rfl) dX0_divide_63 ⟨Nat.le_of_ble_eq_true rfl, Nat.le_of_ble_eq_true rfl⟩) hL (fun u_51 H locs k_52 hW hL => ?_)
        obtain ⟨iu_51, fu_51, xu_51⟩ := k_52
        have F_53 := F_50.trans (fu_51.to (pB_sub (pD_1 pB_0) (pD_1 pB_1)))
        have bv_54 : bv u_51 o = r_49 := (xu_51.2.2.2.2.2 (by omega) (by omega)).1
        have hkd : Hd (1 ≤ S.1 b 1 → VR u_51 o < VR S b) := fun _ => by rw [xu_51.2.2.2.2.1 (by omega) (by omega)]; have e := (xu_47.2.2.2.2.1 (by omega)).1; have e2 : VR S b = S.2.1 (b + 1) 0 := (by unfold VR; rw [show S.1 b 1 = 1 by omega]; show 0 + S.2.1 (b + 1) (0 + ((0 : Nat) : Int)) * 1 = _; rw [show (0 : Int) + ((0 : Nat) : Int) = 0 by omega]; omega); omega
        have q_55 : 0 ≤ u_47.1 q 1 ∧ u_47.1 q 1 ≤ 32 := iu_47.fi q 1 0 (big_lt hq) hq
        have lk_56 : u_51.1 q 1 = u_47.1 q 1 := (fu_51 q (pB_no (neS noq) (tau_ne hq (big_row ho).1 (fun h => by cases h)))).1 1
        have q_57 : (-1) ≤ u_47.1 q 2 ∧ u_47.1 q 2 ≤ 1 := iu_47.fi q 2 0 (big_lt hq) hq
        have lk_58 : u_51.1 q 2 = u_47.1 q 2 := (fu_51 q (pB_no (neS noq) (tau_ne hq (big_row ho).1 (fun h => by cases h)))).1 2
        have rd1 := (xu_47.2.2.2.2.1 (by omega)).2
        have rd2 := xu_47.2.2.2.2.2 (by omega)
        have pt := xu_51.2.2.2.2.2 (by omega) (by omega)
        have sQ : 0 ≤ u_47.1 q 1 ∧ u_47.1 q 1 ≤ 32 := iu_47.fi q 1 0 (big_lt hq) hq
        have hdv : Hd (DVF S u_51 o b q) := ⟨by have e1 : VR u_51 q = VR u_47 q := VR_fr fu_51 (pB_no (neS noq) (tau_ne hq (big_row ho).1 (fun h => by cases h))) (pB_no (tau_ne (big_row hq).1 ho (fun h => by cases h)) (ne1S noq)); have e2 : VR (uF u_1 o 2 z_9) o = VR S o := (VR_F (fun h => absurd h.2 (by decide))).trans (VR_fr fu_1 (pB_no (neD noq) (tau_ne ho (big_row hq).1 (fun h => by cases h))) (pB_no (tau_ne (big_row ho).1 hq (fun h => by cases h)) (ne1 noq))); have e3 := VR_cp xu_40.1 xu_40.2.2; have e4 : VR u_51 o = r_49 := xu_51.2.2.2.2.1 (by omega) (by omega); have e5 : VR S b = S.2.1 (b + 1) 0 := (by unfold VR; rw [show S.1 b 1 = 1 by omega]; show 0 + S.2.1 (b + 1) (0 + ((0 : Nat) : Int)) * 1 = _; rw [show (0 : Int) + ((0 : Nat) : Int) = 0 by omega]; omega); rw [e1, e4, e5, Int.mul_comm, rd1, e3, e2], hkd (by omega), ⟨by omega, ⟨fun z => by omega, fun z => by omega⟩⟩, by omega, pt.2⟩
        refine lv_goto (tgt := 84) hx hb dX0_divide_66 (by decide) ?_
        refine lv_iload hx hb dX0_divide_84 (lv_at hl 0 rfl) ?_
        refine r_if_eq (tgt := 121) hx hb ⟨(by omega), (by omega)⟩ dX0_divide_86 (by decide) (fun _ => ?_) (fun c => absurd (by omega) c)
        have q_59 : 0 ≤ u_51.1 o 1 ∧ u_51.1 o 1 ≤ 32 := iu_51.fi o 1 0 (big_lt ho) ho
        have q_60 : (-1) ≤ u_51.1 o 2 ∧ u_51.1 o 2 ≤ 1 := iu_51.fi o 2 0 (big_lt ho) ho
        exact sVret Cx hr hlk hW hL ⟨iu_51, F_53, ⟨by omega, by omega, fun z => absurd z (by omega), fun z => by omega, by omega, by omega, (fun _ => by have d1 := hdv.1; have d2 := hdv.2.1; have tq : 0 ≤ VR u_51 q := VR_0 iu_51 hq; have to : 0 ≤ VR u_51 o := VR_0 iu_51 ho; have sq : -1 ≤ u_51.1 q 2 ∧ u_51.1 q 2 ≤ 1 := iu_51.fi q 2 0 (big_lt hq) hq; have so : -1 ≤ u_51.1 o 2 ∧ u_51.1 o 2 ≤ 1 := iu_51.fi o 2 0 (big_lt ho) ho; have eq := bv_p hdv.2.2.1.1 sq.2 hdv.2.2.1.2; have eo := bv_p hdv.2.2.2.1 so.2 hdv.2.2.2.2; have eb : bv S b = VR S b := bv_p (by omega) (by omega) hsb; have e1 := (show bv u_51 q = bv u_51 q from rfl); have e2 := (show bv u_51 o = bv u_51 o from rfl); have eS : bv S o = VR S o := bv_p (by omega) (by omega) hso; exact ediv_u (by rw [e1, e2, eq, eo, eS, eb]; exact d1) (by rw [e2, eo]; exact to) (by rw [e2, eo, eb]; exact d2)), (show Hd (bs u_51 q) from hdv.2.2.1.2), (show Hd (bs u_51 o) from hdv.2.2.2.2)⟩⟩ dX0_divide_121
    · refine lv_iconst (v := iv 1) hx hb dX0_divide_20 (by decide) ?_
      refine lv_goto (tgt := 25) hx hb dX0_divide_21 (by decide) ?_
      refine lv_istore (lv' := [(4, .int (iv 1)), (0, .ref (G.2.2.1 + o)), (1, .ref (G.2.2.1 + b)), (2, .ref (G.2.2.1 + q)), (3, .ref (G.2.2.1 + h))]) hx hb dX0_divide_25 hl (by decide) rfl (fun ls hl => ?_)
      refine lv_aload_n hx hb dX0_divide_27 rfl (lv_at hl 1 rfl) ?_
      refine lv_aload_n hx hb dX0_divide_28 rfl (lv_at hl 1 rfl) ?_
      refine g_X0_34 Cx hW (k := o) (big_l ho) ho (v := S.1 o 2) ((fu_1 o (pB_no (neD noq) (tau_ne ho (big_row hq).1 (fun h => by cases h)))).1 2) dX0_divide_29 ?_
      refine r_abs hx hb (hml.trans hl.1.symm) hown (hts _ w_1155) (hts _ w_1156) (hts _ w_206) (hts _ w_1157) (rmk_f (by omega)) (rmk_l (by omega) (Nat.le_of_ble_eq_true rfl)) (Nat.le_of_ble_eq_true rfl) (Nat.le_of_ble_eq_true rfl) ⟨(by omega), (by omega)⟩ dX0_divide_32 (fun z_61 hz_61 => ?_)
      refine p_X0_34 Cx hW hL (k := o) (big_l ho) ho dX0_divide_35 (fun H locs hW hL => ?_)
      have F_62 : Fr S (uF u_1 o 2 z_61) (pD o q h) := F_3.F (pD_1 pB_0)
      have i_63 : cX G (uF u_1 o 2 z_61) 0 0 0 := iu_1.F ho rfl (show (-1) ≤ z_61 ∧ z_61 ≤ 1 from ⟨by omega, by omega⟩)
      refine lv_aload_n hx hb dX0_divide_38 rfl (lv_at hl 2 rfl) ?_
      have q_64 : 0 ≤ S.1 b 1 ∧ S.1 b 1 ≤ 32 := hI.fi b 1 0 (big_lt hbb) hbb
      refine g_X0_24 Cx hW (k := b) (big_l hbb) hbb (v := S.1 b 1) ((uF_ne (fun h => absurd h.2 (by decide))).trans ((fu_1 b (pB_no (neD nbq) (tau_ne hbb (big_row hq).1 (fun h => by cases h)))).1 1)) dX0_divide_39 ?_
      refine lv_iconst (v := iv 1) hx hb dX0_divide_42 (by decide) ?_
      refine r_icmp_ne (tgt := 69) hx hb ⟨(by omega), (by omega)⟩ ⟨(by omega), (by omega)⟩ dX0_divide_43 (by decide) (fun c_65 => ?_) (fun c_65 => ?_)
      · refine lv_aload_n hx hb dX0_divide_69 rfl (lv_at hl 1 rfl) ?_
        refine lv_aload_n hx hb dX0_divide_70 rfl (lv_at hl 2 rfl) ?_
        have lk_66 : (uF u_1 o 2 z_61).1 b 1 = S.1 b 1 := (uF_ne (fun h => absurd h.2 (by decide))).trans ((fu_1 b (pB_no (neD nbq) (tau_ne hbb (big_row hq).1 (fun h => by cases h)))).1 1)
        have q_67 : 0 ≤ S.1 o 1 ∧ S.1 o 1 ≤ 32 := hI.fi o 1 0 (big_lt ho) ho
        have lk_68 : (uF u_1 o 2 z_61).1 o 1 = S.1 o 1 := (uF_ne (fun h => absurd h.2 (by decide))).trans ((fu_1 o (pB_no (neD noq) (tau_ne ho (big_row hq).1 (fun h => by cases h)))).1 1)
        refine sBi (sV (As := [.ref (G.2.2.1 + b)]) (rest := []) (k := o) Cx (b_X0_compareSize l G (uF u_1 o 2 z_61) (o := o) (a := b) i_63 ho hbb) (c_X0_79 Cx rfl rfl (rmk_ok (by omega) (by decide))) hW (big_l ho) ho rfl rfl hl.1 rfl (Nat.le_of_ble_eq_true rfl) dX0_divide_71 ⟨Nat.le_of_ble_eq_true rfl, Nat.le_of_ble_eq_true rfl⟩) hL (fun r_71 u_69 H locs k_70 hW hL => ?_)
        obtain ⟨eu_69, xu_69⟩ := k_70
        rw [eu_69] at hW
        have hkc : Hd (r_71 < 0 → VR (uF u_1 o 2 z_61) o < VR S b) := fun q => by have e := xu_69.2.2.2.2.2.1 q; have e2 : VR (uF u_1 o 2 z_61) b = VR S b := (VR_F (fun h => absurd h.2 (by decide))).trans (VR_fr fu_1 (pB_no (neD nbq) (tau_ne hbb (big_row hq).1 (fun h => by cases h))) (pB_no (tau_ne (big_row hbb).1 hq (fun h => by cases h)) (ne1 nbq))); rw [e2] at e; exact e
        have hkg : Hd (0 ≤ r_71 → VR S b ≤ VR S o) := fun z => by have e1 := xu_69.2.2.2.2.2.2.1; have e2 := xu_69.2.2.2.2.2.2.2; rw [((VR_F (fun h => absurd h.2 (by decide))).trans (VR_fr fu_1 (pB_no (neD noq) (tau_ne ho (big_row hq).1 (fun h => by cases h))) (pB_no (tau_ne (big_row ho).1 hq (fun h => by cases h)) (ne1 noq))) : VR (uF u_1 o 2 z_61) o = VR S o), ((VR_F (fun h => absurd h.2 (by decide))).trans (VR_fr fu_1 (pB_no (neD nbq) (tau_ne hbb (big_row hq).1 (fun h => by cases h))) (pB_no (tau_ne (big_row hbb).1 hq (fun h => by cases h)) (ne1 nbq))) : VR (uF u_1 o 2 z_61) b = VR S b)] at e1 e2; rcases (by omega : r_71 = 0 ∨ 0 < r_71) with y | y; (have := e1 y; omega); (have := e2 y; omega)
        refine r_if_lt (tgt := 84) hx hb ⟨(by omega), (by omega)⟩ dX0_divide_74 (by decide) (fun c_72 => ?_) (fun c_72 => ?_)
        · have q_73 : 0 ≤ u_1.1 q 1 ∧ u_1.1 q 1 ≤ 32 := iu_1.fi q 1 0 (big_lt hq) hq
          have lk_74 : (uF u_1 o 2 z_61).1 q 1 = u_1.1 q 1 := uF_ne (fun h => absurd h.2 (by decide))
          have q_75 : (-1) ≤ u_1.1 q 2 ∧ u_1.1 q 2 ≤ 1 := iu_1.fi q 2 0 (big_lt hq) hq
          have lk_76 : (uF u_1 o 2 z_61).1 q 2 = u_1.1 q 2 := uF_ne (fun h => absurd h.1 (neS noq))
          have lk_77 : (uF u_1 o 2 z_61).1 o 2 = z_61 := uF_on
          have hq0 : VR (uF u_1 o 2 z_61) q = 0 := by unfold VR; rw [show (uF u_1 o 2 z_61).1 q 1 = 0 by omega]; rfl
          have hdv : Hd (DVF S (uF u_1 o 2 z_61) o b q) := ⟨by rw [hq0, Int.zero_mul, Int.zero_add]; exact ((VR_F (fun h => absurd h.2 (by decide))).trans (VR_fr fu_1 (pB_no (neD noq) (tau_ne ho (big_row hq).1 (fun h => by cases h))) (pB_no (tau_ne (big_row ho).1 hq (fun h => by cases h)) (ne1 noq))) : VR (uF u_1 o 2 z_61) o = VR S o).symm, hkc (by omega), ⟨by omega, ⟨fun z => by omega, fun z => by omega⟩⟩, by omega, ⟨fun z => by omega, fun z => by omega⟩⟩
          refine lv_iload hx hb dX0_divide_84 (lv_at hl 0 rfl) ?_
          refine r_if_eq (tgt := 121) hx hb ⟨(by omega), (by omega)⟩ dX0_divide_86 (by decide) (fun c => absurd c (by omega)) (fun _ => ?_)
          refine lv_aload_n hx hb dX0_divide_89 rfl (lv_at hl 3 rfl) ?_
          refine sBv (sV (As := []) (rest := []) (k := q) Cx (s_X0_turn l G (uF u_1 o 2 z_61) (o := q) i_63 hq) (c_X0_98 Cx rfl rfl (rmk_ok (by omega) (by decide))) hW (big_l hq) hq rfl rfl hl.1 rfl (Nat.le_of_ble_eq_true rfl) dX0_divide_90 ⟨Nat.le_of_ble_eq_true rfl, Nat.le_of_ble_eq_true rfl⟩) hL (fun u_78 H locs k_79 hW hL => ?_)
          obtain ⟨iu_78, fu_78, xu_78⟩ := k_79
          have F_80 := F_62.trans (fu_78.to (pB_sub (pD_2 pB_0) (pD_2 pB_1)))
          have bv_81 : bv u_78 q = -(bv (uF u_1 o 2 z_61) q) := (tn_bv xu_78.1 xu_78.2.1 xu_78.2.2).trans (congrArg _ ((show bv (uF u_1 o 2 z_61) q = bv (uF u_1 o 2 z_61) q from rfl)))
          refine lv_aload_n hx hb dX0_divide_93 rfl (lv_at hl 1 rfl) ?_
          refine g_X0_34 Cx hW (k := o) (big_l ho) ho (v := z_61) (((fu_78 o (pB_no (neD noq) (tau_ne ho (big_row hq).1 (fun h => by cases h)))).1 2).trans (uF_on)) dX0_divide_94 ?_
          refine r_if_eq (tgt := 121) hx hb ⟨(by omega), (by omega)⟩ dX0_divide_97 (by decide) (fun c_82 => ?_) (fun c_82 => ?_)
          · have lk_83 : u_78.1 o 1 = S.1 o 1 := ((fu_78 o (pB_no (neD noq) (tau_ne ho (big_row hq).1 (fun h => by cases h)))).1 1).trans ((uF_ne (fun h => absurd h.2 (by decide))).trans ((fu_1 o (pB_no (neD noq) (tau_ne ho (big_row hq).1 (fun h => by cases h)))).1 1))
            have q_84 : 0 ≤ u_78.1 q 1 ∧ u_78.1 q 1 ≤ 32 := iu_78.fi q 1 0 (big_lt hq) hq
            have lk_85 : u_78.1 o 2 = z_61 := ((fu_78 o (pB_no (neD noq) (tau_ne ho (big_row hq).1 (fun h => by cases h)))).1 2).trans (uF_on)
            exact sVret Cx hr hlk hW hL ⟨iu_78, F_80, ⟨by omega, by omega, fun z => absurd z (by omega), fun z => by omega, by omega, by omega, (fun _ => by have d1 := hdv.1; have d2 := hdv.2.1; have tq : 0 ≤ VR (uF u_1 o 2 z_61) q := VR_0 i_63 hq; have to : 0 ≤ VR (uF u_1 o 2 z_61) o := VR_0 i_63 ho; have sq : -1 ≤ (uF u_1 o 2 z_61).1 q 2 ∧ (uF u_1 o 2 z_61).1 q 2 ≤ 1 := i_63.fi q 2 0 (big_lt hq) hq; have so : -1 ≤ (uF u_1 o 2 z_61).1 o 2 ∧ (uF u_1 o 2 z_61).1 o 2 ≤ 1 := i_63.fi o 2 0 (big_lt ho) ho; have eq := bv_p hdv.2.2.1.1 sq.2 hdv.2.2.1.2; have eo := bv_p hdv.2.2.2.1 so.2 hdv.2.2.2.2; have eb : bv S b = VR S b := bv_p (by omega) (by omega) hsb; have e1 := (show bv u_78 q = -(bv (uF u_1 o 2 z_61) q) from bv_81); have e2 := (show bv u_78 o = bv (uF u_1 o 2 z_61) o from (bv_fr fu_78 (pB_no (neD noq) (tau_ne ho (big_row hq).1 (fun h => by cases h))) (pB_no (tau_ne (big_row ho).1 hq (fun h => by cases h)) (ne1 noq))).trans (rfl)); have eS : bv S o = -VR S o := bv_n (by omega) (by omega); have z0 : VR (uF u_1 o 2 z_61) o = 0 := (by unfold VR; rw [hdv.2.2.2.2.2 (by omega)]; rfl); exact ediv_u (by rw [e1, e2, eq, eo, eS, eb, d1, z0]; grind) (by rw [e2, eo]; exact to) (by rw [e2, eo, eb]; exact d2)), (show Hd (bs u_78 q) from (tn_bs xu_78.1 xu_78.2.1 (show Hd (bs (uF u_1 o 2 z_61) q) from hdv.2.2.1.2))), (show Hd (bs u_78 o) from (bs_fr fu_78 (pB_no (neD noq) (tau_ne ho (big_row hq).1 (fun h => by cases h))) hdv.2.2.2.2))⟩⟩ dX0_divide_121
          · refine lv_aload_n hx hb dX0_divide_100 rfl (lv_at hl 4 rfl) ?_
            refine lv_lconst (v := jv 1) hx hb dX0_divide_101 (by decide) ?_
            refine sBv (sV (As := [.long (jv 1)]) (rest := []) (k := h) Cx (b_X0_put l G u_78 (o := h) (v := 1) iu_78 hh (by omega)) (c_X0_62 Cx rfl rfl (rmk_ok (by omega) (by decide))) hW (big_l hh) hh rfl rfl hl.1 rfl (Nat.le_of_ble_eq_true rfl) dX0_divide_102 ⟨Nat.le_of_ble_eq_true rfl, Nat.le_of_ble_eq_true rfl⟩) hL (fun u_86 H locs k_87 hW hL => ?_)
            obtain ⟨iu_86, fu_86, xu_86⟩ := k_87
            have F_88 := F_80.trans (fu_86.to (pB_sub (pD_3 pB_0) (pD_3 pB_1)))
            have bv_89 : bv u_86 h = 1 := (xu_86.2.2.2.2.2 (by decide) (by decide)).1
            refine lv_aload_n hx hb dX0_divide_105 rfl (lv_at hl 3 rfl) ?_
            refine lv_aload_n hx hb dX0_divide_106 rfl (lv_at hl 4 rfl) ?_
            refine lv_iconst (v := iv (-1)) hx hb dX0_divide_107 (by decide) ?_
            have q_90 : 0 ≤ u_86.1 h 1 ∧ u_86.1 h 1 ≤ 32 := iu_86.fi h 1 0 (big_lt hh) hh
            have q_91 : 0 ≤ u_78.1 q 1 ∧ u_78.1 q 1 ≤ 32 := iu_78.fi q 1 0 (big_lt hq) hq
            have lk_92 : u_86.1 q 1 = u_78.1 q 1 := (fu_86 q (pB_no (neD nqh) (tau_ne hq (big_row hh).1 (fun h => by cases h)))).1 1
            have q_93 : (-1) ≤ u_78.1 q 2 ∧ u_78.1 q 2 ≤ 1 := iu_78.fi q 2 0 (big_lt hq) hq
            have lk_94 : u_86.1 q 2 = u_78.1 q 2 := (fu_86 q (pB_no (neD nqh) (tau_ne hq (big_row hh).1 (fun h => by cases h)))).1 2
            have q_95 : (-1) ≤ u_86.1 h 2 ∧ u_86.1 h 2 ≤ 1 := iu_86.fi h 2 0 (big_lt hh) hh
            refine sBv (sV (As := [.ref (G.2.2.1 + h), .int (iv ((-1)))]) (rest := []) (k := q) Cx (b_X0_add_m l G u_86 (o := q) (a := h) (n := n) (t := 0) iu_86 hq hh (neD nqh) (by omega) (fun z => absurd z (by omega)) (show Hd (bs u_86 q) from (bs_fr fu_86 (pB_no (neD nqh) (tau_ne hq (big_row hh).1 (fun h => by cases h))) (tn_bs xu_78.1 xu_78.2.1 (show Hd (bs (uF u_1 o 2 z_61) q) from hdv.2.2.1.2)))) (show Hd (bs u_86 h) from (xu_86.2.2.2.2.2 (by decide) (by decide)).2)) (c_X0_101 Cx rfl rfl (rmk_ok (by omega) (by decide))) hW (big_l hq) hq rfl rfl hl.1 rfl (Nat.le_of_ble_eq_true rfl) dX0_divide_108 ⟨Nat.le_of_ble_eq_true rfl, Nat.le_of_ble_eq_true rfl⟩) hL (fun u_96 H locs k_97 hW hL => ?_)
            obtain ⟨iu_96, fu_96, xu_96⟩ := k_97
            have F_98 := F_88.trans (fu_96.to (pB_sub (pD_2 pB_0) (pD_2 pB_1)))
            have bv_99 : bv u_96 q = -(bv (uF u_1 o 2 z_61) q) - 1 := (by have e : bv u_96 q = _ := xu_96.2.2.2.1; rw [(show bv u_86 q = -(bv (uF u_1 o 2 z_61) q) from (bv_fr fu_86 (pB_no (neD nqh) (tau_ne hq (big_row hh).1 (fun h => by cases h))) (pB_no (tau_ne (big_row hq).1 hh (fun h => by cases h)) (ne1 nqh))).trans (bv_81)), (show bv u_86 h = 1 from bv_89)] at e; omega)
            refine lv_aload_n hx hb dX0_divide_111 rfl (lv_at hl 1 rfl) ?_
            have lk_100 : u_96.1 o 1 = S.1 o 1 := ((fu_96 o (pB_no (neD noq) (tau_ne ho (big_row hq).1 (fun h => by cases h)))).1 1).trans (((fu_86 o (pB_no (neD noh) (tau_ne ho (big_row hh).1 (fun h => by cases h)))).1 1).trans (((fu_78 o (pB_no (neD noq) (tau_ne ho (big_row hq).1 (fun h => by cases h)))).1 1).trans ((uF_ne (fun h => absurd h.2 (by decide))).trans ((fu_1 o (pB_no (neD noq) (tau_ne ho (big_row hq).1 (fun h => by cases h)))).1 1))))
            have lk_101 : u_96.1 o 2 = z_61 := ((fu_96 o (pB_no (neD noq) (tau_ne ho (big_row hq).1 (fun h => by cases h)))).1 2).trans (((fu_86 o (pB_no (neD noh) (tau_ne ho (big_row hh).1 (fun h => by cases h)))).1 2).trans (((fu_78 o (pB_no (neD noq) (tau_ne ho (big_row hq).1 (fun h => by cases h)))).1 2).trans (uF_on)))
            refine sBv (sV (As := []) (rest := []) (k := o) Cx (s_X0_turn l G u_96 (o := o) iu_96 ho) (c_X0_98 Cx rfl rfl (rmk_ok (by omega) (by decide))) hW (big_l ho) ho rfl rfl hl.1 rfl (Nat.le_of_ble_eq_true rfl) dX0_divide_112 ⟨Nat.le_of_ble_eq_true rfl, Nat.le_of_ble_eq_true rfl⟩) hL (fun u_102 H locs k_103 hW hL => ?_)
            obtain ⟨iu_102, fu_102, xu_102⟩ := k_103
            have F_104 := F_98.trans (fu_102.to (pB_sub (pD_1 pB_0) (pD_1 pB_1)))
            have bv_105 : bv u_102 o = -(bv (uF u_1 o 2 z_61) o) := (tn_bv xu_102.1 xu_102.2.1 xu_102.2.2).trans (congrArg _ ((show bv u_96 o = bv (uF u_1 o 2 z_61) o from (bv_fr fu_96 (pB_no (neD noq) (tau_ne ho (big_row hq).1 (fun h => by cases h))) (pB_no (tau_ne (big_row ho).1 hq (fun h => by cases h)) (ne1 noq))).trans ((bv_fr fu_86 (pB_no (neD noh) (tau_ne ho (big_row hh).1 (fun h => by cases h))) (pB_no (tau_ne (big_row ho).1 hh (fun h => by cases h)) (ne1 noh))).trans ((bv_fr fu_78 (pB_no (neD noq) (tau_ne ho (big_row hq).1 (fun h => by cases h))) (pB_no (tau_ne (big_row ho).1 hq (fun h => by cases h)) (ne1 noq))).trans (rfl))))))
            have hvo : Hd (1 ≤ S.1 b 1 → VR u_102 o < VR S b) := fun q => by rw [VR_tn xu_102.1 xu_102.2.2]; have e : VR u_96 o = VR (uF u_1 o 2 z_61) o := (VR_fr fu_96 (pB_no (neD noq) (tau_ne ho (big_row hq).1 (fun h => by cases h))) (pB_no (tau_ne (big_row ho).1 hq (fun h => by cases h)) (ne1 noq))).trans ((VR_fr fu_86 (pB_no (neD noh) (tau_ne ho (big_row hh).1 (fun h => by cases h))) (pB_no (tau_ne (big_row ho).1 hh (fun h => by cases h)) (ne1 noh))).trans (VR_fr fu_78 (pB_no (neD noq) (tau_ne ho (big_row hq).1 (fun h => by cases h))) (pB_no (tau_ne (big_row ho).1 hq (fun h => by cases h)) (ne1 noq)))); rw [e]; first | exact hkd q | exact hkc (by omega)
            refine lv_aload_n hx hb dX0_divide_115 rfl (lv_at hl 1 rfl) ?_
            refine lv_aload_n hx hb dX0_divide_116 rfl (lv_at hl 2 rfl) ?_
            refine lv_iconst (v := iv 1) hx hb dX0_divide_117 (by decide) ?_
            have lk_106 : u_102.1 b 1 = S.1 b 1 := ((fu_102 b (pB_no (neS nob) (tau_ne hbb (big_row ho).1 (fun h => by cases h)))).1 1).trans (((fu_96 b (pB_no (neD nbq) (tau_ne hbb (big_row hq).1 (fun h => by cases h)))).1 1).trans (((fu_86 b (pB_no (neD nbh) (tau_ne hbb (big_row hh).1 (fun h => by cases h)))).1 1).trans (((fu_78 b (pB_no (neD nbq) (tau_ne hbb (big_row hq).1 (fun h => by cases h)))).1 1).trans ((uF_ne (fun h => absurd h.2 (by decide))).trans ((fu_1 b (pB_no (neD nbq) (tau_ne hbb (big_row hq).1 (fun h => by cases h)))).1 1)))))
            have q_107 : 0 ≤ u_102.1 o 1 ∧ u_102.1 o 1 ≤ 32 := iu_102.fi o 1 0 (big_lt ho) ho
            have q_108 : (-1) ≤ u_102.1 o 2 ∧ u_102.1 o 2 ≤ 1 := iu_102.fi o 2 0 (big_lt ho) ho
            have lk_109 : u_102.1 b 2 = S.1 b 2 := ((fu_102 b (pB_no (neS nob) (tau_ne hbb (big_row ho).1 (fun h => by cases h)))).1 2).trans (((fu_96 b (pB_no (neD nbq) (tau_ne hbb (big_row hq).1 (fun h => by cases h)))).1 2).trans (((fu_86 b (pB_no (neD nbh) (tau_ne hbb (big_row hh).1 (fun h => by cases h)))).1 2).trans (((fu_78 b (pB_no (neD nbq) (tau_ne hbb (big_row hq).1 (fun h => by cases h)))).1 2).trans ((uF_ne (fun h => absurd h.1 (neS nob))).trans ((fu_1 b (pB_no (neD nbq) (tau_ne hbb (big_row hq).1 (fun h => by cases h)))).1 2)))))
            refine sBv (sV (As := [.ref (G.2.2.1 + b), .int (iv 1)]) (rest := []) (k := o) Cx (b_X0_add_p l G u_102 (o := o) (a := b) (n := 30) (t := 0) iu_102 ho hbb (neD nob) (by omega) (fun z => absurd z (by omega)) (show Hd (bs u_102 o) from (tn_bs xu_102.1 xu_102.2.1 (show Hd (bs u_96 o) from (bs_fr fu_96 (pB_no (neD noq) (tau_ne ho (big_row hq).1 (fun h => by cases h))) (bs_fr fu_86 (pB_no (neD noh) (tau_ne ho (big_row hh).1 (fun h => by cases h))) (bs_fr fu_78 (pB_no (neD noq) (tau_ne ho (big_row hq).1 (fun h => by cases h))) hdv.2.2.2.2)))))) (show Hd (bs u_102 b) from (bs_fr fu_102 (pB_no (neS nob) (tau_ne hbb (big_row ho).1 (fun h => by cases h))) (bs_fr fu_96 (pB_no (neD nbq) (tau_ne hbb (big_row hq).1 (fun h => by cases h))) (bs_fr fu_86 (pB_no (neD nbh) (tau_ne hbb (big_row hh).1 (fun h => by cases h))) (bs_fr fu_78 (pB_no (neD nbq) (tau_ne hbb (big_row hq).1 (fun h => by cases h))) (bs_F (fun h => absurd h (neD nob)) (bs_fr fu_1 (pB_no (neD nbq) (tau_ne hbb (big_row hq).1 (fun h => by cases h))) hsb)))))))) (c_X0_101 Cx rfl rfl (rmk_ok (by omega) (by decide))) hW (big_l ho) ho rfl rfl hl.1 rfl (Nat.le_of_ble_eq_true rfl) dX0_divide_118 ⟨Nat.le_of_ble_eq_true rfl, Nat.le_of_ble_eq_true rfl⟩) hL (fun u_110 H locs k_111 hW hL => ?_)
            obtain ⟨iu_110, fu_110, xu_110⟩ := k_111
            have F_112 := F_104.trans (fu_110.to (pB_sub (pD_1 pB_0) (pD_1 pB_1)))
            have bv_113 : bv u_110 o = -(bv (uF u_1 o 2 z_61) o) + (bv S b) := (by have e : bv u_110 o = _ := xu_110.2.2.2.2.1; rw [(show bv u_102 o = -(bv (uF u_1 o 2 z_61) o) from bv_105), (show bv u_102 b = bv S b from (bv_fr fu_102 (pB_no (neS nob) (tau_ne hbb (big_row ho).1 (fun h => by cases h))) (pB_no (tau_ne (big_row hbb).1 ho (fun h => by cases h)) (ne1S nob))).trans ((bv_fr fu_96 (pB_no (neD nbq) (tau_ne hbb (big_row hq).1 (fun h => by cases h))) (pB_no (tau_ne (big_row hbb).1 hq (fun h => by cases h)) (ne1 nbq))).trans ((bv_fr fu_86 (pB_no (neD nbh) (tau_ne hbb (big_row hh).1 (fun h => by cases h))) (pB_no (tau_ne (big_row hbb).1 hh (fun h => by cases h)) (ne1 nbh))).trans ((bv_fr fu_78 (pB_no (neD nbq) (tau_ne hbb (big_row hq).1 (fun h => by cases h))) (pB_no (tau_ne (big_row hbb).1 hq (fun h => by cases h)) (ne1 nbq))).trans ((bv_F (fun h => absurd h (neD nob))).trans (bv_fr fu_1 (pB_no (neD nbq) (tau_ne hbb (big_row hq).1 (fun h => by cases h))) (pB_no (tau_ne (big_row hbb).1 hq (fun h => by cases h)) (ne1 nbq))))))))] at e; omega)
            have hsg : 1 ≤ S.1 b 1 → 0 ≤ u_110.1 o 2 := fun q => xu_110.2.2.2.1 (by omega) (by omega) (by have e : VR u_102 b = VR S b := (VR_fr fu_102 (pB_no (neS nob) (tau_ne hbb (big_row ho).1 (fun h => by cases h))) (pB_no (tau_ne (big_row hbb).1 ho (fun h => by cases h)) (ne1S nob))).trans ((VR_fr fu_96 (pB_no (neD nbq) (tau_ne hbb (big_row hq).1 (fun h => by cases h))) (pB_no (tau_ne (big_row hbb).1 hq (fun h => by cases h)) (ne1 nbq))).trans ((VR_fr fu_86 (pB_no (neD nbh) (tau_ne hbb (big_row hh).1 (fun h => by cases h))) (pB_no (tau_ne (big_row hbb).1 hh (fun h => by cases h)) (ne1 nbh))).trans ((VR_fr fu_78 (pB_no (neD nbq) (tau_ne hbb (big_row hq).1 (fun h => by cases h))) (pB_no (tau_ne (big_row hbb).1 hq (fun h => by cases h)) (ne1 nbq))).trans ((VR_F (fun h => absurd h.2 (by decide))).trans (VR_fr fu_1 (pB_no (neD nbq) (tau_ne hbb (big_row hq).1 (fun h => by cases h))) (pB_no (tau_ne (big_row hbb).1 hq (fun h => by cases h)) (ne1 nbq))))))); rw [e]; exact hvo q)
            have hop := xu_110.2.2.1 (by omega)
            have q_114 : 0 ≤ u_110.1 o 1 ∧ u_110.1 o 1 ≤ 32 := iu_110.fi o 1 0 (big_lt ho) ho
            have q_115 : 0 ≤ u_96.1 q 1 ∧ u_96.1 q 1 ≤ 32 := iu_96.fi q 1 0 (big_lt hq) hq
            have lk_116 : u_110.1 q 1 = u_96.1 q 1 := ((fu_110 q (pB_no (neS noq) (tau_ne hq (big_row ho).1 (fun h => by cases h)))).1 1).trans ((fu_102 q (pB_no (neS noq) (tau_ne hq (big_row ho).1 (fun h => by cases h)))).1 1)
            have q_117 : (-1) ≤ u_110.1 o 2 ∧ u_110.1 o 2 ≤ 1 := iu_110.fi o 2 0 (big_lt ho) ho
            exact sVret Cx hr hlk hW hL ⟨iu_110, F_112, ⟨by omega, by omega, fun z => by have e : u_110.2.1 (q + 1) n = u_96.2.1 (q + 1) n := ((fu_110 (q + 1) (pB_no (tau_ne (big_row hq).1 ho (fun h => by cases h)) (ne1S noq))).2.1 n).trans ((fu_102 (q + 1) (pB_no (tau_ne (big_row hq).1 ho (fun h => by cases h)) (ne1S noq))).2.1 n); rw [e]; exact xu_96.2.1 (by omega), fun z => absurd z (by omega), by omega, by omega, (fun _ => by have d1 := hdv.1; have d2 := hdv.2.1; have tq : 0 ≤ VR (uF u_1 o 2 z_61) q := VR_0 i_63 hq; have to : 0 ≤ VR (uF u_1 o 2 z_61) o := VR_0 i_63 ho; have sq : -1 ≤ (uF u_1 o 2 z_61).1 q 2 ∧ (uF u_1 o 2 z_61).1 q 2 ≤ 1 := i_63.fi q 2 0 (big_lt hq) hq; have so : -1 ≤ (uF u_1 o 2 z_61).1 o 2 ∧ (uF u_1 o 2 z_61).1 o 2 ≤ 1 := i_63.fi o 2 0 (big_lt ho) ho; have eq := bv_p hdv.2.2.1.1 sq.2 hdv.2.2.1.2; have eo := bv_p hdv.2.2.2.1 so.2 hdv.2.2.2.2; have eb : bv S b = VR S b := bv_p (by omega) (by omega) hsb; have e1 := (show bv u_110 q = -(bv (uF u_1 o 2 z_61) q) - 1 from (bv_fr fu_110 (pB_no (neS noq) (tau_ne hq (big_row ho).1 (fun h => by cases h))) (pB_no (tau_ne (big_row hq).1 ho (fun h => by cases h)) (ne1S noq))).trans ((bv_fr fu_102 (pB_no (neS noq) (tau_ne hq (big_row ho).1 (fun h => by cases h))) (pB_no (tau_ne (big_row hq).1 ho (fun h => by cases h)) (ne1S noq))).trans (bv_99))); have e2 := (show bv u_110 o = -(bv (uF u_1 o 2 z_61) o) + (bv S b) from bv_113); have eS : bv S o = -VR S o := bv_n (by omega) (by omega); have rp := VR_p i_63 ho (hdv.2.2.2.2.1 (by omega)); exact ediv_u (by rw [e1, e2, eq, eo, eS, eb, d1]; grind) (by rw [e2, eo, eb]; omega) (by rw [e2, eo, eb]; omega)), (show Hd (bs u_110 q) from (bs_fr fu_110 (pB_no (neS noq) (tau_ne hq (big_row ho).1 (fun h => by cases h))) (bs_fr fu_102 (pB_no (neS noq) (tau_ne hq (big_row ho).1 (fun h => by cases h))) xu_96.2.2.2.2))), (show Hd (bs u_110 o) from xu_110.2.2.2.2.2)⟩⟩ dX0_divide_121
        · refine lv_aload_n hx hb dX0_divide_77 rfl (lv_at hl 1 rfl) ?_
          refine lv_aload_n hx hb dX0_divide_78 rfl (lv_at hl 2 rfl) ?_
          refine lv_aload_n hx hb dX0_divide_79 rfl (lv_at hl 3 rfl) ?_
          refine lv_aload_n hx hb dX0_divide_80 rfl (lv_at hl 4 rfl) ?_
          have q_118 : 0 ≤ u_1.1 q 1 ∧ u_1.1 q 1 ≤ 32 := iu_1.fi q 1 0 (big_lt hq) hq
          have lk_119 : (uF u_1 o 2 z_61).1 q 1 = u_1.1 q 1 := uF_ne (fun h => absurd h.2 (by decide))
          have q_120 : (-1) ≤ u_1.1 q 2 ∧ u_1.1 q 2 ≤ 1 := iu_1.fi q 2 0 (big_lt hq) hq
          have lk_121 : (uF u_1 o 2 z_61).1 q 2 = u_1.1 q 2 := uF_ne (fun h => absurd h.1 (neS noq))
          have lk_122 : (uF u_1 o 2 z_61).1 o 2 = z_61 := uF_on
          refine sBv (sV (As := [.ref (G.2.2.1 + b), .ref (G.2.2.1 + q), .ref (G.2.2.1 + h)]) (rest := []) (k := o) Cx (b_X0_divideLong l G (uF u_1 o 2 z_61) (o := o) (b := b) (q := q) (h := h) i_63 ho hbb hq hh (neD nob) (neD noq) (neD noh) (neD nbq) (neD nbh) (neD nqh) (by omega) (by omega) (by omega)) (c_X0_94 Cx rfl rfl (rmk_ok (by omega) (by decide))) hW (big_l ho) ho rfl rfl hl.1 rfl (Nat.le_of_ble_eq_true rfl) dX0_divide_81 ⟨Nat.le_of_ble_eq_true rfl, Nat.le_of_ble_eq_true rfl⟩) hL (fun u_123 H locs k_124 hW hL => ?_)
          obtain ⟨iu_123, fu_123, xu_123⟩ := k_124
          have F_125 := F_62.trans fu_123
          have hkd : Hd (1 ≤ S.1 b 1 → VR u_123 o < VR S b) := fun _ => by have e := xu_123.2.2.2.2.1 (by omega) (by omega); have e2 : VR (uF u_1 o 2 z_61) b = VR S b := (VR_F (fun h => absurd h.2 (by decide))).trans (VR_fr fu_1 (pB_no (neD nbq) (tau_ne hbb (big_row hq).1 (fun h => by cases h))) (pB_no (tau_ne (big_row hbb).1 hq (fun h => by cases h)) (ne1 nbq))); rw [e2] at e; exact e
          have dl := xu_123.2.2.2.2.2 (by omega) (by omega)
          have dl1 : VR (uF u_1 o 2 z_61) o = _ := dl.1
          have hob : 0 < S.1 o 1 := by omega
          have dl3 := dl.2.2.1
          have dl4 := dl.2.2.2
          have sU : 0 ≤ u_123.1 o 1 ∧ u_123.1 o 1 ≤ 32 := iu_123.fi o 1 0 (big_lt ho) ho
          have hdv : Hd (DVF S u_123 o b q) := ⟨by have e : VR (uF u_1 o 2 z_61) o = VR u_123 q * VR (uF u_1 o 2 z_61) b + VR u_123 o := dl1; rw [((VR_F (fun h => absurd h.2 (by decide))).trans (VR_fr fu_1 (pB_no (neD noq) (tau_ne ho (big_row hq).1 (fun h => by cases h))) (pB_no (tau_ne (big_row ho).1 hq (fun h => by cases h)) (ne1 noq))) : VR (uF u_1 o 2 z_61) o = VR S o), ((VR_F (fun h => absurd h.2 (by decide))).trans (VR_fr fu_1 (pB_no (neD nbq) (tau_ne hbb (big_row hq).1 (fun h => by cases h))) (pB_no (tau_ne (big_row hbb).1 hq (fun h => by cases h)) (ne1 nbq))) : VR (uF u_1 o 2 z_61) b = VR S b)] at e; exact e, hkd (by omega), ⟨by omega, dl.2.1⟩, by omega, ⟨fun z => by omega, fun z => by omega⟩⟩
          refine lv_iload hx hb dX0_divide_84 (lv_at hl 0 rfl) ?_
          refine r_if_eq (tgt := 121) hx hb ⟨(by omega), (by omega)⟩ dX0_divide_86 (by decide) (fun c => absurd c (by omega)) (fun _ => ?_)
          refine lv_aload_n hx hb dX0_divide_89 rfl (lv_at hl 3 rfl) ?_
          have q_126 : 0 ≤ u_123.1 q 1 ∧ u_123.1 q 1 ≤ 32 := iu_123.fi q 1 0 (big_lt hq) hq
          have q_127 : (-1) ≤ u_123.1 q 2 ∧ u_123.1 q 2 ≤ 1 := iu_123.fi q 2 0 (big_lt hq) hq
          refine sBv (sV (As := []) (rest := []) (k := q) Cx (s_X0_turn l G u_123 (o := q) iu_123 hq) (c_X0_98 Cx rfl rfl (rmk_ok (by omega) (by decide))) hW (big_l hq) hq rfl rfl hl.1 rfl (Nat.le_of_ble_eq_true rfl) dX0_divide_90 ⟨Nat.le_of_ble_eq_true rfl, Nat.le_of_ble_eq_true rfl⟩) hL (fun u_128 H locs k_129 hW hL => ?_)
          obtain ⟨iu_128, fu_128, xu_128⟩ := k_129
          have F_130 := F_125.trans (fu_128.to (pB_sub (pD_2 pB_0) (pD_2 pB_1)))
          have bv_131 : bv u_128 q = -(bv u_123 q) := (tn_bv xu_128.1 xu_128.2.1 xu_128.2.2).trans (congrArg _ ((show bv u_123 q = bv u_123 q from rfl)))
          refine lv_aload_n hx hb dX0_divide_93 rfl (lv_at hl 1 rfl) ?_
          have q_132 : (-1) ≤ u_123.1 o 2 ∧ u_123.1 o 2 ≤ 1 := iu_123.fi o 2 0 (big_lt ho) ho
          refine g_X0_34 Cx hW (k := o) (big_l ho) ho (v := u_123.1 o 2) ((fu_128 o (pB_no (neD noq) (tau_ne ho (big_row hq).1 (fun h => by cases h)))).1 2) dX0_divide_94 ?_
          refine r_if_eq (tgt := 121) hx hb ⟨(by omega), (by omega)⟩ dX0_divide_97 (by decide) (fun c_133 => ?_) (fun c_133 => ?_)
          · have q_134 : 0 ≤ u_123.1 o 1 ∧ u_123.1 o 1 ≤ 32 := iu_123.fi o 1 0 (big_lt ho) ho
            have lk_135 : u_128.1 o 1 = u_123.1 o 1 := (fu_128 o (pB_no (neD noq) (tau_ne ho (big_row hq).1 (fun h => by cases h)))).1 1
            have q_136 : 0 ≤ u_128.1 q 1 ∧ u_128.1 q 1 ≤ 32 := iu_128.fi q 1 0 (big_lt hq) hq
            have lk_137 : u_128.1 o 2 = u_123.1 o 2 := (fu_128 o (pB_no (neD noq) (tau_ne ho (big_row hq).1 (fun h => by cases h)))).1 2
            exact sVret Cx hr hlk hW hL ⟨iu_128, F_130, ⟨by omega, by omega, fun z => absurd z (by omega), fun z => by omega, by omega, by omega, (fun _ => by have d1 := hdv.1; have d2 := hdv.2.1; have tq : 0 ≤ VR u_123 q := VR_0 iu_123 hq; have to : 0 ≤ VR u_123 o := VR_0 iu_123 ho; have sq : -1 ≤ u_123.1 q 2 ∧ u_123.1 q 2 ≤ 1 := iu_123.fi q 2 0 (big_lt hq) hq; have so : -1 ≤ u_123.1 o 2 ∧ u_123.1 o 2 ≤ 1 := iu_123.fi o 2 0 (big_lt ho) ho; have eq := bv_p hdv.2.2.1.1 sq.2 hdv.2.2.1.2; have eo := bv_p hdv.2.2.2.1 so.2 hdv.2.2.2.2; have eb : bv S b = VR S b := bv_p (by omega) (by omega) hsb; have e1 := (show bv u_128 q = -(bv u_123 q) from bv_131); have e2 := (show bv u_128 o = bv u_123 o from (bv_fr fu_128 (pB_no (neD noq) (tau_ne ho (big_row hq).1 (fun h => by cases h))) (pB_no (tau_ne (big_row ho).1 hq (fun h => by cases h)) (ne1 noq))).trans (rfl)); have eS : bv S o = -VR S o := bv_n (by omega) (by omega); have z0 : VR u_123 o = 0 := (by unfold VR; rw [hdv.2.2.2.2.2 (by omega)]; rfl); exact ediv_u (by rw [e1, e2, eq, eo, eS, eb, d1, z0]; grind) (by rw [e2, eo]; exact to) (by rw [e2, eo, eb]; exact d2)), (show Hd (bs u_128 q) from (tn_bs xu_128.1 xu_128.2.1 (show Hd (bs u_123 q) from hdv.2.2.1.2))), (show Hd (bs u_128 o) from (bs_fr fu_128 (pB_no (neD noq) (tau_ne ho (big_row hq).1 (fun h => by cases h))) hdv.2.2.2.2))⟩⟩ dX0_divide_121
          · refine lv_aload_n hx hb dX0_divide_100 rfl (lv_at hl 4 rfl) ?_
            refine lv_lconst (v := jv 1) hx hb dX0_divide_101 (by decide) ?_
            refine sBv (sV (As := [.long (jv 1)]) (rest := []) (k := h) Cx (b_X0_put l G u_128 (o := h) (v := 1) iu_128 hh (by omega)) (c_X0_62 Cx rfl rfl (rmk_ok (by omega) (by decide))) hW (big_l hh) hh rfl rfl hl.1 rfl (Nat.le_of_ble_eq_true rfl) dX0_divide_102 ⟨Nat.le_of_ble_eq_true rfl, Nat.le_of_ble_eq_true rfl⟩) hL (fun u_138 H locs k_139 hW hL => ?_)
            obtain ⟨iu_138, fu_138, xu_138⟩ := k_139
            have F_140 := F_130.trans (fu_138.to (pB_sub (pD_3 pB_0) (pD_3 pB_1)))
            have bv_141 : bv u_138 h = 1 := (xu_138.2.2.2.2.2 (by decide) (by decide)).1
            refine lv_aload_n hx hb dX0_divide_105 rfl (lv_at hl 3 rfl) ?_
            refine lv_aload_n hx hb dX0_divide_106 rfl (lv_at hl 4 rfl) ?_
            refine lv_iconst (v := iv (-1)) hx hb dX0_divide_107 (by decide) ?_
            have q_142 : 0 ≤ u_138.1 h 1 ∧ u_138.1 h 1 ≤ 32 := iu_138.fi h 1 0 (big_lt hh) hh
            have q_143 : 0 ≤ u_128.1 q 1 ∧ u_128.1 q 1 ≤ 32 := iu_128.fi q 1 0 (big_lt hq) hq
            have lk_144 : u_138.1 q 1 = u_128.1 q 1 := (fu_138 q (pB_no (neD nqh) (tau_ne hq (big_row hh).1 (fun h => by cases h)))).1 1
            have q_145 : (-1) ≤ u_128.1 q 2 ∧ u_128.1 q 2 ≤ 1 := iu_128.fi q 2 0 (big_lt hq) hq
            have lk_146 : u_138.1 q 2 = u_128.1 q 2 := (fu_138 q (pB_no (neD nqh) (tau_ne hq (big_row hh).1 (fun h => by cases h)))).1 2
            have q_147 : (-1) ≤ u_138.1 h 2 ∧ u_138.1 h 2 ≤ 1 := iu_138.fi h 2 0 (big_lt hh) hh
            refine sBv (sV (As := [.ref (G.2.2.1 + h), .int (iv ((-1)))]) (rest := []) (k := q) Cx (b_X0_add_m l G u_138 (o := q) (a := h) (n := n) (t := 0) iu_138 hq hh (neD nqh) (by omega) (fun z => absurd z (by omega)) (show Hd (bs u_138 q) from (bs_fr fu_138 (pB_no (neD nqh) (tau_ne hq (big_row hh).1 (fun h => by cases h))) (tn_bs xu_128.1 xu_128.2.1 (show Hd (bs u_123 q) from hdv.2.2.1.2)))) (show Hd (bs u_138 h) from (xu_138.2.2.2.2.2 (by decide) (by decide)).2)) (c_X0_101 Cx rfl rfl (rmk_ok (by omega) (by decide))) hW (big_l hq) hq rfl rfl hl.1 rfl (Nat.le_of_ble_eq_true rfl) dX0_divide_108 ⟨Nat.le_of_ble_eq_true rfl, Nat.le_of_ble_eq_true rfl⟩) hL (fun u_148 H locs k_149 hW hL => ?_)
            obtain ⟨iu_148, fu_148, xu_148⟩ := k_149
            have F_150 := F_140.trans (fu_148.to (pB_sub (pD_2 pB_0) (pD_2 pB_1)))
            have bv_151 : bv u_148 q = -(bv u_123 q) - 1 := (by have e : bv u_148 q = _ := xu_148.2.2.2.1; rw [(show bv u_138 q = -(bv u_123 q) from (bv_fr fu_138 (pB_no (neD nqh) (tau_ne hq (big_row hh).1 (fun h => by cases h))) (pB_no (tau_ne (big_row hq).1 hh (fun h => by cases h)) (ne1 nqh))).trans (bv_131)), (show bv u_138 h = 1 from bv_141)] at e; omega)
            refine lv_aload_n hx hb dX0_divide_111 rfl (lv_at hl 1 rfl) ?_
            have q_152 : 0 ≤ u_123.1 o 1 ∧ u_123.1 o 1 ≤ 32 := iu_123.fi o 1 0 (big_lt ho) ho
            have lk_153 : u_148.1 o 1 = u_123.1 o 1 := ((fu_148 o (pB_no (neD noq) (tau_ne ho (big_row hq).1 (fun h => by cases h)))).1 1).trans (((fu_138 o (pB_no (neD noh) (tau_ne ho (big_row hh).1 (fun h => by cases h)))).1 1).trans ((fu_128 o (pB_no (neD noq) (tau_ne ho (big_row hq).1 (fun h => by cases h)))).1 1))
            have lk_154 : u_148.1 o 2 = u_123.1 o 2 := ((fu_148 o (pB_no (neD noq) (tau_ne ho (big_row hq).1 (fun h => by cases h)))).1 2).trans (((fu_138 o (pB_no (neD noh) (tau_ne ho (big_row hh).1 (fun h => by cases h)))).1 2).trans ((fu_128 o (pB_no (neD noq) (tau_ne ho (big_row hq).1 (fun h => by cases h)))).1 2))
            refine sBv (sV (As := []) (rest := []) (k := o) Cx (s_X0_turn l G u_148 (o := o) iu_148 ho) (c_X0_98 Cx rfl rfl (rmk_ok (by omega) (by decide))) hW (big_l ho) ho rfl rfl hl.1 rfl (Nat.le_of_ble_eq_true rfl) dX0_divide_112 ⟨Nat.le_of_ble_eq_true rfl, Nat.le_of_ble_eq_true rfl⟩) hL (fun u_155 H locs k_156 hW hL => ?_)
            obtain ⟨iu_155, fu_155, xu_155⟩ := k_156
            have F_157 := F_150.trans (fu_155.to (pB_sub (pD_1 pB_0) (pD_1 pB_1)))
            have bv_158 : bv u_155 o = -(bv u_123 o) := (tn_bv xu_155.1 xu_155.2.1 xu_155.2.2).trans (congrArg _ ((show bv u_148 o = bv u_123 o from (bv_fr fu_148 (pB_no (neD noq) (tau_ne ho (big_row hq).1 (fun h => by cases h))) (pB_no (tau_ne (big_row ho).1 hq (fun h => by cases h)) (ne1 noq))).trans ((bv_fr fu_138 (pB_no (neD noh) (tau_ne ho (big_row hh).1 (fun h => by cases h))) (pB_no (tau_ne (big_row ho).1 hh (fun h => by cases h)) (ne1 noh))).trans ((bv_fr fu_128 (pB_no (neD noq) (tau_ne ho (big_row hq).1 (fun h => by cases h))) (pB_no (tau_ne (big_row ho).1 hq (fun h => by cases h)) (ne1 noq))).trans (rfl))))))
            have hvo : Hd (1 ≤ S.1 b 1 → VR u_155 o < VR S b) := fun q => by rw [VR_tn xu_155.1 xu_155.2.2]; have e : VR u_148 o = VR u_123 o := (VR_fr fu_148 (pB_no (neD noq) (tau_ne ho (big_row hq).1 (fun h => by cases h))) (pB_no (tau_ne (big_row ho).1 hq (fun h => by cases h)) (ne1 noq))).trans ((VR_fr fu_138 (pB_no (neD noh) (tau_ne ho (big_row hh).1 (fun h => by cases h))) (pB_no (tau_ne (big_row ho).1 hh (fun h => by cases h)) (ne1 noh))).trans (VR_fr fu_128 (pB_no (neD noq) (tau_ne ho (big_row hq).1 (fun h => by cases h))) (pB_no (tau_ne (big_row ho).1 hq (fun h => by cases h)) (ne1 noq)))); rw [e]; first | exact hkd q | exact hkc (by omega)
            refine lv_aload_n hx hb dX0_divide_115 rfl (lv_at hl 1 rfl) ?_
            refine lv_aload_n hx hb dX0_divide_116 rfl (lv_at hl 2 rfl) ?_
            refine lv_iconst (v := iv 1) hx hb dX0_divide_117 (by decide) ?_
            have lk_159 : u_155.1 b 1 = S.1 b 1 := ((fu_155 b (pB_no (neS nob) (tau_ne hbb (big_row ho).1 (fun h => by cases h)))).1 1).trans (((fu_148 b (pB_no (neD nbq) (tau_ne hbb (big_row hq).1 (fun h => by cases h)))).1 1).trans (((fu_138 b (pB_no (neD nbh) (tau_ne hbb (big_row hh).1 (fun h => by cases h)))).1 1).trans (((fu_128 b (pB_no (neD nbq) (tau_ne hbb (big_row hq).1 (fun h => by cases h)))).1 1).trans (((fu_123 b (pD_no (pB_no (neS nob) (tau_ne hbb (big_row ho).1 (fun h => by cases h))) (pB_no (neD nbq) (tau_ne hbb (big_row hq).1 (fun h => by cases h))) (pB_no (neD nbh) (tau_ne hbb (big_row hh).1 (fun h => by cases h))))).1 1).trans ((uF_ne (fun h => absurd h.2 (by decide))).trans ((fu_1 b (pB_no (neD nbq) (tau_ne hbb (big_row hq).1 (fun h => by cases h)))).1 1))))))
            have q_160 : 0 ≤ u_155.1 o 1 ∧ u_155.1 o 1 ≤ 32 := iu_155.fi o 1 0 (big_lt ho) ho
            have q_161 : (-1) ≤ u_155.1 o 2 ∧ u_155.1 o 2 ≤ 1 := iu_155.fi o 2 0 (big_lt ho) ho
            have lk_162 : u_155.1 b 2 = S.1 b 2 := ((fu_155 b (pB_no (neS nob) (tau_ne hbb (big_row ho).1 (fun h => by cases h)))).1 2).trans (((fu_148 b (pB_no (neD nbq) (tau_ne hbb (big_row hq).1 (fun h => by cases h)))).1 2).trans (((fu_138 b (pB_no (neD nbh) (tau_ne hbb (big_row hh).1 (fun h => by cases h)))).1 2).trans (((fu_128 b (pB_no (neD nbq) (tau_ne hbb (big_row hq).1 (fun h => by cases h)))).1 2).trans (((fu_123 b (pD_no (pB_no (neS nob) (tau_ne hbb (big_row ho).1 (fun h => by cases h))) (pB_no (neD nbq) (tau_ne hbb (big_row hq).1 (fun h => by cases h))) (pB_no (neD nbh) (tau_ne hbb (big_row hh).1 (fun h => by cases h))))).1 2).trans ((uF_ne (fun h => absurd h.1 (neS nob))).trans ((fu_1 b (pB_no (neD nbq) (tau_ne hbb (big_row hq).1 (fun h => by cases h)))).1 2))))))
            refine sBv (sV (As := [.ref (G.2.2.1 + b), .int (iv 1)]) (rest := []) (k := o) Cx (b_X0_add_p l G u_155 (o := o) (a := b) (n := 30) (t := 0) iu_155 ho hbb (neD nob) (by omega) (fun z => absurd z (by omega)) (show Hd (bs u_155 o) from (tn_bs xu_155.1 xu_155.2.1 (show Hd (bs u_148 o) from (bs_fr fu_148 (pB_no (neD noq) (tau_ne ho (big_row hq).1 (fun h => by cases h))) (bs_fr fu_138 (pB_no (neD noh) (tau_ne ho (big_row hh).1 (fun h => by cases h))) (bs_fr fu_128 (pB_no (neD noq) (tau_ne ho (big_row hq).1 (fun h => by cases h))) hdv.2.2.2.2)))))) (show Hd (bs u_155 b) from (bs_fr fu_155 (pB_no (neS nob) (tau_ne hbb (big_row ho).1 (fun h => by cases h))) (bs_fr fu_148 (pB_no (neD nbq) (tau_ne hbb (big_row hq).1 (fun h => by cases h))) (bs_fr fu_138 (pB_no (neD nbh) (tau_ne hbb (big_row hh).1 (fun h => by cases h))) (bs_fr fu_128 (pB_no (neD nbq) (tau_ne hbb (big_row hq).1 (fun h => by cases h))) (bs_fr fu_123 (pD_no (pB_no (neS nob) (tau_ne hbb (big_row ho).1 (fun h => by cases h))) (pB_no (neD nbq) (tau_ne hbb (big_row hq).1 (fun h => by cases h))) (pB_no (neD nbh) (tau_ne hbb (big_row hh).1 (fun h => by cases h)))) (bs_F (fun h => absurd h (neD nob)) (bs_fr fu_1 (pB_no (neD nbq) (tau_ne hbb (big_row hq).1 (fun h => by cases h))) hsb))))))))) (c_X0_101 Cx rfl rfl (rmk_ok (by omega) (by decide))) hW (big_l ho) ho rfl rfl hl.1 rfl (Nat.le_of_ble_eq_true rfl) dX0_divide_118 ⟨Nat.le_of_ble_eq_true rfl, Nat.le_of_ble_eq_true rfl⟩) hL (fun u_163 H locs k_164 hW hL => ?_)
            obtain ⟨iu_163, fu_163, xu_163⟩ := k_164
            have F_165 := F_157.trans (fu_163.to (pB_sub (pD_1 pB_0) (pD_1 pB_1)))
            have bv_166 : bv u_163 o = -(bv u_123 o) + (bv S b) := (by have e : bv u_163 o = _ := xu_163.2.2.2.2.1; rw [(show bv u_155 o = -(bv u_123 o) from bv_158), (show bv u_155 b = bv S b from (bv_fr fu_155 (pB_no (neS nob) (tau_ne hbb (big_row ho).1 (fun h => by cases h))) (pB_no (tau_ne (big_row hbb).1 ho (fun h => by cases h)) (ne1S nob))).trans ((bv_fr fu_148 (pB_no (neD nbq) (tau_ne hbb (big_row hq).1 (fun h => by cases h))) (pB_no (tau_ne (big_row hbb).1 hq (fun h => by cases h)) (ne1 nbq))).trans ((bv_fr fu_138 (pB_no (neD nbh) (tau_ne hbb (big_row hh).1 (fun h => by cases h))) (pB_no (tau_ne (big_row hbb).1 hh (fun h => by cases h)) (ne1 nbh))).trans ((bv_fr fu_128 (pB_no (neD nbq) (tau_ne hbb (big_row hq).1 (fun h => by cases h))) (pB_no (tau_ne (big_row hbb).1 hq (fun h => by cases h)) (ne1 nbq))).trans ((bv_fr fu_123 (pD_no (pB_no (neS nob) (tau_ne hbb (big_row ho).1 (fun h => by cases h))) (pB_no (neD nbq) (tau_ne hbb (big_row hq).1 (fun h => by cases h))) (pB_no (neD nbh) (tau_ne hbb (big_row hh).1 (fun h => by cases h)))) (pD_no (pB_no (tau_ne (big_row hbb).1 ho (fun h => by cases h)) (ne1S nob)) (pB_no (tau_ne (big_row hbb).1 hq (fun h => by cases h)) (ne1 nbq)) (pB_no (tau_ne (big_row hbb).1 hh (fun h => by cases h)) (ne1 nbh)))).trans ((bv_F (fun h => absurd h (neD nob))).trans (bv_fr fu_1 (pB_no (neD nbq) (tau_ne hbb (big_row hq).1 (fun h => by cases h))) (pB_no (tau_ne (big_row hbb).1 hq (fun h => by cases h)) (ne1 nbq)))))))))] at e; omega)
            have hsg : 1 ≤ S.1 b 1 → 0 ≤ u_163.1 o 2 := fun q => xu_163.2.2.2.1 (by omega) (by omega) (by have e : VR u_155 b = VR S b := (VR_fr fu_155 (pB_no (neS nob) (tau_ne hbb (big_row ho).1 (fun h => by cases h))) (pB_no (tau_ne (big_row hbb).1 ho (fun h => by cases h)) (ne1S nob))).trans ((VR_fr fu_148 (pB_no (neD nbq) (tau_ne hbb (big_row hq).1 (fun h => by cases h))) (pB_no (tau_ne (big_row hbb).1 hq (fun h => by cases h)) (ne1 nbq))).trans ((VR_fr fu_138 (pB_no (neD nbh) (tau_ne hbb (big_row hh).1 (fun h => by cases h))) (pB_no (tau_ne (big_row hbb).1 hh (fun h => by cases h)) (ne1 nbh))).trans ((VR_fr fu_128 (pB_no (neD nbq) (tau_ne hbb (big_row hq).1 (fun h => by cases h))) (pB_no (tau_ne (big_row hbb).1 hq (fun h => by cases h)) (ne1 nbq))).trans ((VR_fr fu_123 (pD_no (pB_no (neS nob) (tau_ne hbb (big_row ho).1 (fun h => by cases h))) (pB_no (neD nbq) (tau_ne hbb (big_row hq).1 (fun h => by cases h))) (pB_no (neD nbh) (tau_ne hbb (big_row hh).1 (fun h => by cases h)))) (pD_no (pB_no (tau_ne (big_row hbb).1 ho (fun h => by cases h)) (ne1S nob)) (pB_no (tau_ne (big_row hbb).1 hq (fun h => by cases h)) (ne1 nbq)) (pB_no (tau_ne (big_row hbb).1 hh (fun h => by cases h)) (ne1 nbh)))).trans ((VR_F (fun h => absurd h.2 (by decide))).trans (VR_fr fu_1 (pB_no (neD nbq) (tau_ne hbb (big_row hq).1 (fun h => by cases h))) (pB_no (tau_ne (big_row hbb).1 hq (fun h => by cases h)) (ne1 nbq)))))))); rw [e]; exact hvo q)
            have hop := xu_163.2.2.1 (by omega)
            have q_167 : 0 ≤ u_163.1 o 1 ∧ u_163.1 o 1 ≤ 32 := iu_163.fi o 1 0 (big_lt ho) ho
            have q_168 : 0 ≤ u_148.1 q 1 ∧ u_148.1 q 1 ≤ 32 := iu_148.fi q 1 0 (big_lt hq) hq
            have lk_169 : u_163.1 q 1 = u_148.1 q 1 := ((fu_163 q (pB_no (neS noq) (tau_ne hq (big_row ho).1 (fun h => by cases h)))).1 1).trans ((fu_155 q (pB_no (neS noq) (tau_ne hq (big_row ho).1 (fun h => by cases h)))).1 1)
            have q_170 : (-1) ≤ u_163.1 o 2 ∧ u_163.1 o 2 ≤ 1 := iu_163.fi o 2 0 (big_lt ho) ho
            exact sVret Cx hr hlk hW hL ⟨iu_163, F_165, ⟨by omega, by omega, fun z => by have e : u_163.2.1 (q + 1) n = u_148.2.1 (q + 1) n := ((fu_163 (q + 1) (pB_no (tau_ne (big_row hq).1 ho (fun h => by cases h)) (ne1S noq))).2.1 n).trans ((fu_155 (q + 1) (pB_no (tau_ne (big_row hq).1 ho (fun h => by cases h)) (ne1S noq))).2.1 n); rw [e]; exact xu_148.2.1 (by omega), fun z => absurd z (by omega), by omega, by omega, (fun _ => by have d1 := hdv.1; have d2 := hdv.2.1; have tq : 0 ≤ VR u_123 q := VR_0 iu_123 hq; have to : 0 ≤ VR u_123 o := VR_0 iu_123 ho; have sq : -1 ≤ u_123.1 q 2 ∧ u_123.1 q 2 ≤ 1 := iu_123.fi q 2 0 (big_lt hq) hq; have so : -1 ≤ u_123.1 o 2 ∧ u_123.1 o 2 ≤ 1 := iu_123.fi o 2 0 (big_lt ho) ho; have eq := bv_p hdv.2.2.1.1 sq.2 hdv.2.2.1.2; have eo := bv_p hdv.2.2.2.1 so.2 hdv.2.2.2.2; have eb : bv S b = VR S b := bv_p (by omega) (by omega) hsb; have e1 := (show bv u_163 q = -(bv u_123 q) - 1 from (bv_fr fu_163 (pB_no (neS noq) (tau_ne hq (big_row ho).1 (fun h => by cases h))) (pB_no (tau_ne (big_row hq).1 ho (fun h => by cases h)) (ne1S noq))).trans ((bv_fr fu_155 (pB_no (neS noq) (tau_ne hq (big_row ho).1 (fun h => by cases h))) (pB_no (tau_ne (big_row hq).1 ho (fun h => by cases h)) (ne1S noq))).trans (bv_151))); have e2 := (show bv u_163 o = -(bv u_123 o) + (bv S b) from bv_166); have eS : bv S o = -VR S o := bv_n (by omega) (by omega); have rp := VR_p iu_123 ho (hdv.2.2.2.2.1 (by omega)); exact ediv_u (by rw [e1, e2, eq, eo, eS, eb, d1]; grind) (by rw [e2, eo, eb]; omega) (by rw [e2, eo, eb]; omega)), (show Hd (bs u_163 q) from (bs_fr fu_163 (pB_no (neS noq) (tau_ne hq (big_row ho).1 (fun h => by cases h))) (bs_fr fu_155 (pB_no (neS noq) (tau_ne hq (big_row ho).1 (fun h => by cases h))) xu_148.2.2.2.2))), (show Hd (bs u_163 o) from xu_163.2.2.2.2.2)⟩⟩ dX0_divide_121
      · have hb0 : S.2.1 (b + 1) 0 ≠ 0 := by have e := nbH hI hbb (by omega); rw [show S.1 b 1 - 1 = 0 by omega] at e; exact e
        have hb00 := limbR hI hbb 0
        refine lv_aload_n hx hb dX0_divide_46 rfl (lv_at hl 3 rfl) ?_
        refine lv_aload_n hx hb dX0_divide_47 rfl (lv_at hl 1 rfl) ?_
        have q_171 : 0 ≤ S.1 o 1 ∧ S.1 o 1 ≤ 32 := hI.fi o 1 0 (big_lt ho) ho
        have lk_172 : (uF u_1 o 2 z_61).1 o 1 = S.1 o 1 := (uF_ne (fun h => absurd h.2 (by decide))).trans ((fu_1 o (pB_no (neD noq) (tau_ne ho (big_row hq).1 (fun h => by cases h)))).1 1)
        have lk_173 : (uF u_1 o 2 z_61).1 o 2 = z_61 := uF_on
        refine sBv (sV (As := [.ref (G.2.2.1 + o)]) (rest := []) (k := q) Cx (s_X0_copy l G (uF u_1 o 2 z_61) (o := q) (a := o) i_63 hq ho) (c_X0_72 Cx rfl rfl (rmk_ok (by omega) (by decide))) hW (big_l hq) hq rfl rfl hl.1 rfl (Nat.le_of_ble_eq_true rfl) dX0_divide_48 ⟨Nat.le_of_ble_eq_true rfl, Nat.le_of_ble_eq_true rfl⟩) hL (fun u_174 H locs k_175 hW hL => ?_)
        obtain ⟨iu_174, fu_174, xu_174⟩ := k_175
        have F_176 := F_62.trans (fu_174.to (pB_sub (pD_2 pB_0) (pD_2 pB_1)))
        have bv_177 : bv u_174 q = bv (uF u_1 o 2 z_61) o := (cp_bv xu_174.1 xu_174.2.1 xu_174.2.2).trans ((show bv (uF u_1 o 2 z_61) o = bv (uF u_1 o 2 z_61) o from rfl))
        refine lv_aload_n hx hb dX0_divide_51 rfl (lv_at hl 1 rfl) ?_
        refine lv_aload_n hx hb dX0_divide_52 rfl (lv_at hl 3 rfl) ?_
        refine lv_aload_n hx hb dX0_divide_53 rfl (lv_at hl 2 rfl) ?_
        refine g_X0_9 Cx hW (k := b) (big_l hbb) hbb (v := .ref (G.2.2.1 + (b + 1))) (iu_174.rq.1 b hbb) dX0_divide_54 ?_
        refine lv_iconst (v := iv 0) hx hb dX0_divide_57 (by decide) ?_
        refine rIald Cx hW (k := b + 1) (big_l1 hbb) (big_row hbb).1 (by decide) (by omega) (by omega) dX0_divide_58 ?_
        have q_178 := limbR hI hbb 0
        refine r_i (b := S.2.1 (b + 1) 0) (((fu_174 (b + 1) (pB_no (tau_ne (big_row hbb).1 hq (fun h => by cases h)) (ne1 nbq))).2.1 0).trans ((uF_a).trans ((fu_1 (b + 1) (pB_no (tau_ne (big_row hbb).1 hq (fun h => by cases h)) (ne1 nbq))).2.1 0))) ?_
        have q_179 : 0 ≤ u_174.1 q 1 ∧ u_174.1 q 1 ≤ 32 := iu_174.fi q 1 0 (big_lt hq) hq
        have q_180 : (-1) ≤ u_174.1 q 2 ∧ u_174.1 q 2 ≤ 1 := iu_174.fi q 2 0 (big_lt hq) hq
        refine sBi (sV (As := [.int (iv (S.2.1 (b + 1) 0))]) (rest := [.ref (G.2.2.1 + o)]) (k := q) Cx (b_X0_reduce l G u_174 (o := q) (y := S.2.1 (b + 1) 0) iu_174 hq (by omega)) (c_X0_91 Cx rfl rfl (rmk_ok (by omega) (by decide))) hW (big_l hq) hq rfl rfl hl.1 rfl (Nat.le_of_ble_eq_true rfl) dX0_divide_59 ⟨Nat.le_of_ble_eq_true rfl, Nat.le_of_ble_eq_true rfl⟩) hL (fun r_183 u_181 H locs k_182 hW hL => ?_)
        obtain ⟨iu_181, fu_181, xu_181⟩ := k_182
        have F_184 := F_176.trans (fu_181.to (pB_sub (pD_2 pB_0) (pD_2 pB_1)))
        refine r_i2l hx hb ⟨(by omega), (by omega)⟩ dX0_divide_62 ?_
        refine sBv (sV (As := [.long (jv r_183)]) (rest := []) (k := o) Cx (b_X0_put l G u_181 (o := o) (v := r_183) iu_181 ho (by omega)) (c_X0_62 Cx rfl rfl (rmk_ok (by omega) (by decide))) hW (big_l ho) ho rfl rfl hl.1 rfl (Nat.le_of_ble_eq_true rfl) dX0_divide_63 ⟨Nat.le_of_ble_eq_true rfl, Nat.le_of_ble_eq_true rfl⟩) hL (fun u_185 H locs k_186 hW hL => ?_)
        obtain ⟨iu_185, fu_185, xu_185⟩ := k_186
        have F_187 := F_184.trans (fu_185.to (pB_sub (pD_1 pB_0) (pD_1 pB_1)))
        have bv_188 : bv u_185 o = r_183 := (xu_185.2.2.2.2.2 (by omega) (by omega)).1
        have hkd : Hd (1 ≤ S.1 b 1 → VR u_185 o < VR S b) := fun _ => by rw [xu_185.2.2.2.2.1 (by omega) (by omega)]; have e := (xu_181.2.2.2.2.1 (by omega)).1; have e2 : VR S b = S.2.1 (b + 1) 0 := (by unfold VR; rw [show S.1 b 1 = 1 by omega]; show 0 + S.2.1 (b + 1) (0 + ((0 : Nat) : Int)) * 1 = _; rw [show (0 : Int) + ((0 : Nat) : Int) = 0 by omega]; omega); omega
        have q_189 : 0 ≤ u_181.1 q 1 ∧ u_181.1 q 1 ≤ 32 := iu_181.fi q 1 0 (big_lt hq) hq
        have lk_190 : u_185.1 q 1 = u_181.1 q 1 := (fu_185 q (pB_no (neS noq) (tau_ne hq (big_row ho).1 (fun h => by cases h)))).1 1
        have q_191 : (-1) ≤ u_181.1 q 2 ∧ u_181.1 q 2 ≤ 1 := iu_181.fi q 2 0 (big_lt hq) hq
        have lk_192 : u_185.1 q 2 = u_181.1 q 2 := (fu_185 q (pB_no (neS noq) (tau_ne hq (big_row ho).1 (fun h => by cases h)))).1 2
        have rd1 := (xu_181.2.2.2.2.1 (by omega)).2
        have rd2 := xu_181.2.2.2.2.2 (by omega)
        have pt := xu_185.2.2.2.2.2 (by omega) (by omega)
        have sQ : 0 ≤ u_181.1 q 1 ∧ u_181.1 q 1 ≤ 32 := iu_181.fi q 1 0 (big_lt hq) hq
        have hdv : Hd (DVF S u_185 o b q) := ⟨by have e1 : VR u_185 q = VR u_181 q := VR_fr fu_185 (pB_no (neS noq) (tau_ne hq (big_row ho).1 (fun h => by cases h))) (pB_no (tau_ne (big_row hq).1 ho (fun h => by cases h)) (ne1S noq)); have e2 : VR (uF u_1 o 2 z_61) o = VR S o := (VR_F (fun h => absurd h.2 (by decide))).trans (VR_fr fu_1 (pB_no (neD noq) (tau_ne ho (big_row hq).1 (fun h => by cases h))) (pB_no (tau_ne (big_row ho).1 hq (fun h => by cases h)) (ne1 noq))); have e3 := VR_cp xu_174.1 xu_174.2.2; have e4 : VR u_185 o = r_183 := xu_185.2.2.2.2.1 (by omega) (by omega); have e5 : VR S b = S.2.1 (b + 1) 0 := (by unfold VR; rw [show S.1 b 1 = 1 by omega]; show 0 + S.2.1 (b + 1) (0 + ((0 : Nat) : Int)) * 1 = _; rw [show (0 : Int) + ((0 : Nat) : Int) = 0 by omega]; omega); rw [e1, e4, e5, Int.mul_comm, rd1, e3, e2], hkd (by omega), ⟨by omega, ⟨fun z => by omega, fun z => by omega⟩⟩, by omega, pt.2⟩
        refine lv_goto (tgt := 84) hx hb dX0_divide_66 (by decide) ?_
        refine lv_iload hx hb dX0_divide_84 (lv_at hl 0 rfl) ?_
        refine r_if_eq (tgt := 121) hx hb ⟨(by omega), (by omega)⟩ dX0_divide_86 (by decide) (fun c => absurd c (by omega)) (fun _ => ?_)
        refine lv_aload_n hx hb dX0_divide_89 rfl (lv_at hl 3 rfl) ?_
        refine sBv (sV (As := []) (rest := []) (k := q) Cx (s_X0_turn l G u_185 (o := q) iu_185 hq) (c_X0_98 Cx rfl rfl (rmk_ok (by omega) (by decide))) hW (big_l hq) hq rfl rfl hl.1 rfl (Nat.le_of_ble_eq_true rfl) dX0_divide_90 ⟨Nat.le_of_ble_eq_true rfl, Nat.le_of_ble_eq_true rfl⟩) hL (fun u_193 H locs k_194 hW hL => ?_)
        obtain ⟨iu_193, fu_193, xu_193⟩ := k_194
        have F_195 := F_187.trans (fu_193.to (pB_sub (pD_2 pB_0) (pD_2 pB_1)))
        have bv_196 : bv u_193 q = -(bv u_185 q) := (tn_bv xu_193.1 xu_193.2.1 xu_193.2.2).trans (congrArg _ ((show bv u_185 q = bv u_185 q from rfl)))
        refine lv_aload_n hx hb dX0_divide_93 rfl (lv_at hl 1 rfl) ?_
        have q_197 : (-1) ≤ u_185.1 o 2 ∧ u_185.1 o 2 ≤ 1 := iu_185.fi o 2 0 (big_lt ho) ho
        refine g_X0_34 Cx hW (k := o) (big_l ho) ho (v := u_185.1 o 2) ((fu_193 o (pB_no (neD noq) (tau_ne ho (big_row hq).1 (fun h => by cases h)))).1 2) dX0_divide_94 ?_
        refine r_if_eq (tgt := 121) hx hb ⟨(by omega), (by omega)⟩ dX0_divide_97 (by decide) (fun c_198 => ?_) (fun c_198 => ?_)
        · have q_199 : 0 ≤ u_185.1 o 1 ∧ u_185.1 o 1 ≤ 32 := iu_185.fi o 1 0 (big_lt ho) ho
          have lk_200 : u_193.1 o 1 = u_185.1 o 1 := (fu_193 o (pB_no (neD noq) (tau_ne ho (big_row hq).1 (fun h => by cases h)))).1 1
          have q_201 : 0 ≤ u_193.1 q 1 ∧ u_193.1 q 1 ≤ 32 := iu_193.fi q 1 0 (big_lt hq) hq
          have lk_202 : u_193.1 o 2 = u_185.1 o 2 := (fu_193 o (pB_no (neD noq) (tau_ne ho (big_row hq).1 (fun h => by cases h)))).1 2
          exact sVret Cx hr hlk hW hL ⟨iu_193, F_195, ⟨by omega, by omega, fun z => absurd z (by omega), fun z => by omega, by omega, by omega, (fun _ => by have d1 := hdv.1; have d2 := hdv.2.1; have tq : 0 ≤ VR u_185 q := VR_0 iu_185 hq; have to : 0 ≤ VR u_185 o := VR_0 iu_185 ho; have sq : -1 ≤ u_185.1 q 2 ∧ u_185.1 q 2 ≤ 1 := iu_185.fi q 2 0 (big_lt hq) hq; have so : -1 ≤ u_185.1 o 2 ∧ u_185.1 o 2 ≤ 1 := iu_185.fi o 2 0 (big_lt ho) ho; have eq := bv_p hdv.2.2.1.1 sq.2 hdv.2.2.1.2; have eo := bv_p hdv.2.2.2.1 so.2 hdv.2.2.2.2; have eb : bv S b = VR S b := bv_p (by omega) (by omega) hsb; have e1 := (show bv u_193 q = -(bv u_185 q) from bv_196); have e2 := (show bv u_193 o = bv u_185 o from (bv_fr fu_193 (pB_no (neD noq) (tau_ne ho (big_row hq).1 (fun h => by cases h))) (pB_no (tau_ne (big_row ho).1 hq (fun h => by cases h)) (ne1 noq))).trans (rfl)); have eS : bv S o = -VR S o := bv_n (by omega) (by omega); have z0 : VR u_185 o = 0 := (by unfold VR; rw [hdv.2.2.2.2.2 (by omega)]; rfl); exact ediv_u (by rw [e1, e2, eq, eo, eS, eb, d1, z0]; grind) (by rw [e2, eo]; exact to) (by rw [e2, eo, eb]; exact d2)), (show Hd (bs u_193 q) from (tn_bs xu_193.1 xu_193.2.1 (show Hd (bs u_185 q) from hdv.2.2.1.2))), (show Hd (bs u_193 o) from (bs_fr fu_193 (pB_no (neD noq) (tau_ne ho (big_row hq).1 (fun h => by cases h))) hdv.2.2.2.2))⟩⟩ dX0_divide_121
        · refine lv_aload_n hx hb dX0_divide_100 rfl (lv_at hl 4 rfl) ?_
          refine lv_lconst (v := jv 1) hx hb dX0_divide_101 (by decide) ?_
          refine sBv (sV (As := [.long (jv 1)]) (rest := []) (k := h) Cx (b_X0_put l G u_193 (o := h) (v := 1) iu_193 hh (by omega)) (c_X0_62 Cx rfl rfl (rmk_ok (by omega) (by decide))) hW (big_l hh) hh rfl rfl hl.1 rfl (Nat.le_of_ble_eq_true rfl) dX0_divide_102 ⟨Nat.le_of_ble_eq_true rfl, Nat.le_of_ble_eq_true rfl⟩) hL (fun u_203 H locs k_204 hW hL => ?_)
          obtain ⟨iu_203, fu_203, xu_203⟩ := k_204
          have F_205 := F_195.trans (fu_203.to (pB_sub (pD_3 pB_0) (pD_3 pB_1)))
          have bv_206 : bv u_203 h = 1 := (xu_203.2.2.2.2.2 (by decide) (by decide)).1
          refine lv_aload_n hx hb dX0_divide_105 rfl (lv_at hl 3 rfl) ?_
          refine lv_aload_n hx hb dX0_divide_106 rfl (lv_at hl 4 rfl) ?_
          refine lv_iconst (v := iv (-1)) hx hb dX0_divide_107 (by decide) ?_
          have q_207 : 0 ≤ u_203.1 h 1 ∧ u_203.1 h 1 ≤ 32 := iu_203.fi h 1 0 (big_lt hh) hh
          have q_208 : 0 ≤ u_193.1 q 1 ∧ u_193.1 q 1 ≤ 32 := iu_193.fi q 1 0 (big_lt hq) hq
          have lk_209 : u_203.1 q 1 = u_193.1 q 1 := (fu_203 q (pB_no (neD nqh) (tau_ne hq (big_row hh).1 (fun h => by cases h)))).1 1
          have q_210 : (-1) ≤ u_193.1 q 2 ∧ u_193.1 q 2 ≤ 1 := iu_193.fi q 2 0 (big_lt hq) hq
          have lk_211 : u_203.1 q 2 = u_193.1 q 2 := (fu_203 q (pB_no (neD nqh) (tau_ne hq (big_row hh).1 (fun h => by cases h)))).1 2
          have q_212 : (-1) ≤ u_203.1 h 2 ∧ u_203.1 h 2 ≤ 1 := iu_203.fi h 2 0 (big_lt hh) hh
          refine sBv (sV (As := [.ref (G.2.2.1 + h), .int (iv ((-1)))]) (rest := []) (k := q) Cx (b_X0_add_m l G u_203 (o := q) (a := h) (n := n) (t := 0) iu_203 hq hh (neD nqh) (by omega) (fun z => absurd z (by omega)) (show Hd (bs u_203 q) from (bs_fr fu_203 (pB_no (neD nqh) (tau_ne hq (big_row hh).1 (fun h => by cases h))) (tn_bs xu_193.1 xu_193.2.1 (show Hd (bs u_185 q) from hdv.2.2.1.2)))) (show Hd (bs u_203 h) from (xu_203.2.2.2.2.2 (by decide) (by decide)).2)) (c_X0_101 Cx rfl rfl (rmk_ok (by omega) (by decide))) hW (big_l hq) hq rfl rfl hl.1 rfl (Nat.le_of_ble_eq_true rfl) dX0_divide_108 ⟨Nat.le_of_ble_eq_true rfl, Nat.le_of_ble_eq_true rfl⟩) hL (fun u_213 H locs k_214 hW hL => ?_)
          obtain ⟨iu_213, fu_213, xu_213⟩ := k_214
          have F_215 := F_205.trans (fu_213.to (pB_sub (pD_2 pB_0) (pD_2 pB_1)))
          have bv_216 : bv u_213 q = -(bv u_185 q) - 1 := (by have e : bv u_213 q = _ := xu_213.2.2.2.1; rw [(show bv u_203 q = -(bv u_185 q) from (bv_fr fu_203 (pB_no (neD nqh) (tau_ne hq (big_row hh).1 (fun h => by cases h))) (pB_no (tau_ne (big_row hq).1 hh (fun h => by cases h)) (ne1 nqh))).trans (bv_196)), (show bv u_203 h = 1 from bv_206)] at e; omega)
          refine lv_aload_n hx hb dX0_divide_111 rfl (lv_at hl 1 rfl) ?_
          have q_217 : 0 ≤ u_185.1 o 1 ∧ u_185.1 o 1 ≤ 32 := iu_185.fi o 1 0 (big_lt ho) ho
          have lk_218 : u_213.1 o 1 = u_185.1 o 1 := ((fu_213 o (pB_no (neD noq) (tau_ne ho (big_row hq).1 (fun h => by cases h)))).1 1).trans (((fu_203 o (pB_no (neD noh) (tau_ne ho (big_row hh).1 (fun h => by cases h)))).1 1).trans ((fu_193 o (pB_no (neD noq) (tau_ne ho (big_row hq).1 (fun h => by cases h)))).1 1))
          have lk_219 : u_213.1 o 2 = u_185.1 o 2 := ((fu_213 o (pB_no (neD noq) (tau_ne ho (big_row hq).1 (fun h => by cases h)))).1 2).trans (((fu_203 o (pB_no (neD noh) (tau_ne ho (big_row hh).1 (fun h => by cases h)))).1 2).trans ((fu_193 o (pB_no (neD noq) (tau_ne ho (big_row hq).1 (fun h => by cases h)))).1 2))
          refine sBv (sV (As := []) (rest := []) (k := o) Cx (s_X0_turn l G u_213 (o := o) iu_213 ho) (c_X0_98 Cx rfl rfl (rmk_ok (by omega) (by decide))) hW (big_l ho) ho rfl rfl hl.1 rfl (Nat.le_of_ble_eq_true rfl) dX0_divide_112 ⟨Nat.le_of_ble_eq_true rfl, Nat.le_of_ble_eq_true rfl⟩) hL (fun u_220 H locs k_221 hW hL => ?_)
          obtain ⟨iu_220, fu_220, xu_220⟩ := k_221
          have F_222 := F_215.trans (fu_220.to (pB_sub (pD_1 pB_0) (pD_1 pB_1)))
          have bv_223 : bv u_220 o = -(bv u_185 o) := (tn_bv xu_220.1 xu_220.2.1 xu_220.2.2).trans (congrArg _ ((show bv u_213 o = bv u_185 o from (bv_fr fu_213 (pB_no (neD noq) (tau_ne ho (big_row hq).1 (fun h => by cases h))) (pB_no (tau_ne (big_row ho).1 hq (fun h => by cases h)) (ne1 noq))).trans ((bv_fr fu_203 (pB_no (neD noh) (tau_ne ho (big_row hh).1 (fun h => by cases h))) (pB_no (tau_ne (big_row ho).1 hh (fun h => by cases h)) (ne1 noh))).trans ((bv_fr fu_193 (pB_no (neD noq) (tau_ne ho (big_row hq).1 (fun h => by cases h))) (pB_no (tau_ne (big_row ho).1 hq (fun h => by cases h)) (ne1 noq))).trans (rfl))))))
          have hvo : Hd (1 ≤ S.1 b 1 → VR u_220 o < VR S b) := fun q => by rw [VR_tn xu_220.1 xu_220.2.2]; have e : VR u_213 o = VR u_185 o := (VR_fr fu_213 (pB_no (neD noq) (tau_ne ho (big_row hq).1 (fun h => by cases h))) (pB_no (tau_ne (big_row ho).1 hq (fun h => by cases h)) (ne1 noq))).trans ((VR_fr fu_203 (pB_no (neD noh) (tau_ne ho (big_row hh).1 (fun h => by cases h))) (pB_no (tau_ne (big_row ho).1 hh (fun h => by cases h)) (ne1 noh))).trans (VR_fr fu_193 (pB_no (neD noq) (tau_ne ho (big_row hq).1 (fun h => by cases h))) (pB_no (tau_ne (big_row ho).1 hq (fun h => by cases h)) (ne1 noq)))); rw [e]; first | exact hkd q | exact hkc (by omega)
          refine lv_aload_n hx hb dX0_divide_115 rfl (lv_at hl 1 rfl) ?_
          refine lv_aload_n hx hb dX0_divide_116 rfl (lv_at hl 2 rfl) ?_
          refine lv_iconst (v := iv 1) hx hb dX0_divide_117 (by decide) ?_
          have lk_224 : u_220.1 b 1 = S.1 b 1 := ((fu_220 b (pB_no (neS nob) (tau_ne hbb (big_row ho).1 (fun h => by cases h)))).1 1).trans (((fu_213 b (pB_no (neD nbq) (tau_ne hbb (big_row hq).1 (fun h => by cases h)))).1 1).trans (((fu_203 b (pB_no (neD nbh) (tau_ne hbb (big_row hh).1 (fun h => by cases h)))).1 1).trans (((fu_193 b (pB_no (neD nbq) (tau_ne hbb (big_row hq).1 (fun h => by cases h)))).1 1).trans (((fu_185 b (pB_no (neS nob) (tau_ne hbb (big_row ho).1 (fun h => by cases h)))).1 1).trans (((fu_181 b (pB_no (neD nbq) (tau_ne hbb (big_row hq).1 (fun h => by cases h)))).1 1).trans (((fu_174 b (pB_no (neD nbq) (tau_ne hbb (big_row hq).1 (fun h => by cases h)))).1 1).trans ((uF_ne (fun h => absurd h.2 (by decide))).trans ((fu_1 b (pB_no (neD nbq) (tau_ne hbb (big_row hq).1 (fun h => by cases h)))).1 1))))))))
          have q_225 : 0 ≤ u_220.1 o 1 ∧ u_220.1 o 1 ≤ 32 := iu_220.fi o 1 0 (big_lt ho) ho
          have q_226 : (-1) ≤ u_220.1 o 2 ∧ u_220.1 o 2 ≤ 1 := iu_220.fi o 2 0 (big_lt ho) ho
          have lk_227 : u_220.1 b 2 = S.1 b 2 := ((fu_220 b (pB_no (neS nob) (tau_ne hbb (big_row ho).1 (fun h => by cases h)))).1 2).trans (((fu_213 b (pB_no (neD nbq) (tau_ne hbb (big_row hq).1 (fun h => by cases h)))).1 2).trans (((fu_203 b (pB_no (neD nbh) (tau_ne hbb (big_row hh).1 (fun h => by cases h)))).1 2).trans (((fu_193 b (pB_no (neD nbq) (tau_ne hbb (big_row hq).1 (fun h => by cases h)))).1 2).trans (((fu_185 b (pB_no (neS nob) (tau_ne hbb (big_row ho).1 (fun h => by cases h)))).1 2).trans (((fu_181 b (pB_no (neD nbq) (tau_ne hbb (big_row hq).1 (fun h => by cases h)))).1 2).trans (((fu_174 b (pB_no (neD nbq) (tau_ne hbb (big_row hq).1 (fun h => by cases h)))).1 2).trans ((uF_ne (fun h => absurd h.1 (neS nob))).trans ((fu_1 b (pB_no (neD nbq) (tau_ne hbb (big_row hq).1 (fun h => by cases h)))).1 2))))))))
          refine sBv (sV (As := [.ref (G.2.2.1 + b), .int (iv 1)]) (rest := []) (k := o) Cx (b_X0_add_p l G u_220 (o := o) (a := b) (n := 30) (t := 0) iu_220 ho hbb (neD nob) (by omega) (fun z => absurd z (by omega)) (show Hd (bs u_220 o) from (tn_bs xu_220.1 xu_220.2.1 (show Hd (bs u_213 o) from (bs_fr fu_213 (pB_no (neD noq) (tau_ne ho (big_row hq).1 (fun h => by cases h))) (bs_fr fu_203 (pB_no (neD noh) (tau_ne ho (big_row hh).1 (fun h => by cases h))) (bs_fr fu_193 (pB_no (neD noq) (tau_ne ho (big_row hq).1 (fun h => by cases h))) hdv.2.2.2.2)))))) (show Hd (bs u_220 b) from (bs_fr fu_220 (pB_no (neS nob) (tau_ne hbb (big_row ho).1 (fun h => by cases h))) (bs_fr fu_213 (pB_no (neD nbq) (tau_ne hbb (big_row hq).1 (fun h => by cases h))) (bs_fr fu_203 (pB_no (neD nbh) (tau_ne hbb (big_row hh).1 (fun h => by cases h))) (bs_fr fu_193 (pB_no (neD nbq) (tau_ne hbb (big_row hq).1 (fun h => by cases h))) (bs_fr fu_185 (pB_no (neS nob) (tau_ne hbb (big_row ho).1 (fun h => by cases h))) (bs_fr fu_181 (pB_no (neD nbq) (tau_ne hbb (big_row hq).1 (fun h => by cases h))) (bs_fr fu_174 (pB_no (neD nbq) (tau_ne hbb (big_row hq).1 (fun h => by cases h))) (bs_F (fun h => absurd h (neD nob)) (bs_fr fu_1 (pB_no (neD nbq) (tau_ne hbb (big_row hq).1 (fun h => by cases h))) hsb))))))))))) (c_X0_101 Cx rfl rfl (rmk_ok (by omega) (by decide))) hW (big_l ho) ho rfl rfl hl.1 rfl (Nat.le_of_ble_eq_true rfl) dX0_divide_118 ⟨Nat.le_of_ble_eq_true rfl, Nat.le_of_ble_eq_true rfl⟩) hL (fun u_228 H locs k_229 hW hL => ?_)
          obtain ⟨iu_228, fu_228, xu_228⟩ := k_229
          have F_230 := F_222.trans (fu_228.to (pB_sub (pD_1 pB_0) (pD_1 pB_1)))
          have bv_231 : bv u_228 o = -(bv u_185 o) + (bv S b) := (by have e : bv u_228 o = _ := xu_228.2.2.2.2.1; rw [(show bv u_220 o = -(bv u_185 o) from bv_223), (show bv u_220 b = bv S b from (bv_fr fu_220 (pB_no (neS nob) (tau_ne hbb (big_row ho).1 (fun h => by cases h))) (pB_no (tau_ne (big_row hbb).1 ho (fun h => by cases h)) (ne1S nob))).trans ((bv_fr fu_213 (pB_no (neD nbq) (tau_ne hbb (big_row hq).1 (fun h => by cases h))) (pB_no (tau_ne (big_row hbb).1 hq (fun h => by cases h)) (ne1 nbq))).trans ((bv_fr fu_203 (pB_no (neD nbh) (tau_ne hbb (big_row hh).1 (fun h => by cases h))) (pB_no (tau_ne (big_row hbb).1 hh (fun h => by cases h)) (ne1 nbh))).trans ((bv_fr fu_193 (pB_no (neD nbq) (tau_ne hbb (big_row hq).1 (fun h => by cases h))) (pB_no (tau_ne (big_row hbb).1 hq (fun h => by cases h)) (ne1 nbq))).trans ((bv_fr fu_185 (pB_no (neS nob) (tau_ne hbb (big_row ho).1 (fun h => by cases h))) (pB_no (tau_ne (big_row hbb).1 ho (fun h => by cases h)) (ne1S nob))).trans ((bv_fr fu_181 (pB_no (neD nbq) (tau_ne hbb (big_row hq).1 (fun h => by cases h))) (pB_no (tau_ne (big_row hbb).1 hq (fun h => by cases h)) (ne1 nbq))).trans ((bv_fr fu_174 (pB_no (neD nbq) (tau_ne hbb (big_row hq).1 (fun h => by cases h))) (pB_no (tau_ne (big_row hbb).1 hq (fun h => by cases h)) (ne1 nbq))).trans ((bv_F (fun h => absurd h (neD nob))).trans (bv_fr fu_1 (pB_no (neD nbq) (tau_ne hbb (big_row hq).1 (fun h => by cases h))) (pB_no (tau_ne (big_row hbb).1 hq (fun h => by cases h)) (ne1 nbq)))))))))))] at e; omega)
          have hsg : 1 ≤ S.1 b 1 → 0 ≤ u_228.1 o 2 := fun q => xu_228.2.2.2.1 (by omega) (by omega) (by have e : VR u_220 b = VR S b := (VR_fr fu_220 (pB_no (neS nob) (tau_ne hbb (big_row ho).1 (fun h => by cases h))) (pB_no (tau_ne (big_row hbb).1 ho (fun h => by cases h)) (ne1S nob))).trans ((VR_fr fu_213 (pB_no (neD nbq) (tau_ne hbb (big_row hq).1 (fun h => by cases h))) (pB_no (tau_ne (big_row hbb).1 hq (fun h => by cases h)) (ne1 nbq))).trans ((VR_fr fu_203 (pB_no (neD nbh) (tau_ne hbb (big_row hh).1 (fun h => by cases h))) (pB_no (tau_ne (big_row hbb).1 hh (fun h => by cases h)) (ne1 nbh))).trans ((VR_fr fu_193 (pB_no (neD nbq) (tau_ne hbb (big_row hq).1 (fun h => by cases h))) (pB_no (tau_ne (big_row hbb).1 hq (fun h => by cases h)) (ne1 nbq))).trans ((VR_fr fu_185 (pB_no (neS nob) (tau_ne hbb (big_row ho).1 (fun h => by cases h))) (pB_no (tau_ne (big_row hbb).1 ho (fun h => by cases h)) (ne1S nob))).trans ((VR_fr fu_181 (pB_no (neD nbq) (tau_ne hbb (big_row hq).1 (fun h => by cases h))) (pB_no (tau_ne (big_row hbb).1 hq (fun h => by cases h)) (ne1 nbq))).trans ((VR_fr fu_174 (pB_no (neD nbq) (tau_ne hbb (big_row hq).1 (fun h => by cases h))) (pB_no (tau_ne (big_row hbb).1 hq (fun h => by cases h)) (ne1 nbq))).trans ((VR_F (fun h => absurd h.2 (by decide))).trans (VR_fr fu_1 (pB_no (neD nbq) (tau_ne hbb (big_row hq).1 (fun h => by cases h))) (pB_no (tau_ne (big_row hbb).1 hq (fun h => by cases h)) (ne1 nbq)))))))))); rw [e]; exact hvo q)
          have hop := xu_228.2.2.1 (by omega)
          have q_232 : 0 ≤ u_228.1 o 1 ∧ u_228.1 o 1 ≤ 32 := iu_228.fi o 1 0 (big_lt ho) ho
          have q_233 : 0 ≤ u_213.1 q 1 ∧ u_213.1 q 1 ≤ 32 := iu_213.fi q 1 0 (big_lt hq) hq
          have lk_234 : u_228.1 q 1 = u_213.1 q 1 := ((fu_228 q (pB_no (neS noq) (tau_ne hq (big_row ho).1 (fun h => by cases h)))).1 1).trans ((fu_220 q (pB_no (neS noq) (tau_ne hq (big_row ho).1 (fun h => by cases h)))).1 1)
          have q_235 : (-1) ≤ u_228.1 o 2 ∧ u_228.1 o 2 ≤ 1 := iu_228.fi o 2 0 (big_lt ho) ho
          exact sVret Cx hr hlk hW hL ⟨iu_228, F_230, ⟨by omega, by omega, fun z => by have e : u_228.2.1 (q + 1) n = u_213.2.1 (q + 1) n := ((fu_228 (q + 1) (pB_no (tau_ne (big_row hq).1 ho (fun h => by cases h)) (ne1S noq))).2.1 n).trans ((fu_220 (q + 1) (pB_no (tau_ne (big_row hq).1 ho (fun h => by cases h)) (ne1S noq))).2.1 n); rw [e]; exact xu_213.2.1 (by omega), fun z => absurd z (by omega), by omega, by omega, (fun _ => by have d1 := hdv.1; have d2 := hdv.2.1; have tq : 0 ≤ VR u_185 q := VR_0 iu_185 hq; have to : 0 ≤ VR u_185 o := VR_0 iu_185 ho; have sq : -1 ≤ u_185.1 q 2 ∧ u_185.1 q 2 ≤ 1 := iu_185.fi q 2 0 (big_lt hq) hq; have so : -1 ≤ u_185.1 o 2 ∧ u_185.1 o 2 ≤ 1 := iu_185.fi o 2 0 (big_lt ho) ho; have eq := bv_p hdv.2.2.1.1 sq.2 hdv.2.2.1.2; have eo := bv_p hdv.2.2.2.1 so.2 hdv.2.2.2.2; have eb : bv S b = VR S b := bv_p (by omega) (by omega) hsb; have e1 := (show bv u_228 q = -(bv u_185 q) - 1 from (bv_fr fu_228 (pB_no (neS noq) (tau_ne hq (big_row ho).1 (fun h => by cases h))) (pB_no (tau_ne (big_row hq).1 ho (fun h => by cases h)) (ne1S noq))).trans ((bv_fr fu_220 (pB_no (neS noq) (tau_ne hq (big_row ho).1 (fun h => by cases h))) (pB_no (tau_ne (big_row hq).1 ho (fun h => by cases h)) (ne1S noq))).trans (bv_216))); have e2 := (show bv u_228 o = -(bv u_185 o) + (bv S b) from bv_231); have eS : bv S o = -VR S o := bv_n (by omega) (by omega); have rp := VR_p iu_185 ho (hdv.2.2.2.2.1 (by omega)); exact ediv_u (by rw [e1, e2, eq, eo, eS, eb, d1]; grind) (by rw [e2, eo, eb]; omega) (by rw [e2, eo, eb]; omega)), (show Hd (bs u_228 q) from (bs_fr fu_228 (pB_no (neS noq) (tau_ne hq (big_row ho).1 (fun h => by cases h))) (bs_fr fu_220 (pB_no (neS noq) (tau_ne hq (big_row ho).1 (fun h => by cases h))) xu_213.2.2.2.2))), (show Hd (bs u_228 o) from xu_228.2.2.2.2.2)⟩⟩ dX0_divide_121
  · have q_236 : 0 ≤ S.1 o 1 ∧ S.1 o 1 ≤ 32 := hI.fi o 1 0 (big_lt ho) ho
    have lk_237 : u_1.1 o 1 = S.1 o 1 := (fu_1 o (pB_no (neD noq) (tau_ne ho (big_row hq).1 (fun h => by cases h)))).1 1
    have q_238 : 0 ≤ u_1.1 q 1 ∧ u_1.1 q 1 ≤ 32 := iu_1.fi q 1 0 (big_lt hq) hq
    have q_239 : (-1) ≤ S.1 o 2 ∧ S.1 o 2 ≤ 1 := hI.fi o 2 0 (big_lt ho) ho
    have lk_240 : u_1.1 o 2 = S.1 o 2 := (fu_1 o (pB_no (neD noq) (tau_ne ho (big_row hq).1 (fun h => by cases h)))).1 2
    exact sVret Cx hr hlk hW hL ⟨iu_1, F_3, ⟨by omega, by omega, fun z => absurd z (by omega), fun z => by omega, by omega, by omega, (fun z => absurd z (by omega)), (show Hd (bs u_1 q) from (xu_1.2.2.2.2.2 (by decide) (by decide)).2), (show Hd (bs u_1 o) from (bs_fr fu_1 (pB_no (neD noq) (tau_ne ho (big_row hq).1 (fun h => by cases h))) hso))⟩⟩ dX0_divide_12
