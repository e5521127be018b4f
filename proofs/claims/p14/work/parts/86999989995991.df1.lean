def RWz (S : sS) (n c : Int) (R : Int → Int → Int) : Prop := S.1 120 8 = n ∧ S.1 120 9 = c ∧ ∀ k j, 0 ≤ k → k ≤ c → 0 ≤ j → j ≤ n → nv (S.2.1 121) ((k * 13 + j) * 8) = R k j
def FCz (S : sS) (ff : Int → Int) : Prop := ∀ k, 1 ≤ k → k ≤ 40 → nv (S.2.1 122) (k * 8) = ff k
theorem RWz.of {S u : sS} {n c : Int} {R : Int → Int → Int} (h : RWz S n c R) (e8 : u.1 120 8 = S.1 120 8) (e9 : u.1 120 9 = S.1 120 9) (e : u.2.1 121 = S.2.1 121) : RWz u n c R := by
  unfold RWz; rw [e8, e9, e]; exact h
theorem FCz.of {S u : sS} {ff : Int → Int} (h : FCz S ff) (e : u.2.1 122 = S.2.1 122) : FCz u ff := by unfold FCz; rw [e]; exact h
theorem slot7z {G : sG} {S : sS} {x : Nat} {b : Int} {k : Nat} {a : Int} (h : cX G S x 0 b) (hk : k = 121 ∨ k = 122) (m0 : a % 8 = 0) (m1 : 0 ≤ a) (m2 : a + 7 < slotN k) : -7 ≤ S.2.1 k a ∧ S.2.1 k a ≤ 7 := by
  have e := (h.sl (k := k) m0 m1 m2).1
  rcases hk with q | q <;> subst q <;> exact e
theorem RWz.sv {G : sG} {S u : sS} {n c : Int} {R : Int → Int → Int} {x : Nat} {b a j : Int} (h : RWz S n c R) (hI : cX G S x 0 b) (hn : n ≤ 12) (hc : c ≤ 40) (ha : a = ((c + 1) * 13 + j) * 8) (hj : 0 ≤ j) (e8 : u.1 120 8 = S.1 120 8) (e9 : u.1 120 9 = S.1 120 9) (hf : ∀ y, y < a ∨ a + 8 ≤ y → u.2.1 121 y = S.2.1 121 y) : RWz u n c R := by
  refine ⟨e8.trans h.1, e9.trans h.2.1, fun k i k0 k1 i0 i1 => ?_⟩
  rw [nv_8 (slot7z hI (.inl rfl) (by omega) (by omega) (show _ < (4264 : Int) by omega)) (fun y y0 y1 => hf y (by omega))]
  exact h.2.2 k i k0 k1 i0 i1
theorem FCz.put {G : sG} {S u : sS} {ff : Int → Int} {x : Nat} {b k v : Int} (h : FCz S ff) (hI : cX G S x 0 b) (hk : 1 ≤ k ∧ k ≤ 40) (hv : nv (u.2.1 122) (k * 8) = v) (hf : ∀ y, y < k * 8 ∨ k * 8 + 8 ≤ y → u.2.1 122 y = S.2.1 122 y) : FCz u (upf ff k v) := by
  intro i i0 i1
  unfold upf
  by_cases q : i = k
  · rw [if_pos q, q]; exact hv
  · rw [if_neg q, nv_8 (slot7z hI (.inr rfl) (by omega) (by omega) (show _ < (328 : Int) by omega)) (fun y y0 y1 => hf y (by omega))]
    exact h i i0 i1
theorem RWz.up {S u : sS} {n c : Int} {R : Int → Int → Int} {f : Int → Int} (h : RWz S n c R) (e8 : u.1 120 8 = n) (e9 : u.1 120 9 = c + 1) (er : u.2.1 121 = S.2.1 121) (hf : ∀ j, 0 ≤ j → j ≤ n → nv (S.2.1 121) (((c + 1) * 13 + j) * 8) = f j) : RWz u n (c + 1) (upR R (c + 1) f) := by
  refine ⟨e8, e9, fun k j k0 k1 j0 j1 => ?_⟩
  unfold upR
  rw [er]
  by_cases q : k = c + 1
  · rw [if_pos q, q]; exact hf j j0 j1
  · rw [if_neg q]; exact h.2.2 k j k0 (by omega) j0 j1
def RRz (S : sS) (n c : Int) (R : Int → Int → Int) : Prop := ∀ k j, 0 ≤ k → k ≤ c → 0 ≤ j → j ≤ n → nv (S.2.1 121) ((k * 13 + j) * 8) = R k j
theorem RRz.of {S u : sS} {n c : Int} {R : Int → Int → Int} (h : RRz S n c R) (e : u.2.1 121 = S.2.1 121) : RRz u n c R := by unfold RRz; rw [e]; exact h
theorem RRz.sv {G : sG} {S u : sS} {n c : Int} {R : Int → Int → Int} {x : Nat} {b a j : Int} (h : RRz S n c R) (hI : cX G S x 0 b) (hn : n ≤ 12) (hc : c ≤ 39) (ha : a = ((c + 1) * 13 + j) * 8) (hj : 0 ≤ j) (hf : ∀ y, y < a ∨ a + 8 ≤ y → u.2.1 121 y = S.2.1 121 y) : RRz u n c R := by
  intro k i k0 k1 i0 i1
  rw [nv_8 (slot7z hI (.inl rfl) (by omega) (by omega) (show _ < (4264 : Int) by omega)) (fun y y0 y1 => hf y (by omega))]
  exact h k i k0 k1 i0 i1
theorem nv_sz {G : sG} {S u : sS} {x : Nat} {b a p : Int} (hI : cX G S x 0 b) (hp : p % 8 = 0 ∧ 0 ≤ p ∧ p + 7 < 4264) (hf : ∀ y, y < a ∨ a + 8 ≤ y → u.2.1 121 y = S.2.1 121 y) (ha : p + 8 ≤ a ∨ a + 8 ≤ p) : nv (u.2.1 121) p = nv (S.2.1 121) p :=
  nv_8 (slot7z hI (.inl rfl) hp.1 hp.2.1 (show _ < (4264 : Int) from hp.2.2)) (fun y y0 y1 => hf y (by omega))
def pRz (k : Nat) : Bool := rgB 120 134 k
theorem rgW_120 : ∀ k, 120 + 3 ≤ k → k ≤ 120 + 8 → pRz k = true := fun k h1 h2 => rgB_i (by omega)
theorem mo_pRz {o : Nat} (m : mdl o) : pRz o = false ∧ pRz (o + 1) = false ∧ pRz (o + 2) = false := by
  have a : ∀ o, o < 231 → tau o = .inl 3 → pRz o = false ∧ pRz (o + 1) = false ∧ pRz (o + 2) = false := by decide +kernel
  exact a o (mdl_k m) m.1
theorem pRz_W : ∀ k, pRz k = true → pW k = true := fun k h => by
  have := rgB_t h
  by_cases e : k = 120
  · rw [e]; rfl
  · simp [pW, pN, rgB_i (a := 121) (b := 134) (k := k) ⟨by omega, by omega⟩]
set_option maxRecDepth 100000 in
set_option maxHeartbeats 4000000 in
theorem z_X6_clearFactors_120 (l : Launch) (G : sG) (S : sS)  (hI : cX G S 0 0 0) : Met l yX6_clearFactors (.code yX6_clearFactors cX6_clearFactors 2 none :: tb) (rmk 1 0 0) (sPc G 294 S [.ref (G.2.2.1 + 120)]) (sQv G 294 (fun u => cX G u 0 0 0 ∧ Fr S u (p1 122) ∧ (Hd (FCz u (fun _ => 0))))) 0 0 (sF G) := by
  refine sEnter (by decide) (Nat.le_of_ble_eq_true rfl) ?_
  intro p e s m args below meth c Cx hr hlk hnm hW ls hl
  have Cx : sC G p m c cX6_clearFactors 2 s args RX6 := Cx
  obtain ⟨hx, hb, hml, hown, hts⟩ := id Cx.1
  have hL : sL G [] := sL_nil
  have hl : lv_has ls 2 [(0, .ref (G.2.2.1 + 120))] := hl
  have hW0 := hW
  refine lv_iconst (v := iv 0) hx hb dX6_clearFactors_0 (by decide) ?_
  refine lv_istore_n (lv' := [(1, .int (iv 0)), (0, .ref (G.2.2.1 + 120))]) hx hb dX6_clearFactors_1 rfl hl (by decide) rfl (fun ls hl => ?_)
  have loop_2 : ∀ (fuel : Nat) (S2 : sS) (k : Int) (H : Heap) (locs : List Loc) (ls : Array Slot), (41 - k).toNat < fuel → (cX G S2 0 0 0) → (Fr S S2 (p1 122)) → (Fr S S2 (p1 122)) → (0 ≤ k ∧ k ≤ 41) → (Hd (∀ i, 0 ≤ i → i < k → S2.2.1 122 (i * 8) = 0)) → sW G 294 S2 H → sL G locs → lv_has ls 2 [(1, .int (iv k)), (0, .ref (G.2.2.1 + 120))] → W p l e (rmk 1 0 0) s m args below meth c H locs 0 0 (MQ below (sQv G 294 (fun u => cX G u 0 0 0 ∧ Fr S u (p1 122) ∧ (Hd (FCz u (fun _ => 0))))) args s 0 0 (sF G)) (F0 m 2 ls []) := by
    intro fuel
    induction fuel with
    | zero => intro S2 k H locs ls hmeas hI2 hFm2 hL2_ hk hz9 hW hL hl; exact absurd hmeas (Nat.not_lt_zero _)
    | succ fuel ih_2 =>
      intro S2 k H locs ls hmeas hI2 hFm2 hL2_ hk hz9 hW hL hl
      refine lv_iload_n hx hb dX6_clearFactors_2 rfl (lv_at hl 0 rfl) ?_
      refine lv_bipush (v := iv 40) hx hb dX6_clearFactors_3 (by decide) ?_
      refine r_icmp_gt (tgt := 24) hx hb ⟨(by omega), (by omega)⟩ ⟨(by omega), (by omega)⟩ dX6_clearFactors_5 (by decide) (fun c_1 => ?_) (fun c_1 => ?_)
      · exact sVret Cx hr hlk hW hL ⟨hI2, hFm2, (fun k k0 k1 => nvz0 (hz9 k (by omega) (by omega)))⟩ dX6_clearFactors_24
      · refine lv_aload_n hx hb dX6_clearFactors_8 rfl (lv_at hl 1 rfl) ?_
        refine g_X6_17 Cx hW (k := 120) (by decide) rfl (v := .ref (G.2.2.1 + 122)) (rf_120_1 hI2) dX6_clearFactors_9 ?_
        refine lv_iload_n hx hb dX6_clearFactors_12 rfl (lv_at hl 0 rfl) ?_
        refine lv_bipush (v := iv 8) hx hb dX6_clearFactors_13 (by decide) ?_
        refine r_imul hx hb dX6_clearFactors_15 ?_
        refine lv_iconst (v := iv 0) hx hb dX6_clearFactors_16 (by decide) ?_
        have hz : SlotOK (S2.2.1 122) (k * 8) 7 999999999 := hI2.sl (k := 122) (by omega) (by omega) (show _ < (328 : Int) by omega)
        have j_2 := hI2.exS 122 (k * 8)
        refine rIast Cx hW hL (k := 122) (by decide) rfl (by decide) (by omega) (by omega) dX6_clearFactors_17 (fun H locs hW hL => ?_)
        have F_3 : Fr S (uA S2 122 (k * 8) 0) (p1 122) := hFm2.A rfl
        have F_4 : Fr S (uA S2 122 (k * 8) 0) (p1 122) := hL2_.A rfl
        have i_5 : cX G (uA S2 122 (k * 8) 0) 0 122 (k * 8) := j_2.slot rfl ⟨by omega, by omega, by omega⟩ ⟨(by omega), (by omega)⟩ (fun q _ => by omega)
        have j_6 : cX G (uA S2 122 (k * 8) 0) 0 0 0 := i_5.inS (fun _ => slot0 hz (by decide) uA_on (fun i i0 i1 => uA_ne (by omega)))
        refine lv_iinc (v := iv (k + 1)) (lv' := [(1, .int (iv (k + 1))), (0, .ref (G.2.2.1 + 120))]) hx hb dX6_clearFactors_18 hl (k := 0) rfl ((Int32.ofInt_add _ _).symm) (by decide) rfl (fun ls hl => ?_)
        refine lv_goto (tgt := 2) hx hb dX6_clearFactors_21 (by decide) ?_
        exact ih_2 (uA S2 122 (k * 8) 0) (k + 1) _ _ _ (by omega) j_6 F_3 F_4 (by omega) (fun i a b => by by_cases q : i = k; (rw [q]; exact uA_on); (rw [uA_ne (by omega)]; exact hz9 i a (by omega))) hW hL (lv_sub hl [0, 1] rfl)
  exact loop_2 (_ + 1) S 0 _ _ _ (Nat.lt_succ_self _) hI (Fr.rf : Fr S S (p1 122)) Fr.rf (by omega) (fun i a b => absurd b (by omega)) hW hL (lv_sub hl [0, 1] rfl)

set_option maxRecDepth 100000 in
set_option maxHeartbeats 4000000 in
theorem b_X6_setFactor_120 (l : Launch) (G : sG) (S : sS) {v : Nat} {k : Int} {ff : Int → Int} (hI : cX G S 0 0 0) (hv : tau v = .inl 0) (hk : 1 ≤ k ∧ k ≤ 40) (hc : S.1 v 1 ≤ 7) (hF : Hd (FCz S ff)) (hbv : Hd (bs S v)) : Met l yX6_setFactor (.code yX6_setFactor cX6_setFactor 3 none :: tb) (rmk 3 0 0) (sPc G 294 S [.ref (G.2.2.1 + 120), .int (iv k), .ref (G.2.2.1 + v)]) (sQv G 294 (fun u => cX G u 0 0 0 ∧ Fr S u (p1 122) ∧ (Hd (FCz u (upf ff k (bv S v)))))) 0 0 (sF G) := by
  refine sEnter (by decide) (Nat.le_of_ble_eq_true rfl) ?_
  intro p e s m args below meth c Cx hr hlk hnm hW ls hl
  have Cx : sC G p m c cX6_setFactor 3 s args RX6 := Cx
  obtain ⟨hx, hb, hml, hown, hts⟩ := id Cx.1
  have hL : sL G [] := sL_nil
  have hl : lv_has ls 3 [(0, .ref (G.2.2.1 + 120)), (1, .int (iv k)), (2, .ref (G.2.2.1 + v))] := hl
  have hW0 := hW
  refine lv_aload_n hx hb dX6_setFactor_0 rfl (lv_at hl 2 rfl) ?_
  refine lv_aload_n hx hb dX6_setFactor_1 rfl (lv_at hl 0 rfl) ?_
  refine g_X6_17 Cx hW (k := 120) (by decide) rfl (v := .ref (G.2.2.1 + 122)) (rf_120_1 hI) dX6_setFactor_2 ?_
  refine lv_iload_n hx hb dX6_setFactor_5 rfl (lv_at hl 1 rfl) ?_
  refine lv_bipush (v := iv 8) hx hb dX6_setFactor_6 (by decide) ?_
  refine r_imul hx hb dX6_setFactor_8 ?_
  have q_1 : 0 ≤ S.1 v 1 ∧ S.1 v 1 ≤ 32 := hI.fi v 1 0 (big_lt hv) hv
  have q_2 : (-1) ≤ S.1 v 2 ∧ S.1 v 2 ≤ 1 := hI.fi v 2 0 (big_lt hv) hv
  refine sBv (sV (As := [.ref (G.2.2.1 + 122), .int (iv (k * 8))]) (rest := []) (k := v) Cx (b_X0_save l G S (o := v) (k := 122) (a := k * 8) (N := 328) hI hv ⟨by decide, rfl, by decide, rfl, rfl, rfl⟩ (by omega) (show _ ≤ (7 : Int) ∧ (_ → _ ≤ (999999999 : Int)) from ⟨by omega, fun _ => by have := limbR hI hv 6; omega⟩) (fun q _ => by rcases q with q | q <;> exact absurd q (by decide))) (c_X6_83 Cx rfl rfl (rmk_ok (by omega) (by decide))) hW (big_l hv) hv rfl rfl hl.1 rfl (Nat.le_of_ble_eq_true rfl) dX6_setFactor_9 ⟨Nat.le_of_ble_eq_true rfl, Nat.le_of_ble_eq_true rfl⟩) hL (fun u_3 H locs k_4 hW hL => ?_)
  obtain ⟨iu_3, fu_3, xu_3⟩ := k_4
  have F_5 := (Fr.rf : Fr S S (p1 122)).trans fu_3
  exact sVret Cx hr hlk hW hL ⟨iu_3, F_5, (hF.put hI (by omega) (xu_3.1 hbv) xu_3.2)⟩ dX6_setFactor_12

set_option maxRecDepth 100000 in
set_option maxHeartbeats 4000000 in
theorem z_X6_combine_120_129 (l : Launch) (G : sG) (S : sS) {j : Int} {n cc : Int} {RR : Int → Int → Int} {ff : Int → Int} (hI : cX G S 0 0 0) (hj : 0 ≤ j ∧ j ≤ 12) (hR : Hd (RWz S n cc RR)) (hF : Hd (FCz S ff)) (hjn : j ≤ n) : Met l yX6_combine (.code yX6_combine cX6_combine 4 none :: tb) (rmk 4 0 0) (sPc G 294 S [.ref (G.2.2.1 + 120), .int (iv j), .ref (G.2.2.1 + 129)]) (sQv G 294 (fun u => cX G u 0 0 0 ∧ Fr S u (pK 120 129) ∧ (u.1 129 1 ≤ 15 ∧ Hd (u.1 129 1 = 15 → u.2.1 130 14 ≤ 40) ∧ Hd (bv u 129 = smf ff RR j cc.toNat) ∧ Hd (bs u 129)))) 0 0 (sF G) := by
  refine sEnter (by decide) (Nat.le_of_ble_eq_true rfl) ?_
  intro p e s m args below meth c Cx hr hlk hnm hW ls hl
  have Cx : sC G p m c cX6_combine 4 s args RX6 := Cx
  obtain ⟨hx, hb, hml, hown, hts⟩ := id Cx.1
  have hL : sL G [] := sL_nil
  have hl : lv_has ls 4 [(0, .ref (G.2.2.1 + 120)), (1, .int (iv j)), (2, .ref (G.2.2.1 + 129))] := hl
  have hW0 := hW
  have hn0 : 0 ≤ S.1 120 8 ∧ S.1 120 8 ≤ 12 := hI.fi 120 8 6 (by decide) rfl; have hc0 : 0 ≤ S.1 120 9 ∧ S.1 120 9 ≤ 40 := hI.fi 120 9 6 (by decide) rfl; have hR1 := hR.1; have hR2 := hR.2.1
  refine lv_aload_n hx hb dX6_combine_0 rfl (lv_at hl 2 rfl) ?_
  refine lv_lconst (v := jv 0) hx hb dX6_combine_1 (by decide) ?_
  refine sBv (sV (As := [.long (jv 0)]) (rest := []) (k := 129) Cx (b_X0_put l G S (o := 129) (v := 0) hI rfl (by omega)) (c_X6_86 Cx rfl rfl (rmk_ok (by omega) (by decide))) hW (by decide) rfl rfl rfl hl.1 rfl (Nat.le_of_ble_eq_true rfl) dX6_combine_2 ⟨Nat.le_of_ble_eq_true rfl, Nat.le_of_ble_eq_true rfl⟩) hL (fun u_1 H locs k_2 hW hL => ?_)
  obtain ⟨iu_1, fu_1, xu_1⟩ := k_2
  have F_3 := (Fr.rf : Fr S S (pK 120 129)).trans (fu_1.to (pB_sub rfl rfl))
  have bv_4 : bv u_1 129 = 0 := (xu_1.2.2.2.2.2 (by decide) (by decide)).1
  refine lv_iconst (v := iv 1) hx hb dX6_combine_5 (by decide) ?_
  refine lv_istore_n (lv' := [(3, .int (iv 1)), (0, .ref (G.2.2.1 + 120)), (1, .int (iv j)), (2, .ref (G.2.2.1 + 129))]) hx hb dX6_combine_6 rfl hl (by decide) rfl (fun ls hl => ?_)
  have loop_7 : ∀ (fuel : Nat) (S7 : sS) (k : Int) (H : Heap) (locs : List Loc) (ls : Array Slot), (41 - k).toNat < fuel → (cX G S7 0 0 0) → (Fr S S7 (pK 120 129)) → (Fr u_1 S7 (pK 120 129)) → (1 ≤ k ∧ k ≤ 41) → (S7.1 129 1 ≤ 15) → (Hd (S7.1 129 1 = 15 → S7.2.1 130 14 ≤ k - 1)) → (Hd (bv S7 129 = smf ff RR j (k - 1).toNat)) → (Hd (bs S7 129)) → (k ≤ cc + 1) → sW G 294 S7 H → sL G locs → lv_has ls 4 [(3, .int (iv k)), (0, .ref (G.2.2.1 + 120)), (1, .int (iv j)), (2, .ref (G.2.2.1 + 129))] → W p l e (rmk 4 0 0) s m args below meth c H locs 0 0 (MQ below (sQv G 294 (fun u => cX G u 0 0 0 ∧ Fr S u (pK 120 129) ∧ (u.1 129 1 ≤ 15 ∧ Hd (u.1 129 1 = 15 → u.2.1 130 14 ≤ 40) ∧ Hd (bv u 129 = smf ff RR j cc.toNat) ∧ Hd (bs u 129)))) args s 0 0 (sF G)) (F0 m 7 ls []) := by
    intro fuel
    induction fuel with
    | zero => intro S7 k H locs ls hmeas hI7 hFm7 hL7_ hk hc ht hbv hbs hkc hW hL hl; exact absurd hmeas (Nat.not_lt_zero _)
    | succ fuel ih_7 =>
      intro S7 k H locs ls hmeas hI7 hFm7 hL7_ hk hc ht hbv hbs hkc hW hL hl
      refine lv_iload_n hx hb dX6_combine_7 rfl (lv_at hl 0 rfl) ?_
      refine lv_aload_n hx hb dX6_combine_8 rfl (lv_at hl 1 rfl) ?_
      have q_5 : 0 ≤ S.1 120 9 ∧ S.1 120 9 ≤ 40 := hI.fi 120 9 6 (by decide) rfl
      refine g_X6_50 Cx hW (k := 120) (by decide) rfl (v := S.1 120 9) (((hL7_ 120 rfl).1 9).trans ((fu_1 120 rfl).1 9)) dX6_combine_9 ?_
      refine r_icmp_gt (tgt := 101) hx hb ⟨(by omega), (by omega)⟩ ⟨(by omega), (by omega)⟩ dX6_combine_12 (by decide) (fun c_6 => ?_) (fun c_6 => ?_)
      · have q_7 : 0 ≤ S7.1 129 1 ∧ S7.1 129 1 ≤ 32 := hI7.fi 129 1 0 (by decide) rfl
        exact sVret Cx hr hlk hW hL ⟨hI7, hFm7, ⟨by omega, fun q => by have e := ht q; omega, (show _ = _ by rw [show cc = k - 1 by omega]; exact hbv), hbs⟩⟩ dX6_combine_101
      · refine lv_aload_n hx hb dX6_combine_15 rfl (lv_at hl 1 rfl) ?_
        refine g_X6_17 Cx hW (k := 120) (by decide) rfl (v := .ref (G.2.2.1 + 122)) (rf_120_1 hI7) dX6_combine_16 ?_
        refine lv_iload_n hx hb dX6_combine_19 rfl (lv_at hl 0 rfl) ?_
        refine lv_bipush (v := iv 8) hx hb dX6_combine_20 (by decide) ?_
        refine r_imul hx hb dX6_combine_22 ?_
        refine rIald Cx hW (k := 122) (by decide) rfl (by decide) (by omega) (by omega) dX6_combine_23 ?_
        have q_8 : (-2147483648) ≤ S.2.1 122 (k * 8) ∧ S.2.1 122 (k * 8) ≤ 2147483647 := hI.ai 122 (k * 8) (by decide)
        refine r_i (b := S.2.1 122 (k * 8)) (((hL7_ 122 rfl).2.1 (k * 8)).trans ((fu_1 122 rfl).2.1 (k * 8))) ?_
        refine r_if_eq (tgt := 95) hx hb ⟨(by omega), (by omega)⟩ dX6_combine_24 (by decide) (fun c_9 => ?_) (fun c_9 => ?_)
        · refine lv_iinc (v := iv (k + 1)) (lv' := [(3, .int (iv (k + 1))), (0, .ref (G.2.2.1 + 120)), (1, .int (iv j)), (2, .ref (G.2.2.1 + 129))]) hx hb dX6_combine_95 hl (k := 0) rfl ((Int32.ofInt_add _ _).symm) (by decide) rfl (fun ls hl => ?_)
          refine lv_goto (tgt := 7) hx hb dX6_combine_98 (by decide) ?_
          have q_10 : 0 ≤ S7.1 129 1 ∧ S7.1 129 1 ≤ 32 := hI7.fi 129 1 0 (by decide) rfl
          exact ih_7 S7 (k + 1) _ _ _ (by omega) hI7 hFm7 hL7_ (by omega) (by omega) (fun q => by have e := ht q; omega) (show _ = _ by rw [smf_st (by omega)]; have e : bv S7 129 = _ := hbv; first | (have z : ff k = 0 := (hF k (by omega) (by omega)).symm.trans (nvz0 (by omega)); rw [z, Int.zero_mul, Int.add_zero]; exact e) | (have z : RR k j = 0 := (hR.2.2 k j (by omega) (by omega) (by omega) (by omega)).symm.trans (nvz0 (by rw [← show 0 = (k * 13 + j) * 8 by omega]; omega)); rw [z, Int.mul_zero, Int.add_zero]; exact e)) (show Hd (bs S7 129) from hbs) (by omega) hW hL (lv_sub hl [0, 1, 2, 3] rfl)
        · refine lv_aload_n hx hb dX6_combine_27 rfl (lv_at hl 1 rfl) ?_
          refine g_X6_13 Cx hW (k := 120) (by decide) rfl (v := .ref (G.2.2.1 + 121)) (rf_120_0 hI7) dX6_combine_28 ?_
          refine lv_iload_n hx hb dX6_combine_31 rfl (lv_at hl 0 rfl) ?_
          refine lv_iload_n hx hb dX6_combine_32 rfl (lv_at hl 2 rfl) ?_
          refine sBi (sSt (As := [.int (iv k), .int (iv j)]) (rest := [.ref (G.2.2.1 + 121)]) Cx (s_X6_at l G S7 (k := k) (j := j) (by omega) (by omega)) (c_X6_53 Cx rfl rfl (rmk_ok (by omega) (by decide))) hW rfl hl.1 rfl (Nat.le_of_ble_eq_true rfl) dX6_combine_33 ⟨Nat.le_of_ble_eq_true rfl, Nat.le_of_ble_eq_true rfl⟩) hL (fun r_13 u_11 H locs k_12 hW hL => ?_)
          obtain ⟨eu_11, xu_11⟩ := k_12
          rw [eu_11] at hW
          refine rIald Cx hW (k := 121) (by decide) rfl (by decide) (by omega) (by omega) dX6_combine_36 ?_
          have q_14 : (-2147483648) ≤ S.2.1 121 r_13 ∧ S.2.1 121 r_13 ≤ 2147483647 := hI.ai 121 r_13 (by decide)
          refine r_i (b := S.2.1 121 r_13) (((hL7_ 121 rfl).2.1 r_13).trans ((fu_1 121 rfl).2.1 r_13)) ?_
          refine r_if_eq (tgt := 95) hx hb ⟨(by omega), (by omega)⟩ dX6_combine_37 (by decide) (fun c_15 => ?_) (fun c_15 => ?_)
          · refine lv_iinc (v := iv (k + 1)) (lv' := [(3, .int (iv (k + 1))), (0, .ref (G.2.2.1 + 120)), (1, .int (iv j)), (2, .ref (G.2.2.1 + 129))]) hx hb dX6_combine_95 hl (k := 0) rfl ((Int32.ofInt_add _ _).symm) (by decide) rfl (fun ls hl => ?_)
            refine lv_goto (tgt := 7) hx hb dX6_combine_98 (by decide) ?_
            have q_16 : 0 ≤ S7.1 129 1 ∧ S7.1 129 1 ≤ 32 := hI7.fi 129 1 0 (by decide) rfl
            exact ih_7 S7 (k + 1) _ _ _ (by omega) hI7 hFm7 hL7_ (by omega) (by omega) (fun q => by have e := ht q; omega) (show _ = _ by rw [smf_st (by omega)]; have e : bv S7 129 = _ := hbv; first | (have z : ff k = 0 := (hF k (by omega) (by omega)).symm.trans (nvz0 (by omega)); rw [z, Int.zero_mul, Int.add_zero]; exact e) | (have z : RR k j = 0 := (hR.2.2 k j (by omega) (by omega) (by omega) (by omega)).symm.trans (nvz0 (by rw [← show r_13 = (k * 13 + j) * 8 by omega]; omega)); rw [z, Int.mul_zero, Int.add_zero]; exact e)) (show Hd (bs S7 129) from hbs) (by omega) hW hL (lv_sub hl [0, 1, 2, 3] rfl)
          · refine lv_aload_n hx hb dX6_combine_40 rfl (lv_at hl 1 rfl) ?_
            refine g_X6_21 Cx hW (k := 120) (by decide) rfl (v := .ref (G.2.2.1 + 123)) (rf_120_2 hI7) dX6_combine_41 ?_
            refine lv_aload_n hx hb dX6_combine_44 rfl (lv_at hl 1 rfl) ?_
            refine g_X6_17 Cx hW (k := 120) (by decide) rfl (v := .ref (G.2.2.1 + 122)) (rf_120_1 hI7) dX6_combine_45 ?_
            refine lv_iload_n hx hb dX6_combine_48 rfl (lv_at hl 0 rfl) ?_
            refine lv_bipush (v := iv 8) hx hb dX6_combine_49 (by decide) ?_
            refine r_imul hx hb dX6_combine_51 ?_
            refine sBv (sV (As := [.ref (G.2.2.1 + 122), .int (iv (k * 8))]) (rest := []) (k := 123) Cx (b_X0_load l G S7 (o := 123) (k := 122) (a := k * 8) (N := 328) hI7 rfl ⟨by decide, rfl, by decide, rfl, rfl, rfl⟩ (by omega)) (c_X6_75 Cx rfl rfl (rmk_ok (by omega) (by decide))) hW (by decide) rfl rfl rfl hl.1 rfl (Nat.le_of_ble_eq_true rfl) dX6_combine_52 ⟨Nat.le_of_ble_eq_true rfl, Nat.le_of_ble_eq_true rfl⟩) hL (fun u_17 H locs k_18 hW hL => ?_)
            obtain ⟨iu_17, fu_17, xu_17⟩ := k_18
            have F_19 := hFm7.trans (fu_17.to (pB_sub rfl rfl))
            have F_20 := hL7_.trans (fu_17.to (pB_sub rfl rfl))
            have yu_17 : u_17.1 123 1 ≤ 7 := xu_17.1
            have bv_21 : bv u_17 123 = nv (S7.2.1 122) (k * 8) := xu_17.2.2.2.2.2.2.2.1
            have bv_22 : bv u_17 123 = ff k := ((show bv u_17 123 = nv (S7.2.1 122) (k * 8) from bv_21)).trans ((FCz.of hF (show S7.2.1 122 = S.2.1 122 from funext fun x => ((hL7_ 122 rfl).2.1 x).trans ((fu_1 122 rfl).2.1 x))) k (by omega) (by omega))
            refine lv_aload_n hx hb dX6_combine_55 rfl (lv_at hl 1 rfl) ?_
            refine g_X6_25 Cx hW (k := 120) (by decide) rfl (v := .ref (G.2.2.1 + 125)) (rf_120_3 iu_17) dX6_combine_56 ?_
            refine lv_aload_n hx hb dX6_combine_59 rfl (lv_at hl 1 rfl) ?_
            refine g_X6_13 Cx hW (k := 120) (by decide) rfl (v := .ref (G.2.2.1 + 121)) (rf_120_0 iu_17) dX6_combine_60 ?_
            refine lv_iload_n hx hb dX6_combine_63 rfl (lv_at hl 0 rfl) ?_
            refine lv_iload_n hx hb dX6_combine_64 rfl (lv_at hl 2 rfl) ?_
            refine sBi (sSt (As := [.int (iv k), .int (iv j)]) (rest := [.ref (G.2.2.1 + 121), .ref (G.2.2.1 + 125)]) Cx (s_X6_at l G u_17 (k := k) (j := j) (by omega) (by omega)) (c_X6_53 Cx rfl rfl (rmk_ok (by omega) (by decide))) hW rfl hl.1 rfl (Nat.le_of_ble_eq_true rfl) dX6_combine_65 ⟨Nat.le_of_ble_eq_true rfl, Nat.le_of_ble_eq_true rfl⟩) hL (fun r_25 u_23 H locs k_24 hW hL => ?_)
            obtain ⟨eu_23, xu_23⟩ := k_24
            rw [eu_23] at hW
            refine sBv (sV (As := [.ref (G.2.2.1 + 121), .int (iv r_25)]) (rest := []) (k := 125) Cx (b_X0_load l G u_17 (o := 125) (k := 121) (a := r_25) (N := 4264) iu_17 rfl ⟨by decide, rfl, by decide, rfl, rfl, rfl⟩ (by omega)) (c_X6_75 Cx rfl rfl (rmk_ok (by omega) (by decide))) hW (by decide) rfl rfl rfl hl.1 rfl (Nat.le_of_ble_eq_true rfl) dX6_combine_68 ⟨Nat.le_of_ble_eq_true rfl, Nat.le_of_ble_eq_true rfl⟩) hL (fun u_26 H locs k_27 hW hL => ?_)
            obtain ⟨iu_26, fu_26, xu_26⟩ := k_27
            have F_28 := F_19.trans (fu_26.to (pB_sub rfl rfl))
            have F_29 := F_20.trans (fu_26.to (pB_sub rfl rfl))
            have yu_26 : u_26.1 125 1 ≤ 7 := xu_26.1
            have bv_30 : bv u_26 125 = nv (u_17.2.1 121) r_25 := xu_26.2.2.2.2.2.2.2.1
            have bv_31 : bv u_26 125 = RR k j := ((show bv u_26 125 = nv (u_17.2.1 121) r_25 from bv_30)).trans (by rw [show r_25 = (k * 13 + j) * 8 by omega]; exact (RWz.of hR (show u_17.1 120 8 = S.1 120 8 from ((fu_17 120 rfl).1 8).trans (((hL7_ 120 rfl).1 8).trans ((fu_1 120 rfl).1 8))) (show u_17.1 120 9 = S.1 120 9 from ((fu_17 120 rfl).1 9).trans (((hL7_ 120 rfl).1 9).trans ((fu_1 120 rfl).1 9))) (show u_17.2.1 121 = S.2.1 121 from funext fun x => ((fu_17 121 rfl).2.1 x).trans (((hL7_ 121 rfl).2.1 x).trans ((fu_1 121 rfl).2.1 x)))).2.2 k j (by omega) (by omega) (by omega) (by omega))
            refine lv_aload_n hx hb dX6_combine_71 rfl (lv_at hl 1 rfl) ?_
            refine g_X6_28 Cx hW (k := 120) (by decide) rfl (v := .ref (G.2.2.1 + 127)) (rf_120_4 iu_26) dX6_combine_72 ?_
            refine lv_aload_n hx hb dX6_combine_75 rfl (lv_at hl 1 rfl) ?_
            refine g_X6_21 Cx hW (k := 120) (by decide) rfl (v := .ref (G.2.2.1 + 123)) (rf_120_2 iu_26) dX6_combine_76 ?_
            refine lv_aload_n hx hb dX6_combine_79 rfl (lv_at hl 1 rfl) ?_
            refine g_X6_25 Cx hW (k := 120) (by decide) rfl (v := .ref (G.2.2.1 + 125)) (rf_120_3 iu_26) dX6_combine_80 ?_
            have q_32 : 0 ≤ u_17.1 123 1 ∧ u_17.1 123 1 ≤ 32 := iu_17.fi 123 1 0 (by decide) rfl
            have lk_33 : u_26.1 123 1 = u_17.1 123 1 := (fu_26 123 rfl).1 1
            have q_34 : 0 ≤ u_26.1 125 1 ∧ u_26.1 125 1 ≤ 32 := iu_26.fi 125 1 0 (by decide) rfl
            refine sBv (sV (As := [.ref (G.2.2.1 + 123), .ref (G.2.2.1 + 125)]) (rest := []) (k := 127) Cx (b_X0_product l G u_26 (o := 127) (a := 123) (b := 125) iu_26 rfl rfl rfl (show (127 : Nat) ≠ 123 by decide) (show (127 : Nat) ≠ 125 by decide)) (c_X6_90 Cx rfl rfl (rmk_ok (by omega) (by decide))) hW (by decide) rfl rfl rfl hl.1 rfl (Nat.le_of_ble_eq_true rfl) dX6_combine_83 ⟨Nat.le_of_ble_eq_true rfl, Nat.le_of_ble_eq_true rfl⟩) hL (fun u_35 H locs k_36 hW hL => ?_)
            obtain ⟨iu_35, fu_35, xu_35⟩ := k_36
            have F_37 := F_28.trans (fu_35.to (pB_sub rfl rfl))
            have F_38 := F_29.trans (fu_35.to (pB_sub rfl rfl))
            have bv_39 : bv u_35 127 = (ff k) * (RR k j) := (by have e : bv u_35 127 = _ := xu_35.2.1 (by omega); rw [(show bv u_26 123 = ff k from (bv_fr fu_26 rfl rfl).trans (bv_22)), (show bv u_26 125 = RR k j from bv_31)] at e; exact e)
            refine lv_aload_n hx hb dX6_combine_86 rfl (lv_at hl 3 rfl) ?_
            refine lv_aload_n hx hb dX6_combine_87 rfl (lv_at hl 1 rfl) ?_
            refine g_X6_28 Cx hW (k := 120) (by decide) rfl (v := .ref (G.2.2.1 + 127)) (rf_120_4 iu_35) dX6_combine_88 ?_
            refine lv_iconst (v := iv 1) hx hb dX6_combine_91 (by decide) ?_
            have q_40 : 0 ≤ u_35.1 127 1 ∧ u_35.1 127 1 ≤ 32 := iu_35.fi 127 1 0 (by decide) rfl
            have q_41 : 0 ≤ S7.1 129 1 ∧ S7.1 129 1 ≤ 32 := hI7.fi 129 1 0 (by decide) rfl
            have lk_42 : u_35.1 129 1 = S7.1 129 1 := ((fu_35 129 rfl).1 1).trans (((fu_26 129 rfl).1 1).trans ((fu_17 129 rfl).1 1))
            have q_43 : (-1) ≤ S7.1 129 2 ∧ S7.1 129 2 ≤ 1 := hI7.fi 129 2 0 (by decide) rfl
            have lk_44 : u_35.1 129 2 = S7.1 129 2 := ((fu_35 129 rfl).1 2).trans (((fu_26 129 rfl).1 2).trans ((fu_17 129 rfl).1 2))
            have q_45 : (-1) ≤ u_35.1 127 2 ∧ u_35.1 127 2 ≤ 1 := iu_35.fi 127 2 0 (by decide) rfl
            refine sBv (sV (As := [.ref (G.2.2.1 + 127), .int (iv 1)]) (rest := []) (k := 129) Cx (b_X0_add_p l G u_35 (o := 129) (a := 127) (n := 14) (t := k - 1) iu_35 rfl rfl (show (129 : Nat) ≠ 127 by decide) (by omega) (fun q => by have e : u_35.2.1 130 14 = S7.2.1 130 14 := ((fu_35 130 rfl).2.1 14).trans (((fu_26 130 rfl).2.1 14).trans ((fu_17 130 rfl).2.1 14)); rw [e]; exact ht (by omega)) (show Hd (bs u_35 129) from (bs_fr fu_35 rfl (bs_fr fu_26 rfl (bs_fr fu_17 rfl hbs)))) (show Hd (bs u_35 127) from xu_35.2.2)) (c_X6_93 Cx rfl rfl (rmk_ok (by omega) (by decide))) hW (by decide) rfl rfl rfl hl.1 rfl (Nat.le_of_ble_eq_true rfl) dX6_combine_92 ⟨Nat.le_of_ble_eq_true rfl, Nat.le_of_ble_eq_true rfl⟩) hL (fun u_46 H locs k_47 hW hL => ?_)
            obtain ⟨iu_46, fu_46, xu_46⟩ := k_47
            have F_48 := F_37.trans (fu_46.to (pB_sub rfl rfl))
            have F_49 := F_38.trans (fu_46.to (pB_sub rfl rfl))
            have bv_50 : bv u_46 129 = bv S7 129 + ((ff k) * (RR k j)) := (by have e : bv u_46 129 = _ := xu_46.2.2.2.2.1; rw [(show bv u_35 129 = bv S7 129 from (bv_fr fu_35 rfl rfl).trans ((bv_fr fu_26 rfl rfl).trans (bv_fr fu_17 rfl rfl))), (show bv u_35 127 = (ff k) * (RR k j) from bv_39)] at e; omega)
            refine lv_iinc (v := iv (k + 1)) (lv' := [(3, .int (iv (k + 1))), (0, .ref (G.2.2.1 + 120)), (1, .int (iv j)), (2, .ref (G.2.2.1 + 129))]) hx hb dX6_combine_95 hl (k := 0) rfl ((Int32.ofInt_add _ _).symm) (by decide) rfl (fun ls hl => ?_)
            refine lv_goto (tgt := 7) hx hb dX6_combine_98 (by decide) ?_
            have q_51 : 0 ≤ u_46.1 129 1 ∧ u_46.1 129 1 ≤ 32 := iu_46.fi 129 1 0 (by decide) rfl
            exact ih_7 u_46 (k + 1) _ _ _ (by omega) iu_46 F_48 F_49 (by omega) (by omega) (fun q => by have e : u_46.2.1 130 14 ≤ k - 1 + 1 := xu_46.2.1 q; omega) (show _ = _ by have e : bv S7 129 = _ := hbv; rw [smf_st (by omega), ← e]; exact (show bv u_46 129 = bv S7 129 + ((ff k) * (RR k j)) from bv_50)) (show Hd (bs u_46 129) from xu_46.2.2.2.2.2) (by omega) hW hL (lv_sub hl [0, 1, 2, 3] rfl)
  have q_52 : 0 ≤ u_1.1 129 1 ∧ u_1.1 129 1 ≤ 32 := iu_1.fi 129 1 0 (by decide) rfl
  exact loop_7 (_ + 1) u_1 1 _ _ _ (Nat.lt_succ_self _) iu_1 F_3 Fr.rf (by omega) (by omega) (fun q => absurd q (by omega)) (show _ = _ by rw [(show bv u_1 129 = 0 from bv_4)]; rfl) (show Hd (bs u_1 129) from (xu_1.2.2.2.2.2 (by decide) (by decide)).2) (by omega) hW hL (lv_sub hl [0, 1, 2, 3] rfl)

set_option maxRecDepth 100000 in
set_option maxHeartbeats 4000000 in
theorem z_X6_addCut_120 (l : Launch) (G : sG) (S : sS) {n cc : Int} {RR : Int → Int → Int} {ff : Int → Int} (hI : cX G S 0 0 0) (hq : S.1 183 1 ≤ 30) (hR : Hd (RWz S n cc RR)) (hF : Hd (FCz S ff)) (hbq : Hd (bs S 183)) (hq0 : 0 < S.1 183 2) : Met l yX6_addCut (.code yX6_addCut cX6_addCut 3 (some .boolean) :: tb) (rmk 5 0 0) (sPc G 294 S [.ref (G.2.2.1 + 120), .ref (G.2.2.1 + 183)]) (sQi G 294 (fun r u => cX G u 0 0 0 ∧ Fr S u pRz ∧ (0 ≤ r ∧ r ≤ 1 ∧ Hd (r = 1 → cc < 40 ∧ RWz u n (cc + 1) (upR RR (cc + 1) (fun j => smf ff RR j cc.toNat / bv S 183)) ∧ ∀ j, 0 ≤ j → j ≤ n → ¬ lg60 (smf ff RR j cc.toNat / bv S 183)) ∧ Hd (r = 0 → 40 ≤ cc ∨ ∃ j, 0 ≤ j ∧ j ≤ n ∧ lg60 (smf ff RR j cc.toNat / bv S 183))))) 0 0 (sF G) := by
  refine sEnter (by decide) (Nat.le_of_ble_eq_true rfl) ?_
  intro p e s m args below meth c Cx hr hlk hnm hW ls hl
  have Cx : sC G p m c cX6_addCut 3 s args RX6 := Cx
  obtain ⟨hx, hb, hml, hown, hts⟩ := id Cx.1
  have hL : sL G [] := sL_nil
  have hl : lv_has ls 3 [(0, .ref (G.2.2.1 + 120)), (1, .ref (G.2.2.1 + 183))] := hl
  have hW0 := hW
  have hn0 : 0 ≤ S.1 120 8 ∧ S.1 120 8 ≤ 12 := hI.fi 120 8 6 (by decide) rfl; have hc0 : 0 ≤ S.1 120 9 ∧ S.1 120 9 ≤ 40 := hI.fi 120 9 6 (by decide) rfl; have hR1 := hR.1; have hR2 := hR.2.1
  refine lv_aload_n hx hb dX6_addCut_0 rfl (lv_at hl 0 rfl) ?_
  have q_1 : 0 ≤ S.1 120 9 ∧ S.1 120 9 ≤ 40 := hI.fi 120 9 6 (by decide) rfl
  refine sBi (sV (As := []) (rest := []) (k := 120) Cx (s_X6_isFull_120 l G S  hI) (c_X6_97 Cx rfl rfl (rmk_ok (by omega) (by decide))) hW (by decide) rfl rfl rfl hl.1 rfl (Nat.le_of_ble_eq_true rfl) dX6_addCut_1 ⟨Nat.le_of_ble_eq_true rfl, Nat.le_of_ble_eq_true rfl⟩) hL (fun r_4 u_2 H locs k_3 hW hL => ?_)
  obtain ⟨eu_2, xu_2⟩ := k_3
  rw [eu_2] at hW
  refine r_if_eq (tgt := 9) hx hb ⟨(by omega), (by omega)⟩ dX6_addCut_4 (by decide) (fun c_5 => ?_) (fun c_5 => ?_)
  · refine lv_iconst (v := iv 0) hx hb dX6_addCut_9 (by decide) ?_
    refine lv_istore_n (lv' := [(2, .int (iv 0)), (0, .ref (G.2.2.1 + 120)), (1, .ref (G.2.2.1 + 183))]) hx hb dX6_addCut_10 rfl hl (by decide) rfl (fun ls hl => ?_)
    have loop_11 : ∀ (fuel : Nat) (S11 : sS) (j : Int) (H : Heap) (locs : List Loc) (ls : Array Slot), (13 - j).toNat < fuel → (cX G S11 0 0 0) → (Fr S S11 pRz) → (Fr S S11 pRz) → (0 ≤ j ∧ j ≤ 13) → (S11.1 183 1 ≤ 30) → (S11.1 183 2 = S.1 183 2) → (j ≤ n + 1) → (S11.1 120 9 = cc ∧ S11.1 120 8 = n) → (Hd (RWz S11 n cc RR)) → (Hd (FCz S11 ff)) → (Hd (bs S11 183)) → (bv S11 183 = bv S 183) → (Hd (∀ i, 0 ≤ i → i < j → nv (S11.2.1 121) (((cc + 1) * 13 + i) * 8) = smf ff RR i cc.toNat / bv S 183 ∧ ¬ lg60 (smf ff RR i cc.toNat / bv S 183))) → sW G 294 S11 H → sL G locs → lv_has ls 3 [(2, .int (iv j)), (0, .ref (G.2.2.1 + 120)), (1, .ref (G.2.2.1 + 183))] → W p l e (rmk 5 0 0) s m args below meth c H locs 0 0 (MQ below (sQi G 294 (fun r u => cX G u 0 0 0 ∧ Fr S u pRz ∧ (0 ≤ r ∧ r ≤ 1 ∧ Hd (r = 1 → cc < 40 ∧ RWz u n (cc + 1) (upR RR (cc + 1) (fun j => smf ff RR j cc.toNat / bv S 183)) ∧ ∀ j, 0 ≤ j → j ≤ n → ¬ lg60 (smf ff RR j cc.toNat / bv S 183)) ∧ Hd (r = 0 → 40 ≤ cc ∨ ∃ j, 0 ≤ j ∧ j ≤ n ∧ lg60 (smf ff RR j cc.toNat / bv S 183))))) args s 0 0 (sF G)) (F0 m 11 ls []) := by
      intro fuel
      induction fuel with
      | zero => intro S11 j H locs ls hmeas hI11 hFm11 hL11_ hj hq2 hs2 hjn hcf hRl hFl hbl hvl hnl hW hL hl; exact absurd hmeas (Nat.not_lt_zero _)
      | succ fuel ih_11 =>
        intro S11 j H locs ls hmeas hI11 hFm11 hL11_ hj hq2 hs2 hjn hcf hRl hFl hbl hvl hnl hW hL hl
        refine lv_iload_n hx hb dX6_addCut_11 rfl (lv_at hl 0 rfl) ?_
        refine lv_aload_n hx hb dX6_addCut_12 rfl (lv_at hl 1 rfl) ?_
        have q_6 : 0 ≤ S11.1 120 8 ∧ S11.1 120 8 ≤ 12 := hI11.fi 120 8 6 (by decide) rfl
        refine g_X6_46 Cx hW (k := 120) (by decide) rfl (v := S11.1 120 8) rfl dX6_addCut_13 ?_
        refine r_icmp_gt (tgt := 85) hx hb ⟨(by omega), (by omega)⟩ ⟨(by omega), (by omega)⟩ dX6_addCut_16 (by decide) (fun c_7 => ?_) (fun c_7 => ?_)
        · refine lv_aload_n hx hb dX6_addCut_85 rfl (lv_at hl 1 rfl) ?_
          refine lv_dup hx hb dX6_addCut_86 rfl ?_
          have q_8 : 0 ≤ S11.1 120 9 ∧ S11.1 120 9 ≤ 40 := hI11.fi 120 9 6 (by decide) rfl
          refine g_X6_50 Cx hW (k := 120) (by decide) rfl (v := S11.1 120 9) rfl dX6_addCut_87 ?_
          refine lv_iconst (v := iv 1) hx hb dX6_addCut_90 (by decide) ?_
          refine r_iadd hx hb dX6_addCut_91 ?_
          refine p_X6_50 Cx hW hL (k := 120) (by decide) rfl dX6_addCut_92 (fun H locs hW hL => ?_)
          have F_9 : Fr S (uF S11 120 9 ((S11.1 120 9) + 1)) pRz := hFm11.F rfl
          have F_10 : Fr S (uF S11 120 9 ((S11.1 120 9) + 1)) pRz := hL11_.F rfl
          have i_11 : cX G (uF S11 120 9 ((S11.1 120 9) + 1)) 0 0 0 := hI11.F rfl rfl (show 0 ≤ (S11.1 120 9) + 1 ∧ (S11.1 120 9) + 1 ≤ 40 from ⟨by omega, by omega⟩)
          refine lv_iconst (v := iv 1) hx hb dX6_addCut_95 (by decide) ?_
          exact sZret Cx hr hlk hW hL (by omega) ⟨i_11, F_9, ⟨(by omega), (by omega), (fun _ => ⟨by omega, RWz.up hRl ((uF_ne (by decide)).trans hRl.1) (uF_on.trans (by have := hRl.2.1; omega)) rfl (fun i a b => (hnl i a (by omega)).1), fun i a b => (hnl i a (by omega)).2⟩), (fun q => absurd q (by omega))⟩⟩ dX6_addCut_96
        · refine lv_aload_n hx hb dX6_addCut_19 rfl (lv_at hl 1 rfl) ?_
          refine lv_iload_n hx hb dX6_addCut_20 rfl (lv_at hl 0 rfl) ?_
          refine lv_aload_n hx hb dX6_addCut_21 rfl (lv_at hl 1 rfl) ?_
          refine g_X6_31 Cx hW (k := 120) (by decide) rfl (v := .ref (G.2.2.1 + 129)) (rf_120_5 hI11) dX6_addCut_22 ?_
          refine sBv (sV (As := [.int (iv j), .ref (G.2.2.1 + 129)]) (rest := []) (k := 120) Cx (z_X6_combine_120_129 l G S11 (j := j) (n := n) (cc := cc) (RR := RR) (ff := ff) hI11 (by omega) hRl hFl (by omega)) (c_X6_101 Cx rfl rfl (rmk_ok (by omega) (by decide))) hW (by decide) rfl rfl rfl hl.1 rfl (Nat.le_of_ble_eq_true rfl) dX6_addCut_25 ⟨Nat.le_of_ble_eq_true rfl, Nat.le_of_ble_eq_true rfl⟩) hL (fun u_12 H locs k_13 hW hL => ?_)
          obtain ⟨iu_12, fu_12, xu_12⟩ := k_13
          have F_14 := hFm11.trans (fu_12.to (pK_sub rgW_120 rfl rfl))
          have F_15 := hL11_.trans (fu_12.to (pK_sub rgW_120 rfl rfl))
          have bv_16 : bv u_12 129 = smf ff RR j cc.toNat := xu_12.2.2.1
          refine lv_aload_n hx hb dX6_addCut_28 rfl (lv_at hl 1 rfl) ?_
          refine g_X6_31 Cx hW (k := 120) (by decide) rfl (v := .ref (G.2.2.1 + 129)) (rf_120_5 iu_12) dX6_addCut_29 ?_
          refine lv_aload_n hx hb dX6_addCut_32 rfl (lv_at hl 2 rfl) ?_
          refine lv_aload_n hx hb dX6_addCut_33 rfl (lv_at hl 1 rfl) ?_
          refine g_X6_34 Cx hW (k := 120) (by decide) rfl (v := .ref (G.2.2.1 + 131)) (rf_120_6 iu_12) dX6_addCut_34 ?_
          refine lv_aload_n hx hb dX6_addCut_37 rfl (lv_at hl 1 rfl) ?_
          refine g_X6_37 Cx hW (k := 120) (by decide) rfl (v := .ref (G.2.2.1 + 133)) (rf_120_7 iu_12) dX6_addCut_38 ?_
          have q_17 : 0 ≤ u_12.1 129 1 ∧ u_12.1 129 1 ≤ 32 := iu_12.fi 129 1 0 (by decide) rfl
          have q_18 : 0 ≤ S.1 183 1 ∧ S.1 183 1 ≤ 32 := hI.fi 183 1 0 (by decide) rfl
          have lk_19 : u_12.1 183 1 = S.1 183 1 := ((fu_12 183 rfl).1 1).trans ((hL11_ 183 rfl).1 1)
          have q_20 : (-1) ≤ u_12.1 129 2 ∧ u_12.1 129 2 ≤ 1 := iu_12.fi 129 2 0 (by decide) rfl
          have q_21 : (-1) ≤ S.1 183 2 ∧ S.1 183 2 ≤ 1 := hI.fi 183 2 0 (by decide) rfl
          have lk_22 : u_12.1 183 2 = S.1 183 2 := ((fu_12 183 rfl).1 2).trans ((hL11_ 183 rfl).1 2)
          refine sBv (sV (As := [.ref (G.2.2.1 + 183), .ref (G.2.2.1 + 131), .ref (G.2.2.1 + 133)]) (rest := []) (k := 129) Cx (b_X0_divide l G u_12 (o := 129) (b := 183) (q := 131) (h := 133) (n := 15) iu_12 rfl rfl rfl rfl (show (129 : Nat) ≠ 183 by decide) (show (129 : Nat) ≠ 131 by decide) (show (129 : Nat) ≠ 133 by decide) (show (183 : Nat) ≠ 131 by decide) (show (183 : Nat) ≠ 133 by decide) (show (131 : Nat) ≠ 133 by decide) (show Hd (bs u_12 129) from xu_12.2.2.2) (show Hd (bs u_12 183) from (bs_fr fu_12 rfl hbl)) (by omega)) (c_X6_105 Cx rfl rfl (rmk_ok (by omega) (by decide))) hW (by decide) rfl rfl rfl hl.1 rfl (Nat.le_of_ble_eq_true rfl) dX6_addCut_41 ⟨Nat.le_of_ble_eq_true rfl, Nat.le_of_ble_eq_true rfl⟩) hL (fun u_23 H locs k_24 hW hL => ?_)
          obtain ⟨iu_23, fu_23, xu_23⟩ := k_24
          have F_25 := F_14.trans (fu_23.to (pD_sub (pB_sub rfl rfl) (pB_sub rfl rfl) (pB_sub rfl rfl)))
          have F_26 := F_15.trans (fu_23.to (pD_sub (pB_sub rfl rfl) (pB_sub rfl rfl) (pB_sub rfl rfl)))
          have bv_27 : bv u_23 131 = (smf ff RR j cc.toNat) / (bv S 183) := (by have e : bv u_23 131 = _ := (xu_23.2.2.2.2.2.2.1 (by omega)).1; rw [(show bv u_12 129 = smf ff RR j cc.toNat from bv_16), (show bv u_12 183 = bv S 183 from (bv_fr fu_12 rfl rfl).trans (hvl))] at e; exact e)
          have bv_28 : bv u_23 129 = (smf ff RR j cc.toNat) % (bv S 183) := (by have e : bv u_23 129 = _ := (xu_23.2.2.2.2.2.2.1 (by omega)).2; rw [(show bv u_12 129 = smf ff RR j cc.toNat from bv_16), (show bv u_12 183 = bv S 183 from (bv_fr fu_12 rfl rfl).trans (hvl))] at e; exact e)
          refine lv_aload_n hx hb dX6_addCut_44 rfl (lv_at hl 1 rfl) ?_
          refine g_X6_34 Cx hW (k := 120) (by decide) rfl (v := .ref (G.2.2.1 + 131)) (rf_120_6 iu_23) dX6_addCut_45 ?_
          have q_29 : 0 ≤ u_23.1 131 1 ∧ u_23.1 131 1 ≤ 32 := iu_23.fi 131 1 0 (by decide) rfl
          refine sBi (sV (As := []) (rest := []) (k := 131) Cx (b_X0_digitCount l G u_23 (o := 131) iu_23 rfl) (c_X6_109 Cx rfl rfl (rmk_ok (by omega) (by decide))) hW (by decide) rfl rfl rfl hl.1 rfl (Nat.le_of_ble_eq_true rfl) dX6_addCut_48 ⟨Nat.le_of_ble_eq_true rfl, Nat.le_of_ble_eq_true rfl⟩) hL (fun r_32 u_30 H locs k_31 hW hL => ?_)
          obtain ⟨eu_30, xu_30⟩ := k_31
          rw [eu_30] at hW
          refine lv_bipush (v := iv 60) hx hb dX6_addCut_51 (by decide) ?_
          refine r_icmp_le (tgt := 58) hx hb ⟨(by omega), (by omega)⟩ ⟨(by omega), (by omega)⟩ dX6_addCut_53 (by decide) (fun c_33 => ?_) (fun c_33 => ?_)
          · refine lv_aload_n hx hb dX6_addCut_58 rfl (lv_at hl 1 rfl) ?_
            refine g_X6_34 Cx hW (k := 120) (by decide) rfl (v := .ref (G.2.2.1 + 131)) (rf_120_6 iu_23) dX6_addCut_59 ?_
            refine lv_aload_n hx hb dX6_addCut_62 rfl (lv_at hl 1 rfl) ?_
            refine g_X6_13 Cx hW (k := 120) (by decide) rfl (v := .ref (G.2.2.1 + 121)) (rf_120_0 iu_23) dX6_addCut_63 ?_
            refine lv_aload_n hx hb dX6_addCut_66 rfl (lv_at hl 1 rfl) ?_
            have q_34 : 0 ≤ S11.1 120 9 ∧ S11.1 120 9 ≤ 40 := hI11.fi 120 9 6 (by decide) rfl
            refine g_X6_50 Cx hW (k := 120) (by decide) rfl (v := S11.1 120 9) (((fu_23 120 rfl).1 9).trans ((fu_12 120 rfl).1 9)) dX6_addCut_67 ?_
            refine lv_iconst (v := iv 1) hx hb dX6_addCut_70 (by decide) ?_
            refine r_iadd hx hb dX6_addCut_71 ?_
            refine lv_iload_n hx hb dX6_addCut_72 rfl (lv_at hl 0 rfl) ?_
            refine sBi (sSt (As := [.int (iv ((S11.1 120 9) + 1)), .int (iv j)]) (rest := [.ref (G.2.2.1 + 121), .ref (G.2.2.1 + 131)]) Cx (s_X6_at l G u_23 (k := (S11.1 120 9) + 1) (j := j) (by omega) (by omega)) (c_X6_53 Cx rfl rfl (rmk_ok (by omega) (by decide))) hW rfl hl.1 rfl (Nat.le_of_ble_eq_true rfl) dX6_addCut_73 ⟨Nat.le_of_ble_eq_true rfl, Nat.le_of_ble_eq_true rfl⟩) hL (fun r_37 u_35 H locs k_36 hW hL => ?_)
            obtain ⟨eu_35, xu_35⟩ := k_36
            rw [eu_35] at hW
            have q_38 : (-1) ≤ u_23.1 131 2 ∧ u_23.1 131 2 ≤ 1 := iu_23.fi 131 2 0 (by decide) rfl
            refine sBv (sV (As := [.ref (G.2.2.1 + 121), .int (iv r_37)]) (rest := []) (k := 131) Cx (b_X0_save l G u_23 (o := 131) (k := 121) (a := r_37) (N := 4264) iu_23 rfl ⟨by decide, rfl, by decide, rfl, rfl, rfl⟩ (by omega) (show _ ≤ (7 : Int) ∧ (_ → _ ≤ (999999999 : Int)) from ⟨by omega, fun _ => by have := limbR iu_23 (rfl : tau 131 = .inl 0) 6; omega⟩) (fun q _ => by rcases q with q | q <;> exact absurd q (by decide))) (c_X6_83 Cx rfl rfl (rmk_ok (by omega) (by decide))) hW (by decide) rfl rfl rfl hl.1 rfl (Nat.le_of_ble_eq_true rfl) dX6_addCut_76 ⟨Nat.le_of_ble_eq_true rfl, Nat.le_of_ble_eq_true rfl⟩) hL (fun u_39 H locs k_40 hW hL => ?_)
            obtain ⟨iu_39, fu_39, xu_39⟩ := k_40
            have F_41 := F_25.trans (fu_39.to (p1_sub rfl))
            have F_42 := F_26.trans (fu_39.to (p1_sub rfl))
            refine lv_iinc (v := iv (j + 1)) (lv' := [(2, .int (iv (j + 1))), (0, .ref (G.2.2.1 + 120)), (1, .ref (G.2.2.1 + 183))]) hx hb dX6_addCut_79 hl (k := 0) rfl ((Int32.ofInt_add _ _).symm) (by decide) rfl (fun ls hl => ?_)
            refine lv_goto (tgt := 11) hx hb dX6_addCut_82 (by decide) ?_
            have lk_43 : u_39.1 183 1 = S.1 183 1 := ((fu_39 183 rfl).1 1).trans (((fu_23 183 rfl).1 1).trans (((fu_12 183 rfl).1 1).trans ((hL11_ 183 rfl).1 1)))
            have lk_44 : u_39.1 183 2 = S.1 183 2 := ((fu_39 183 rfl).1 2).trans (((fu_23 183 rfl).1 2).trans (((fu_12 183 rfl).1 2).trans ((hL11_ 183 rfl).1 2)))
            have lk_45 : u_39.1 120 9 = S11.1 120 9 := ((fu_39 120 rfl).1 9).trans (((fu_23 120 rfl).1 9).trans ((fu_12 120 rfl).1 9))
            have lk_46 : u_39.1 120 8 = S11.1 120 8 := ((fu_39 120 rfl).1 8).trans (((fu_23 120 rfl).1 8).trans ((fu_12 120 rfl).1 8))
            exact ih_11 u_39 (j + 1) _ _ _ (by omega) iu_39 F_41 F_42 (by omega) (by omega) (by omega) (by omega) (by omega) (RWz.sv (RWz.of hRl (show u_23.1 120 8 = S11.1 120 8 from ((fu_23 120 rfl).1 8).trans ((fu_12 120 rfl).1 8)) (show u_23.1 120 9 = S11.1 120 9 from ((fu_23 120 rfl).1 9).trans ((fu_12 120 rfl).1 9)) (show u_23.2.1 121 = S11.2.1 121 from funext fun x => ((fu_23 121 rfl).2.1 x).trans ((fu_12 121 rfl).2.1 x))) iu_23 (by omega) (by omega) (show r_37 = ((cc + 1) * 13 + j) * 8 by omega) (by omega) ((fu_39 120 rfl).1 8) ((fu_39 120 rfl).1 9) xu_39.2) (FCz.of hFl (show u_39.2.1 122 = S11.2.1 122 from funext fun x => ((fu_39 122 rfl).2.1 x).trans (((fu_23 122 rfl).2.1 x).trans ((fu_12 122 rfl).2.1 x)))) (show Hd (bs u_39 183) from (bs_fr fu_39 rfl (bs_fr fu_23 rfl (bs_fr fu_12 rfl hbl)))) (show bv u_39 183 = bv S 183 from (bv_fr fu_39 rfl rfl).trans ((bv_fr fu_23 rfl rfl).trans ((bv_fr fu_12 rfl rfl).trans (hvl)))) (fun i a b => by by_cases q : i = j; (rw [q, ← show r_37 = ((cc + 1) * 13 + j) * 8 by omega, xu_39.1 (show Hd (bs u_23 131) from xu_23.2.2.2.2.2.2.2.1), (show bv u_23 131 = (smf ff RR j cc.toNat) / (bv S 183) from bv_27)]; refine ⟨rfl, fun z => ?_⟩; have y := xu_30.2.2.2; rw [show (_ ↔ _) = _ from rfl] at y; exact absurd (y.mpr ((lg_B iu_23 rfl (show Hd (bs u_23 131) from xu_23.2.2.2.2.2.2.2.1)).mpr (by rw [(show bv u_23 131 = (smf ff RR j cc.toNat) / (bv S 183) from bv_27)]; exact z))) (by omega)); (have e := hnl i a (by omega); rw [nv_sz iu_23 (by omega) xu_39.2 (by omega), (show u_23.2.1 121 = S11.2.1 121 from funext fun x => ((fu_23 121 rfl).2.1 x).trans ((fu_12 121 rfl).2.1 x))]; exact e)) hW hL (lv_sub hl [0, 1, 2] rfl)
          · refine lv_iconst (v := iv 0) hx hb dX6_addCut_56 (by decide) ?_
            exact sZret Cx hr hlk hW hL (by omega) ⟨iu_23, F_25, ⟨(by omega), (by omega), (fun q => absurd q (by omega)), (fun _ => .inr ⟨j, by omega, by omega, by have y := (xu_30.2.2.2).mp (by omega); have z := (lg_B iu_23 rfl (show Hd (bs u_23 131) from xu_23.2.2.2.2.2.2.2.1)).mp y; rw [(show bv u_23 131 = (smf ff RR j cc.toNat) / (bv S 183) from bv_27)] at z; exact z⟩)⟩⟩ dX6_addCut_57
    have q_47 : 0 ≤ S.1 183 1 ∧ S.1 183 1 ≤ 32 := hI.fi 183 1 0 (by decide) rfl
    have q_48 : (-1) ≤ S.1 183 2 ∧ S.1 183 2 ≤ 1 := hI.fi 183 2 0 (by decide) rfl
    have q_49 : 0 ≤ S.1 120 8 ∧ S.1 120 8 ≤ 12 := hI.fi 120 8 6 (by decide) rfl
    exact loop_11 (_ + 1) S 0 _ _ _ (Nat.lt_succ_self _) hI (Fr.rf : Fr S S pRz) Fr.rf (by omega) (by omega) (by omega) (by omega) (by omega) hR hF (show Hd (bs S 183) from hbq) (show bv S 183 = bv S 183 from rfl) (fun i a b => absurd b (by omega)) hW hL (lv_sub hl [0, 1, 2] rfl)
  · refine lv_iconst (v := iv 0) hx hb dX6_addCut_7 (by decide) ?_
    exact sZret Cx hr hlk hW hL (by omega) ⟨hI, (Fr.rf : Fr S S pRz), ⟨(by omega), (by omega), (fun q => absurd q (by omega)), (fun _ => .inl (by omega))⟩⟩ dX6_addCut_8

set_option maxRecDepth 100000 in
set_option maxHeartbeats 4000000 in
theorem z_X6_addLimit_120 (l : Launch) (G : sG) (S : sS) {z ab : Int} {n cc : Int} {RR : Int → Int → Int} (hI : cX G S 0 0 0) (hz : -2147483648 ≤ z ∧ z ≤ 2147483647) (hab : 0 ≤ ab ∧ ab ≤ 1) (hv : S.1 181 1 ≤ 7) (hv6 : Hd (S.1 181 1 = 7 → S.2.1 182 6 ≤ 999999)) (hR : Hd (RWz S n cc RR)) (hbv : Hd (bs S 181)) : Met l yX6_addLimit (.code yX6_addLimit cX6_addLimit 5 none :: tb) (rmk 4 0 0) (sPc G 294 S [.ref (G.2.2.1 + 120), .int (iv z), .ref (G.2.2.1 + 181), .int (iv ab)]) (sQv G 294 (fun u => cX G u 0 0 0 ∧ Fr S u pRz ∧ (Hd (cc < 40 → 1 ≤ z → z ≤ n → RWz u n (cc + 1) (upR RR (cc + 1) (limr z (bv S 181) ab)))))) 0 0 (sF G) := by
  refine sEnter (by decide) (Nat.le_of_ble_eq_true rfl) ?_
  intro p e s m args below meth c Cx hr hlk hnm hW ls hl
  have Cx : sC G p m c cX6_addLimit 5 s args RX6 := Cx
  obtain ⟨hx, hb, hml, hown, hts⟩ := id Cx.1
  have hL : sL G [] := sL_nil
  have hl : lv_has ls 5 [(0, .ref (G.2.2.1 + 120)), (1, .int (iv z)), (2, .ref (G.2.2.1 + 181)), (3, .int (iv ab))] := hl
  have hW0 := hW
  have hn0 : 0 ≤ S.1 120 8 ∧ S.1 120 8 ≤ 12 := hI.fi 120 8 6 (by decide) rfl; have hc0 : 0 ≤ S.1 120 9 ∧ S.1 120 9 ≤ 40 := hI.fi 120 9 6 (by decide) rfl; have hR1 := hR.1; have hR2 := hR.2.1
  refine lv_aload_n hx hb dX6_addLimit_0 rfl (lv_at hl 0 rfl) ?_
  have q_1 : 0 ≤ S.1 120 9 ∧ S.1 120 9 ≤ 40 := hI.fi 120 9 6 (by decide) rfl
  refine sBi (sV (As := []) (rest := []) (k := 120) Cx (s_X6_isFull_120 l G S  hI) (c_X6_97 Cx rfl rfl (rmk_ok (by omega) (by decide))) hW (by decide) rfl rfl rfl hl.1 rfl (Nat.le_of_ble_eq_true rfl) dX6_addLimit_1 ⟨Nat.le_of_ble_eq_true rfl, Nat.le_of_ble_eq_true rfl⟩) hL (fun r_4 u_2 H locs k_3 hW hL => ?_)
  obtain ⟨eu_2, xu_2⟩ := k_3
  rw [eu_2] at hW
  refine r_if_ne (tgt := 20) hx hb ⟨(by omega), (by omega)⟩ dX6_addLimit_4 (by decide) (fun c_5 => ?_) (fun c_5 => ?_)
  · exact sVret Cx hr hlk hW hL ⟨hI, (Fr.rf : Fr S S pRz), (fun a b d => by exfalso; omega)⟩ dX6_addLimit_20
  · refine lv_iload_n hx hb dX6_addLimit_7 rfl (lv_at hl 1 rfl) ?_
    refine lv_iconst (v := iv 1) hx hb dX6_addLimit_8 (by decide) ?_
    refine r_icmp_lt (tgt := 20) hx hb ⟨(by omega), (by omega)⟩ ⟨(by omega), (by omega)⟩ dX6_addLimit_9 (by decide) (fun c_6 => ?_) (fun c_6 => ?_)
    · exact sVret Cx hr hlk hW hL ⟨hI, (Fr.rf : Fr S S pRz), (fun a b d => by exfalso; omega)⟩ dX6_addLimit_20
    · refine lv_iload_n hx hb dX6_addLimit_12 rfl (lv_at hl 1 rfl) ?_
      refine lv_aload_n hx hb dX6_addLimit_13 rfl (lv_at hl 0 rfl) ?_
      have q_7 : 0 ≤ S.1 120 8 ∧ S.1 120 8 ≤ 12 := hI.fi 120 8 6 (by decide) rfl
      refine g_X6_46 Cx hW (k := 120) (by decide) rfl (v := S.1 120 8) rfl dX6_addLimit_14 ?_
      refine r_icmp_le (tgt := 21) hx hb ⟨(by omega), (by omega)⟩ ⟨(by omega), (by omega)⟩ dX6_addLimit_17 (by decide) (fun c_8 => ?_) (fun c_8 => ?_)
      · refine lv_aload_n hx hb dX6_addLimit_21 rfl (lv_at hl 0 rfl) ?_
        refine lv_dup hx hb dX6_addLimit_22 rfl ?_
        refine g_X6_50 Cx hW (k := 120) (by decide) rfl (v := S.1 120 9) rfl dX6_addLimit_23 ?_
        refine lv_iconst (v := iv 1) hx hb dX6_addLimit_26 (by decide) ?_
        refine r_iadd hx hb dX6_addLimit_27 ?_
        refine p_X6_50 Cx hW hL (k := 120) (by decide) rfl dX6_addLimit_28 (fun H locs hW hL => ?_)
        have F_9 : Fr S (uF S 120 9 ((S.1 120 9) + 1)) pRz := (Fr.rf : Fr S S pRz).F rfl
        have i_10 : cX G (uF S 120 9 ((S.1 120 9) + 1)) 0 0 0 := hI.F rfl rfl (show 0 ≤ (S.1 120 9) + 1 ∧ (S.1 120 9) + 1 ≤ 40 from ⟨by omega, by omega⟩)
        refine lv_iconst (v := iv 1) hx hb dX6_addLimit_31 (by decide) ?_
        refine lv_istore (lv' := [(4, .int (iv 1)), (0, .ref (G.2.2.1 + 120)), (1, .int (iv z)), (2, .ref (G.2.2.1 + 181)), (3, .int (iv ab))]) hx hb dX6_addLimit_32 hl (by decide) rfl (fun ls hl => ?_)
        have loop_34 : ∀ (fuel : Nat) (S34 : sS) (j : Int) (H : Heap) (locs : List Loc) (ls : Array Slot), (13 - j).toNat < fuel → (cX G S34 0 0 0) → (Fr S S34 pRz) → (Fr ((uF S 120 9 ((S.1 120 9) + 1))) S34 pRz) → (1 ≤ j ∧ j ≤ 13) → (j ≤ n + 1) → (S34.1 120 9 = cc + 1 ∧ S34.1 120 8 = n) → (S34.1 181 1 ≤ 7) → (Hd (S34.1 181 1 = 7 → S34.2.1 182 6 ≤ 999999)) → (Hd (RRz S34 n cc RR)) → (Hd (bs S34 181)) → (bv S34 181 = bv S 181) → (Hd (∀ i, 1 ≤ i → i < j → nv (S34.2.1 121) (((cc + 1) * 13 + i) * 8) = limr z (bv S 181) ab i)) → sW G 294 S34 H → sL G locs → lv_has ls 5 [(4, .int (iv j)), (0, .ref (G.2.2.1 + 120)), (1, .int (iv z)), (2, .ref (G.2.2.1 + 181)), (3, .int (iv ab))] → W p l e (rmk 4 0 0) s m args below meth c H locs 0 0 (MQ below (sQv G 294 (fun u => cX G u 0 0 0 ∧ Fr S u pRz ∧ (Hd (cc < 40 → 1 ≤ z → z ≤ n → RWz u n (cc + 1) (upR RR (cc + 1) (limr z (bv S 181) ab)))))) args s 0 0 (sF G)) (F0 m 34 ls []) := by
          intro fuel
          induction fuel with
          | zero => intro S34 j H locs ls hmeas hI34 hFm34 hL34_ hj hjn hcf hv34 hv64 hRl hbl hvl hnl hW hL hl; exact absurd hmeas (Nat.not_lt_zero _)
          | succ fuel ih_34 =>
            intro S34 j H locs ls hmeas hI34 hFm34 hL34_ hj hjn hcf hv34 hv64 hRl hbl hvl hnl hW hL hl
            refine lv_iload hx hb dX6_addLimit_34 (lv_at hl 0 rfl) ?_
            refine lv_aload_n hx hb dX6_addLimit_36 rfl (lv_at hl 1 rfl) ?_
            have q_11 : 0 ≤ S34.1 120 8 ∧ S34.1 120 8 ≤ 12 := hI34.fi 120 8 6 (by decide) rfl
            refine g_X6_46 Cx hW (k := 120) (by decide) rfl (v := S34.1 120 8) rfl dX6_addLimit_37 ?_
            refine r_icmp_gt (tgt := 86) hx hb ⟨(by omega), (by omega)⟩ ⟨(by omega), (by omega)⟩ dX6_addLimit_40 (by decide) (fun c_12 => ?_) (fun c_12 => ?_)
            · refine lv_aload_n hx hb dX6_addLimit_86 rfl (lv_at hl 1 rfl) ?_
              refine g_X6_31 Cx hW (k := 120) (by decide) rfl (v := .ref (G.2.2.1 + 129)) (rf_120_5 hI34) dX6_addLimit_87 ?_
              refine lv_aload_n hx hb dX6_addLimit_90 rfl (lv_at hl 3 rfl) ?_
              have q_13 : 0 ≤ S.1 181 1 ∧ S.1 181 1 ≤ 32 := hI.fi 181 1 0 (by decide) rfl
              have lk_14 : S34.1 181 1 = S.1 181 1 := ((hL34_ 181 rfl).1 1).trans (uF_ne (fun h => absurd h.2 (by decide)))
              have q_15 : (-1) ≤ S.1 181 2 ∧ S.1 181 2 ≤ 1 := hI.fi 181 2 0 (by decide) rfl
              have lk_16 : S34.1 181 2 = S.1 181 2 := ((hL34_ 181 rfl).1 2).trans (uF_ne (fun h => absurd h.2 (by decide)))
              refine sBv (sV (As := [.ref (G.2.2.1 + 181)]) (rest := []) (k := 129) Cx (s_X0_copy l G S34 (o := 129) (a := 181) hI34 rfl rfl) (c_X6_115 Cx rfl rfl (rmk_ok (by omega) (by decide))) hW (by decide) rfl rfl rfl hl.1 rfl (Nat.le_of_ble_eq_true rfl) dX6_addLimit_91 ⟨Nat.le_of_ble_eq_true rfl, Nat.le_of_ble_eq_true rfl⟩) hL (fun u_17 H locs k_18 hW hL => ?_)
              obtain ⟨iu_17, fu_17, xu_17⟩ := k_18
              have F_19 := hFm34.trans (fu_17.to (pB_sub rfl rfl))
              have F_20 := hL34_.trans (fu_17.to (pB_sub rfl rfl))
              have bv_21 : bv u_17 129 = bv S 181 := (cp_bv xu_17.1 xu_17.2.1 xu_17.2.2).trans ((show bv S34 181 = bv S 181 from hvl))
              have hsm : Hd (u_17.1 129 1 = 7 → u_17.2.1 130 6 ≤ 999999) := fun q => by rw [xu_17.2.2 6 (by omega) (by omega)]; exact hv64 (by omega)
              have join_125 : ∀ (S125 : sS)  (H : Heap) (locs : List Loc) (ls : Array Slot), (cX G S125 0 0 0) → (Fr S S125 pRz) → (Fr ((uF S 120 9 ((S.1 120 9) + 1))) S125 pRz) → (Fr u_17 S125 pRz) → (S125.1 129 1 ≤ 7) → (S125.1 120 9 = cc + 1 ∧ S125.1 120 8 = n) → (Hd (bs S125 129)) → (bv S125 129 = limr z (bv S 181) ab 0) → (Hd (RRz S125 n cc RR)) → (Hd (∀ i, 1 ≤ i → i ≤ n → nv (S125.2.1 121) (((cc + 1) * 13 + i) * 8) = limr z (bv S 181) ab i)) → sW G 294 S125 H → sL G locs → lv_has ls 5 [(4, .int (iv j)), (0, .ref (G.2.2.1 + 120)), (1, .int (iv z)), (2, .ref (G.2.2.1 + 181)), (3, .int (iv ab))] → W p l e (rmk 4 0 0) s m args below meth c H locs 0 0 (MQ below (sQv G 294 (fun u => cX G u 0 0 0 ∧ Fr S u pRz ∧ (Hd (cc < 40 → 1 ≤ z → z ≤ n → RWz u n (cc + 1) (upR RR (cc + 1) (limr z (bv S 181) ab)))))) args s 0 0 (sF G)) (F0 m 125 ls []) := by
                intro S125  H locs ls hI125 hFm125 hFL34125 hL125_ hs7 hcf5 hb5 hv5 hR5 hn5 hW hL hl
                refine lv_aload_n hx hb dX6_addLimit_125 rfl (lv_at hl 1 rfl) ?_
                refine g_X6_31 Cx hW (k := 120) (by decide) rfl (v := .ref (G.2.2.1 + 129)) (rf_120_5 hI125) dX6_addLimit_126 ?_
                refine lv_aload_n hx hb dX6_addLimit_129 rfl (lv_at hl 1 rfl) ?_
                refine g_X6_13 Cx hW (k := 120) (by decide) rfl (v := .ref (G.2.2.1 + 121)) (rf_120_0 hI125) dX6_addLimit_130 ?_
                refine lv_aload_n hx hb dX6_addLimit_133 rfl (lv_at hl 1 rfl) ?_
                have q_22 : 0 ≤ S125.1 120 9 ∧ S125.1 120 9 ≤ 40 := hI125.fi 120 9 6 (by decide) rfl
                refine g_X6_50 Cx hW (k := 120) (by decide) rfl (v := S125.1 120 9) rfl dX6_addLimit_134 ?_
                refine lv_iconst (v := iv 0) hx hb dX6_addLimit_137 (by decide) ?_
                refine sBi (sSt (As := [.int (iv (S125.1 120 9)), .int (iv 0)]) (rest := [.ref (G.2.2.1 + 121), .ref (G.2.2.1 + 129)]) Cx (s_X6_at l G S125 (k := S125.1 120 9) (j := 0) (by omega) (by omega)) (c_X6_53 Cx rfl rfl (rmk_ok (by omega) (by decide))) hW rfl hl.1 rfl (Nat.le_of_ble_eq_true rfl) dX6_addLimit_138 ⟨Nat.le_of_ble_eq_true rfl, Nat.le_of_ble_eq_true rfl⟩) hL (fun r_25 u_23 H locs k_24 hW hL => ?_)
                obtain ⟨eu_23, xu_23⟩ := k_24
                rw [eu_23] at hW
                have q_26 : 0 ≤ S125.1 129 1 ∧ S125.1 129 1 ≤ 32 := hI125.fi 129 1 0 (by decide) rfl
                have q_27 : (-1) ≤ S125.1 129 2 ∧ S125.1 129 2 ≤ 1 := hI125.fi 129 2 0 (by decide) rfl
                refine sBv (sV (As := [.ref (G.2.2.1 + 121), .int (iv r_25)]) (rest := []) (k := 129) Cx (b_X0_save l G S125 (o := 129) (k := 121) (a := r_25) (N := 4264) hI125 rfl ⟨by decide, rfl, by decide, rfl, rfl, rfl⟩ (by omega) (show _ ≤ (7 : Int) ∧ (_ → _ ≤ (999999999 : Int)) from ⟨by omega, fun _ => by have := limbR hI125 (rfl : tau 129 = .inl 0) 6; omega⟩) (fun q _ => by rcases q with q | q <;> exact absurd q (by decide))) (c_X6_83 Cx rfl rfl (rmk_ok (by omega) (by decide))) hW (by decide) rfl rfl rfl hl.1 rfl (Nat.le_of_ble_eq_true rfl) dX6_addLimit_141 ⟨Nat.le_of_ble_eq_true rfl, Nat.le_of_ble_eq_true rfl⟩) hL (fun u_28 H locs k_29 hW hL => ?_)
                obtain ⟨iu_28, fu_28, xu_28⟩ := k_29
                have F_30 := hFm125.trans (fu_28.to (p1_sub rfl))
                have F_31 := hFL34125.trans (fu_28.to (p1_sub rfl))
                have F_32 := hL125_.trans (fu_28.to (p1_sub rfl))
                have q_33 : 0 ≤ S125.1 120 8 ∧ S125.1 120 8 ≤ 12 := hI125.fi 120 8 6 (by decide) rfl
                have lk_34 : u_28.1 120 8 = S125.1 120 8 := (fu_28 120 rfl).1 8
                have lk_35 : u_28.1 120 9 = S125.1 120 9 := (fu_28 120 rfl).1 9
                exact sVret Cx hr hlk hW hL ⟨iu_28, F_30, (fun _ _ _ => by have hq := (RRz.sv hR5 hI125 (by omega) (by omega) (show r_25 = ((cc + 1) * 13 + 0) * 8 by omega) (by omega) xu_28.2); refine ⟨by omega, by omega, fun k i k0 k1 i0 i1 => ?_⟩; unfold upR; by_cases q : k = cc + 1; (rw [if_pos q, q]; by_cases y : i = 0; (rw [y, ← show r_25 = ((cc + 1) * 13 + 0) * 8 by omega, xu_28.1 (show Hd (bs S125 129) from hb5), (show bv S125 129 = limr z (bv S 181) ab 0 from hv5)]); (rw [nv_sz hI125 (by omega) xu_28.2 (by omega), (show S125.2.1 121 = S125.2.1 121 from funext fun x => rfl)]; exact hn5 i (by omega) (by omega))); (rw [if_neg q]; exact hq k i k0 (by omega) i0 i1))⟩ dX6_addLimit_144
              refine lv_iload_n hx hb dX6_addLimit_94 rfl (lv_at hl 4 rfl) ?_
              refine r_if_eq (tgt := 125) hx hb ⟨(by omega), (by omega)⟩ dX6_addLimit_95 (by decide) (fun c_36 => ?_) (fun c_36 => ?_)
              · have q_37 : 0 ≤ u_17.1 129 1 ∧ u_17.1 129 1 ≤ 32 := iu_17.fi 129 1 0 (by decide) rfl
                have q_38 : 0 ≤ S34.1 120 9 ∧ S34.1 120 9 ≤ 40 := hI34.fi 120 9 6 (by decide) rfl
                have lk_39 : u_17.1 120 9 = S34.1 120 9 := (fu_17 120 rfl).1 9
                have lk_40 : u_17.1 120 8 = S34.1 120 8 := (fu_17 120 rfl).1 8
                exact join_125 u_17  _ _ _ iu_17 F_19 F_20 (Fr.rf : Fr u_17 u_17 pRz) (by omega) (by omega) (show Hd (bs u_17 129) from (cp_bs xu_17.1 xu_17.2.1 (show Hd (bs S34 181) from hbl))) (show _ = _ by rw [(show bv u_17 129 = bv S 181 from bv_21)]; unfold limr; rw [if_pos rfl]; first | rw [if_pos (by omega)] | rw [if_neg (by omega)]) (RRz.of hRl (show u_17.2.1 121 = S34.2.1 121 from funext fun x => (fu_17 121 rfl).2.1 x)) (fun i a b => by rw [(show u_17.2.1 121 = S34.2.1 121 from funext fun x => (fu_17 121 rfl).2.1 x)]; exact hnl i a (by omega)) hW hL (lv_sub hl [0, 1, 2, 3, 4] rfl)
              · refine lv_aload_n hx hb dX6_addLimit_98 rfl (lv_at hl 1 rfl) ?_
                refine g_X6_37 Cx hW (k := 120) (by decide) rfl (v := .ref (G.2.2.1 + 133)) (rf_120_7 iu_17) dX6_addLimit_99 ?_
                refine lv_lconst (v := jv 1) hx hb dX6_addLimit_102 (by decide) ?_
                refine sBv (sV (As := [.long (jv 1)]) (rest := []) (k := 133) Cx (b_X0_put l G u_17 (o := 133) (v := 1) iu_17 rfl (by omega)) (c_X6_86 Cx rfl rfl (rmk_ok (by omega) (by decide))) hW (by decide) rfl rfl rfl hl.1 rfl (Nat.le_of_ble_eq_true rfl) dX6_addLimit_103 ⟨Nat.le_of_ble_eq_true rfl, Nat.le_of_ble_eq_true rfl⟩) hL (fun u_41 H locs k_42 hW hL => ?_)
                obtain ⟨iu_41, fu_41, xu_41⟩ := k_42
                have F_43 := F_19.trans (fu_41.to (pB_sub rfl rfl))
                have F_44 := F_20.trans (fu_41.to (pB_sub rfl rfl))
                have F_45 := (Fr.rf : Fr u_17 u_17 pRz).trans (fu_41.to (pB_sub rfl rfl))
                have bv_46 : bv u_41 133 = 1 := (xu_41.2.2.2.2.2 (by decide) (by decide)).1
                refine lv_aload_n hx hb dX6_addLimit_106 rfl (lv_at hl 1 rfl) ?_
                refine g_X6_31 Cx hW (k := 120) (by decide) rfl (v := .ref (G.2.2.1 + 129)) (rf_120_5 iu_41) dX6_addLimit_107 ?_
                refine lv_aload_n hx hb dX6_addLimit_110 rfl (lv_at hl 1 rfl) ?_
                refine g_X6_37 Cx hW (k := 120) (by decide) rfl (v := .ref (G.2.2.1 + 133)) (rf_120_7 iu_41) dX6_addLimit_111 ?_
                refine lv_iconst (v := iv 1) hx hb dX6_addLimit_114 (by decide) ?_
                have q_47 : 0 ≤ u_41.1 133 1 ∧ u_41.1 133 1 ≤ 32 := iu_41.fi 133 1 0 (by decide) rfl
                have q_48 : 0 ≤ u_17.1 129 1 ∧ u_17.1 129 1 ≤ 32 := iu_17.fi 129 1 0 (by decide) rfl
                have lk_49 : u_41.1 129 1 = u_17.1 129 1 := (fu_41 129 rfl).1 1
                have q_50 : (-1) ≤ u_17.1 129 2 ∧ u_17.1 129 2 ≤ 1 := iu_17.fi 129 2 0 (by decide) rfl
                have lk_51 : u_41.1 129 2 = u_17.1 129 2 := (fu_41 129 rfl).1 2
                have q_52 : (-1) ≤ u_41.1 133 2 ∧ u_41.1 133 2 ≤ 1 := iu_41.fi 133 2 0 (by decide) rfl
                refine sBv (sV (As := [.ref (G.2.2.1 + 133), .int (iv 1)]) (rest := []) (k := 129) Cx (b_X0_add_p l G u_41 (o := 129) (a := 133) (n := 6) (t := 999999) iu_41 rfl rfl (show (129 : Nat) ≠ 133 by decide) (by omega) (fun q => by have e : u_41.2.1 130 6 = _ := (fu_41 130 rfl).2.1 6; rw [e]; exact hsm (by omega)) (show Hd (bs u_41 129) from (bs_fr fu_41 rfl (cp_bs xu_17.1 xu_17.2.1 (show Hd (bs S34 181) from hbl)))) (show Hd (bs u_41 133) from (xu_41.2.2.2.2.2 (by decide) (by decide)).2)) (c_X6_93 Cx rfl rfl (rmk_ok (by omega) (by decide))) hW (by decide) rfl rfl rfl hl.1 rfl (Nat.le_of_ble_eq_true rfl) dX6_addLimit_115 ⟨Nat.le_of_ble_eq_true rfl, Nat.le_of_ble_eq_true rfl⟩) hL (fun u_53 H locs k_54 hW hL => ?_)
                obtain ⟨iu_53, fu_53, xu_53⟩ := k_54
                have F_55 := F_43.trans (fu_53.to (pB_sub rfl rfl))
                have F_56 := F_44.trans (fu_53.to (pB_sub rfl rfl))
                have F_57 := F_45.trans (fu_53.to (pB_sub rfl rfl))
                have bv_58 : bv u_53 129 = bv S 181 + 1 := (by have e : bv u_53 129 = _ := xu_53.2.2.2.2.1; rw [(show bv u_41 129 = bv S 181 from (bv_fr fu_41 rfl rfl).trans (bv_21)), (show bv u_41 133 = 1 from bv_46)] at e; omega)
                refine lv_aload_n hx hb dX6_addLimit_118 rfl (lv_at hl 1 rfl) ?_
                refine g_X6_31 Cx hW (k := 120) (by decide) rfl (v := .ref (G.2.2.1 + 129)) (rf_120_5 iu_53) dX6_addLimit_119 ?_
                have q_59 : 0 ≤ u_53.1 129 1 ∧ u_53.1 129 1 ≤ 32 := iu_53.fi 129 1 0 (by decide) rfl
                have q_60 : (-1) ≤ u_53.1 129 2 ∧ u_53.1 129 2 ≤ 1 := iu_53.fi 129 2 0 (by decide) rfl
                refine sBv (sV (As := []) (rest := []) (k := 129) Cx (s_X0_turn l G u_53 (o := 129) iu_53 rfl) (c_X6_119 Cx rfl rfl (rmk_ok (by omega) (by decide))) hW (by decide) rfl rfl rfl hl.1 rfl (Nat.le_of_ble_eq_true rfl) dX6_addLimit_122 ⟨Nat.le_of_ble_eq_true rfl, Nat.le_of_ble_eq_true rfl⟩) hL (fun u_61 H locs k_62 hW hL => ?_)
                obtain ⟨iu_61, fu_61, xu_61⟩ := k_62
                have F_63 := F_55.trans (fu_61.to (pB_sub rfl rfl))
                have F_64 := F_56.trans (fu_61.to (pB_sub rfl rfl))
                have F_65 := F_57.trans (fu_61.to (pB_sub rfl rfl))
                have bv_66 : bv u_61 129 = -(bv S 181 + 1) := (tn_bv xu_61.1 xu_61.2.1 xu_61.2.2).trans (congrArg _ ((show bv u_53 129 = bv S 181 + 1 from bv_58)))
                have q_67 : 0 ≤ u_61.1 129 1 ∧ u_61.1 129 1 ≤ 32 := iu_61.fi 129 1 0 (by decide) rfl
                have q_68 : 0 ≤ S34.1 120 9 ∧ S34.1 120 9 ≤ 40 := hI34.fi 120 9 6 (by decide) rfl
                have lk_69 : u_61.1 120 9 = S34.1 120 9 := ((fu_61 120 rfl).1 9).trans (((fu_53 120 rfl).1 9).trans (((fu_41 120 rfl).1 9).trans ((fu_17 120 rfl).1 9)))
                have lk_70 : u_61.1 120 8 = S34.1 120 8 := ((fu_61 120 rfl).1 8).trans (((fu_53 120 rfl).1 8).trans (((fu_41 120 rfl).1 8).trans ((fu_17 120 rfl).1 8)))
                exact join_125 u_61  _ _ _ iu_61 F_63 F_64 F_65 (by omega) (by omega) (show Hd (bs u_61 129) from (tn_bs xu_61.1 xu_61.2.1 (show Hd (bs u_53 129) from xu_53.2.2.2.2.2))) (show _ = _ by rw [(show bv u_61 129 = -(bv S 181 + 1) from bv_66)]; unfold limr; rw [if_pos rfl]; first | rw [if_pos (by omega)] | rw [if_neg (by omega)]) (RRz.of hRl (show u_61.2.1 121 = S34.2.1 121 from funext fun x => ((fu_61 121 rfl).2.1 x).trans (((fu_53 121 rfl).2.1 x).trans (((fu_41 121 rfl).2.1 x).trans ((fu_17 121 rfl).2.1 x))))) (fun i a b => by rw [(show u_61.2.1 121 = S34.2.1 121 from funext fun x => ((fu_61 121 rfl).2.1 x).trans (((fu_53 121 rfl).2.1 x).trans (((fu_41 121 rfl).2.1 x).trans ((fu_17 121 rfl).2.1 x))))]; exact hnl i a (by omega)) hW hL (lv_sub hl [0, 1, 2, 3, 4] rfl)
            · refine lv_aload_n hx hb dX6_addLimit_43 rfl (lv_at hl 1 rfl) ?_
              refine g_X6_13 Cx hW (k := 120) (by decide) rfl (v := .ref (G.2.2.1 + 121)) (rf_120_0 hI34) dX6_addLimit_44 ?_
              refine lv_aload_n hx hb dX6_addLimit_47 rfl (lv_at hl 1 rfl) ?_
              have q_71 : 0 ≤ S34.1 120 9 ∧ S34.1 120 9 ≤ 40 := hI34.fi 120 9 6 (by decide) rfl
              refine g_X6_50 Cx hW (k := 120) (by decide) rfl (v := S34.1 120 9) rfl dX6_addLimit_48 ?_
              refine lv_iload hx hb dX6_addLimit_51 (lv_at hl 0 rfl) ?_
              refine sBi (sSt (As := [.int (iv (S34.1 120 9)), .int (iv j)]) (rest := [.ref (G.2.2.1 + 121)]) Cx (s_X6_at l G S34 (k := S34.1 120 9) (j := j) (by omega) (by omega)) (c_X6_53 Cx rfl rfl (rmk_ok (by omega) (by decide))) hW rfl hl.1 rfl (Nat.le_of_ble_eq_true rfl) dX6_addLimit_53 ⟨Nat.le_of_ble_eq_true rfl, Nat.le_of_ble_eq_true rfl⟩) hL (fun r_74 u_72 H locs k_73 hW hL => ?_)
              obtain ⟨eu_72, xu_72⟩ := k_73
              rw [eu_72] at hW
              refine lv_iload hx hb dX6_addLimit_56 (lv_at hl 0 rfl) ?_
              refine lv_iload_n hx hb dX6_addLimit_58 rfl (lv_at hl 2 rfl) ?_
              refine r_icmp_eq (tgt := 66) hx hb ⟨(by omega), (by omega)⟩ ⟨(by omega), (by omega)⟩ dX6_addLimit_59 (by decide) (fun c_75 => ?_) (fun c_75 => ?_)
              · refine lv_iload_n hx hb dX6_addLimit_66 rfl (lv_at hl 4 rfl) ?_
                refine r_if_eq (tgt := 76) hx hb ⟨(by omega), (by omega)⟩ dX6_addLimit_67 (by decide) (fun c_76 => ?_) (fun c_76 => ?_)
                · refine lv_lconst (v := jv 1) hx hb dX6_addLimit_76 (by decide) ?_
                  refine sBv (sSt (As := [.ref (G.2.2.1 + 121), .int (iv r_74), .long (jv 1)]) (rest := []) Cx (b_X0_store l G S34 (k := 121) (a := r_74) (v := 1) (N := 4264) hI34 ⟨by decide, rfl, by decide, rfl, rfl, rfl⟩ (by omega) (by omega) (fun q _ => by rcases q with q | q <;> exact absurd q (by decide))) (c_X6_60 Cx rfl rfl (rmk_ok (by omega) (by decide))) hW rfl hl.1 rfl (Nat.le_of_ble_eq_true rfl) dX6_addLimit_77 ⟨Nat.le_of_ble_eq_true rfl, Nat.le_of_ble_eq_true rfl⟩) hL (fun u_77 H locs k_78 hW hL => ?_)
                  obtain ⟨iu_77, fu_77, xu_77⟩ := k_78
                  have F_79 := hFm34.trans (fu_77.to (p1_sub rfl))
                  have F_80 := hL34_.trans (fu_77.to (p1_sub rfl))
                  refine lv_iinc (v := iv (j + 1)) (lv' := [(4, .int (iv (j + 1))), (0, .ref (G.2.2.1 + 120)), (1, .int (iv z)), (2, .ref (G.2.2.1 + 181)), (3, .int (iv ab))]) hx hb dX6_addLimit_80 hl (k := 0) rfl ((Int32.ofInt_add _ _).symm) (by decide) rfl (fun ls hl => ?_)
                  refine lv_goto (tgt := 34) hx hb dX6_addLimit_83 (by decide) ?_
                  have lk_81 : u_77.1 120 9 = S34.1 120 9 := (fu_77 120 rfl).1 9
                  have lk_82 : u_77.1 120 8 = S34.1 120 8 := (fu_77 120 rfl).1 8
                  have q_83 : 0 ≤ S.1 181 1 ∧ S.1 181 1 ≤ 32 := hI.fi 181 1 0 (by decide) rfl
                  have lk_84 : u_77.1 181 1 = S.1 181 1 := ((fu_77 181 rfl).1 1).trans (((hL34_ 181 rfl).1 1).trans (uF_ne (fun h => absurd h.2 (by decide))))
                  exact ih_34 u_77 (j + 1) _ _ _ (by omega) iu_77 F_79 F_80 (by omega) (by omega) (by omega) (by omega) (fun q => by have e : u_77.2.1 182 6 = S.2.1 182 6 := ((fu_77 182 rfl).2.1 6).trans (((hL34_ 182 rfl).2.1 6).trans (uF_a)); rw [e]; exact hv6 (by omega)) (RRz.sv hRl hI34 (by omega) (by omega) (show r_74 = ((cc + 1) * 13 + j) * 8 by omega) (by omega) xu_77.2) (show Hd (bs u_77 181) from (bs_fr fu_77 rfl hbl)) (show bv u_77 181 = bv S 181 from (bv_fr fu_77 rfl rfl).trans (hvl)) (fun i a b => by by_cases q : i = j; (rw [q, ← show r_74 = ((cc + 1) * 13 + j) * 8 by omega]; refine (show nv _ _ = _ from xu_77.1).trans ?_; unfold limr; rw [if_neg (by omega)]; first | rw [if_pos (by omega), if_pos (by omega)] | rw [if_pos (by omega), if_neg (by omega)] | rw [if_neg (by omega)]); (have e := hnl i a (by omega); rw [nv_sz hI34 (by omega) xu_77.2 (by omega), (show S34.2.1 121 = S34.2.1 121 from funext fun x => rfl)]; exact e)) hW hL (lv_sub hl [0, 1, 2, 3, 4] rfl)
                · refine lv_ldc2 hx hb hown (hts _ w_1551) dX6_addLimit_70 ?_
                  refine lv_goto (tgt := 77) hx hb dX6_addLimit_73 (by decide) ?_
                  refine sBv (sSt (As := [.ref (G.2.2.1 + 121), .int (iv r_74), .long (jv ((-1)))]) (rest := []) Cx (b_X0_store l G S34 (k := 121) (a := r_74) (v := (-1)) (N := 4264) hI34 ⟨by decide, rfl, by decide, rfl, rfl, rfl⟩ (by omega) (by omega) (fun q _ => by rcases q with q | q <;> exact absurd q (by decide))) (c_X6_60 Cx rfl rfl (rmk_ok (by omega) (by decide))) hW rfl hl.1 rfl (Nat.le_of_ble_eq_true rfl) dX6_addLimit_77 ⟨Nat.le_of_ble_eq_true rfl, Nat.le_of_ble_eq_true rfl⟩) hL (fun u_85 H locs k_86 hW hL => ?_)
                  obtain ⟨iu_85, fu_85, xu_85⟩ := k_86
                  have F_87 := hFm34.trans (fu_85.to (p1_sub rfl))
                  have F_88 := hL34_.trans (fu_85.to (p1_sub rfl))
                  refine lv_iinc (v := iv (j + 1)) (lv' := [(4, .int (iv (j + 1))), (0, .ref (G.2.2.1 + 120)), (1, .int (iv z)), (2, .ref (G.2.2.1 + 181)), (3, .int (iv ab))]) hx hb dX6_addLimit_80 hl (k := 0) rfl ((Int32.ofInt_add _ _).symm) (by decide) rfl (fun ls hl => ?_)
                  refine lv_goto (tgt := 34) hx hb dX6_addLimit_83 (by decide) ?_
                  have lk_89 : u_85.1 120 9 = S34.1 120 9 := (fu_85 120 rfl).1 9
                  have lk_90 : u_85.1 120 8 = S34.1 120 8 := (fu_85 120 rfl).1 8
                  have q_91 : 0 ≤ S.1 181 1 ∧ S.1 181 1 ≤ 32 := hI.fi 181 1 0 (by decide) rfl
                  have lk_92 : u_85.1 181 1 = S.1 181 1 := ((fu_85 181 rfl).1 1).trans (((hL34_ 181 rfl).1 1).trans (uF_ne (fun h => absurd h.2 (by decide))))
                  exact ih_34 u_85 (j + 1) _ _ _ (by omega) iu_85 F_87 F_88 (by omega) (by omega) (by omega) (by omega) (fun q => by have e : u_85.2.1 182 6 = S.2.1 182 6 := ((fu_85 182 rfl).2.1 6).trans (((hL34_ 182 rfl).2.1 6).trans (uF_a)); rw [e]; exact hv6 (by omega)) (RRz.sv hRl hI34 (by omega) (by omega) (show r_74 = ((cc + 1) * 13 + j) * 8 by omega) (by omega) xu_85.2) (show Hd (bs u_85 181) from (bs_fr fu_85 rfl hbl)) (show bv u_85 181 = bv S 181 from (bv_fr fu_85 rfl rfl).trans (hvl)) (fun i a b => by by_cases q : i = j; (rw [q, ← show r_74 = ((cc + 1) * 13 + j) * 8 by omega]; refine (show nv _ _ = _ from xu_85.1).trans ?_; unfold limr; rw [if_neg (by omega)]; first | rw [if_pos (by omega), if_pos (by omega)] | rw [if_pos (by omega), if_neg (by omega)] | rw [if_neg (by omega)]); (have e := hnl i a (by omega); rw [nv_sz hI34 (by omega) xu_85.2 (by omega), (show S34.2.1 121 = S34.2.1 121 from funext fun x => rfl)]; exact e)) hW hL (lv_sub hl [0, 1, 2, 3, 4] rfl)
              · refine lv_lconst (v := jv 0) hx hb dX6_addLimit_62 (by decide) ?_
                refine lv_goto (tgt := 77) hx hb dX6_addLimit_63 (by decide) ?_
                refine sBv (sSt (As := [.ref (G.2.2.1 + 121), .int (iv r_74), .long (jv 0)]) (rest := []) Cx (b_X0_store l G S34 (k := 121) (a := r_74) (v := 0) (N := 4264) hI34 ⟨by decide, rfl, by decide, rfl, rfl, rfl⟩ (by omega) (by omega) (fun q _ => by rcases q with q | q <;> exact absurd q (by decide))) (c_X6_60 Cx rfl rfl (rmk_ok (by omega) (by decide))) hW rfl hl.1 rfl (Nat.le_of_ble_eq_true rfl) dX6_addLimit_77 ⟨Nat.le_of_ble_eq_true rfl, Nat.le_of_ble_eq_true rfl⟩) hL (fun u_93 H locs k_94 hW hL => ?_)
                obtain ⟨iu_93, fu_93, xu_93⟩ := k_94
                have F_95 := hFm34.trans (fu_93.to (p1_sub rfl))
                have F_96 := hL34_.trans (fu_93.to (p1_sub rfl))
                refine lv_iinc (v := iv (j + 1)) (lv' := [(4, .int (iv (j + 1))), (0, .ref (G.2.2.1 + 120)), (1, .int (iv z)), (2, .ref (G.2.2.1 + 181)), (3, .int (iv ab))]) hx hb dX6_addLimit_80 hl (k := 0) rfl ((Int32.ofInt_add _ _).symm) (by decide) rfl (fun ls hl => ?_)
                refine lv_goto (tgt := 34) hx hb dX6_addLimit_83 (by decide) ?_
                have lk_97 : u_93.1 120 9 = S34.1 120 9 := (fu_93 120 rfl).1 9
                have lk_98 : u_93.1 120 8 = S34.1 120 8 := (fu_93 120 rfl).1 8
                have q_99 : 0 ≤ S.1 181 1 ∧ S.1 181 1 ≤ 32 := hI.fi 181 1 0 (by decide) rfl
                have lk_100 : u_93.1 181 1 = S.1 181 1 := ((fu_93 181 rfl).1 1).trans (((hL34_ 181 rfl).1 1).trans (uF_ne (fun h => absurd h.2 (by decide))))
                exact ih_34 u_93 (j + 1) _ _ _ (by omega) iu_93 F_95 F_96 (by omega) (by omega) (by omega) (by omega) (fun q => by have e : u_93.2.1 182 6 = S.2.1 182 6 := ((fu_93 182 rfl).2.1 6).trans (((hL34_ 182 rfl).2.1 6).trans (uF_a)); rw [e]; exact hv6 (by omega)) (RRz.sv hRl hI34 (by omega) (by omega) (show r_74 = ((cc + 1) * 13 + j) * 8 by omega) (by omega) xu_93.2) (show Hd (bs u_93 181) from (bs_fr fu_93 rfl hbl)) (show bv u_93 181 = bv S 181 from (bv_fr fu_93 rfl rfl).trans (hvl)) (fun i a b => by by_cases q : i = j; (rw [q, ← show r_74 = ((cc + 1) * 13 + j) * 8 by omega]; refine (show nv _ _ = _ from xu_93.1).trans ?_; unfold limr; rw [if_neg (by omega)]; first | rw [if_pos (by omega), if_pos (by omega)] | rw [if_pos (by omega), if_neg (by omega)] | rw [if_neg (by omega)]); (have e := hnl i a (by omega); rw [nv_sz hI34 (by omega) xu_93.2 (by omega), (show S34.2.1 121 = S34.2.1 121 from funext fun x => rfl)]; exact e)) hW hL (lv_sub hl [0, 1, 2, 3, 4] rfl)
        have lk_101 : (uF S 120 9 ((S.1 120 9) + 1)).1 120 9 = (S.1 120 9) + 1 := uF_on
        have lk_102 : (uF S 120 9 ((S.1 120 9) + 1)).1 120 8 = S.1 120 8 := uF_ne (fun h => absurd h.2 (by decide))
        have q_103 : 0 ≤ S.1 181 1 ∧ S.1 181 1 ≤ 32 := hI.fi 181 1 0 (by decide) rfl
        have lk_104 : (uF S 120 9 ((S.1 120 9) + 1)).1 181 1 = S.1 181 1 := uF_ne (fun h => absurd h.2 (by decide))
        exact loop_34 (_ + 1) (uF S 120 9 ((S.1 120 9) + 1)) 1 _ _ _ (Nat.lt_succ_self _) i_10 F_9 Fr.rf (by omega) (by omega) (by omega) (by omega) (fun q => by have e : (uF S 120 9 ((S.1 120 9) + 1)).2.1 182 6 = S.2.1 182 6 := uF_a; rw [e]; exact hv6 (by omega)) (RRz.of hR.2.2 (show (uF S 120 9 ((S.1 120 9) + 1)).2.1 121 = S.2.1 121 from funext fun x => uF_a)) (show Hd (bs (uF S 120 9 ((S.1 120 9) + 1)) 181) from (bs_F (fun h => absurd h (by decide)) hbv)) (show bv (uF S 120 9 ((S.1 120 9) + 1)) 181 = bv S 181 from bv_F (fun h => absurd h (by decide))) (fun i a b => absurd b (by omega)) hW hL (lv_sub hl [0, 1, 2, 3, 4] rfl)
      · exact sVret Cx hr hlk hW hL ⟨hI, (Fr.rf : Fr S S pRz), (fun a b d => by exfalso; omega)⟩ dX6_addLimit_20

set_option maxRecDepth 100000 in
set_option maxHeartbeats 4000000 in
theorem z_X6_keep_120 (l : Launch) (G : sG) (S : sS) {k : Int} {n cc : Int} {RR : Int → Int → Int} (hI : cX G S 0 0 0) (hk : -2147483648 ≤ k ∧ k ≤ 2147483647) (hR : Hd (RWz S n cc RR)) : Met l yX6_keep (.code yX6_keep cX6_keep 2 none :: tb) (rmk 2 0 0) (sPc G 294 S [.ref (G.2.2.1 + 120), .int (iv k)]) (sQv G 294 (fun u => cX G u 0 0 0 ∧ Fr S u (p1 120) ∧ (Hd (0 ≤ k → k ≤ cc → RWz u n k RR)))) 0 0 (sF G) := by
  refine sEnter (by decide) (Nat.le_of_ble_eq_true rfl) ?_
  intro p e s m args below meth c Cx hr hlk hnm hW ls hl
  have Cx : sC G p m c cX6_keep 2 s args RX6 := Cx
  obtain ⟨hx, hb, hml, hown, hts⟩ := id Cx.1
  have hL : sL G [] := sL_nil
  have hl : lv_has ls 2 [(0, .ref (G.2.2.1 + 120)), (1, .int (iv k))] := hl
  have hW0 := hW
  have hn0 : 0 ≤ S.1 120 8 ∧ S.1 120 8 ≤ 12 := hI.fi 120 8 6 (by decide) rfl; have hc0 : 0 ≤ S.1 120 9 ∧ S.1 120 9 ≤ 40 := hI.fi 120 9 6 (by decide) rfl; have hR1 := hR.1; have hR2 := hR.2.1
  refine lv_aload_n hx hb dX6_keep_0 rfl (lv_at hl 0 rfl) ?_
  refine lv_aload_n hx hb dX6_keep_1 rfl (lv_at hl 0 rfl) ?_
  have q_1 : 0 ≤ S.1 120 9 ∧ S.1 120 9 ≤ 40 := hI.fi 120 9 6 (by decide) rfl
  refine g_X6_50 Cx hW (k := 120) (by decide) rfl (v := S.1 120 9) rfl dX6_keep_2 ?_
  refine lv_iload_n hx hb dX6_keep_5 rfl (lv_at hl 1 rfl) ?_
  refine lv_iconst (v := iv 0) hx hb dX6_keep_6 (by decide) ?_
  refine r_max hx hb (hml.trans hl.1.symm) hown (hts _ w_1571) (hts _ w_242) (hts _ w_206) (hts _ w_243) (rmk_f (by omega)) (rmk_l (by omega) (Nat.le_of_ble_eq_true rfl)) (Nat.le_of_ble_eq_true rfl) (Nat.le_of_ble_eq_true rfl) ⟨(by omega), (by omega)⟩ ⟨(by omega), (by omega)⟩ dX6_keep_7 (fun z_2 hz_2 => ?_)
  refine r_min hx hb (hml.trans hl.1.symm) hown (hts _ w_1572) (hts _ w_777) (hts _ w_206) (hts _ w_778) (rmk_f (by omega)) (rmk_l (by omega) (Nat.le_of_ble_eq_true rfl)) (Nat.le_of_ble_eq_true rfl) (Nat.le_of_ble_eq_true rfl) ⟨(by omega), (by omega)⟩ ⟨(by omega), (by omega)⟩ dX6_keep_10 (fun z_3 hz_3 => ?_)
  refine p_X6_50 Cx hW hL (k := 120) (by decide) rfl dX6_keep_13 (fun H locs hW hL => ?_)
  have F_4 : Fr S (uF S 120 9 z_3) (p1 120) := (Fr.rf : Fr S S (p1 120)).F rfl
  have i_5 : cX G (uF S 120 9 z_3) 0 0 0 := hI.F rfl rfl (show 0 ≤ z_3 ∧ z_3 ≤ 40 from ⟨by omega, by omega⟩)
  exact sVret Cx hr hlk hW hL ⟨i_5, F_4, (fun a b => ⟨(uF_ne (by decide)).trans hR.1, uF_on.trans (by omega), fun i j i0 i1 j0 j1 => hR.2.2 i j i0 (by omega) j0 j1⟩)⟩ dX6_keep_16

set_option maxRecDepth 100000 in
set_option maxHeartbeats 4000000 in
theorem z_X6_take_120 (l : Launch) (G : sG) (S : sS) {md : Nat} (hI : cX G S 0 0 0) (hm2 : mdl md) : Met l yX6_take (.code yX6_take cX6_take 4 none :: tb) (rmk 3 0 0) (sPc G 294 S [.ref (G.2.2.1 + 120), .ref (G.2.2.1 + md)]) (sQv G 294 (fun u => cX G u 0 0 0 ∧ Fr S u pRz ∧ (Hd (RWz u (S.1 md 2) (S.1 md 3) (fun k j => S.2.1 (md + 1) (k * 13 + j))) ∧ Hd (FCz u (fun _ => 0))))) 0 0 (sF G) := by
  refine sEnter (by decide) (Nat.le_of_ble_eq_true rfl) ?_
  intro p e s m args below meth c Cx hr hlk hnm hW ls hl
  have Cx : sC G p m c cX6_take 4 s args RX6 := Cx
  obtain ⟨hx, hb, hml, hown, hts⟩ := id Cx.1
  have hL : sL G [] := sL_nil
  have hl : lv_has ls 4 [(0, .ref (G.2.2.1 + 120)), (1, .ref (G.2.2.1 + md))] := hl
  have hW0 := hW
  have hv12 : 0 ≤ S.1 md 2 ∧ S.1 md 2 ≤ 12 := hI.fi md 2 3 (mdl_k hm2) hm2.1; have hv16 : 0 ≤ S.1 md 3 ∧ S.1 md 3 ≤ 16 := hI.fi md 3 3 (mdl_k hm2) hm2.1
  refine lv_aload_n hx hb dX6_take_0 rfl (lv_at hl 0 rfl) ?_
  refine lv_aload_n hx hb dX6_take_1 rfl (lv_at hl 1 rfl) ?_
  have q_1 : 0 ≤ S.1 md 2 ∧ S.1 md 2 ≤ 12 := hI.fi md 2 3 (mdl_k hm2) hm2.1
  refine g_X6_40 Cx hW (k := md) (mdl_l hm2) hm2.1 (v := S.1 md 2) rfl dX6_take_2 ?_
  refine p_X6_46 Cx hW hL (k := 120) (by decide) rfl dX6_take_5 (fun H locs hW hL => ?_)
  have F_2 : Fr S (uF S 120 8 (S.1 md 2)) pRz := (Fr.rf : Fr S S pRz).F rfl
  have i_3 : cX G (uF S 120 8 (S.1 md 2)) 0 0 0 := hI.F rfl rfl (show 0 ≤ S.1 md 2 ∧ S.1 md 2 ≤ 12 from ⟨by omega, by omega⟩)
  refine lv_aload_n hx hb dX6_take_8 rfl (lv_at hl 0 rfl) ?_
  refine lv_aload_n hx hb dX6_take_9 rfl (lv_at hl 1 rfl) ?_
  have q_4 : 0 ≤ S.1 md 3 ∧ S.1 md 3 ≤ 16 := hI.fi md 3 3 (mdl_k hm2) hm2.1
  refine g_X6_47 Cx hW (k := md) (mdl_l hm2) hm2.1 (v := S.1 md 3) (uF_ne (fun h => absurd h.2 (by decide))) dX6_take_10 ?_
  refine p_X6_50 Cx hW hL (k := 120) (by decide) rfl dX6_take_13 (fun H locs hW hL => ?_)
  have F_5 : Fr S (uF (uF S 120 8 (S.1 md 2)) 120 9 (S.1 md 3)) pRz := F_2.F rfl
  have i_6 : cX G (uF (uF S 120 8 (S.1 md 2)) 120 9 (S.1 md 3)) 0 0 0 := i_3.F rfl rfl (show 0 ≤ S.1 md 3 ∧ S.1 md 3 ≤ 40 from ⟨by omega, by omega⟩)
  refine lv_iconst (v := iv 0) hx hb dX6_take_16 (by decide) ?_
  refine lv_istore_n (lv' := [(2, .int (iv 0)), (0, .ref (G.2.2.1 + 120)), (1, .ref (G.2.2.1 + md))]) hx hb dX6_take_17 rfl hl (by decide) rfl (fun ls hl => ?_)
  have loop_18 : ∀ (fuel : Nat) (S18 : sS) (k : Int) (H : Heap) (locs : List Loc) (ls : Array Slot), (17 - k).toNat < fuel → (cX G S18 0 0 0) → (Fr S S18 pRz) → (Fr ((uF (uF S 120 8 (S.1 md 2)) 120 9 (S.1 md 3))) S18 pRz) → (0 ≤ k ∧ k ≤ 17) → (k ≤ S.1 md 3 + 1) → (S18.1 120 8 = S.1 md 2 ∧ S18.1 120 9 = S.1 md 3) → (Hd (∀ pp i, 0 ≤ pp → pp < k → 0 ≤ i → i ≤ S.1 md 2 → nv (S18.2.1 121) ((pp * 13 + i) * 8) = S.2.1 (md + 1) (pp * 13 + i))) → sW G 294 S18 H → sL G locs → lv_has ls 4 [(2, .int (iv k)), (0, .ref (G.2.2.1 + 120)), (1, .ref (G.2.2.1 + md))] → W p l e (rmk 3 0 0) s m args below meth c H locs 0 0 (MQ below (sQv G 294 (fun u => cX G u 0 0 0 ∧ Fr S u pRz ∧ (Hd (RWz u (S.1 md 2) (S.1 md 3) (fun k j => S.2.1 (md + 1) (k * 13 + j))) ∧ Hd (FCz u (fun _ => 0))))) args s 0 0 (sF G)) (F0 m 18 ls []) := by
    intro fuel
    induction fuel with
    | zero => intro S18 k H locs ls hmeas hI18 hFm18 hL18_ hk hkm hfl hnk hW hL hl; exact absurd hmeas (Nat.not_lt_zero _)
    | succ fuel ih_18 =>
      intro S18 k H locs ls hmeas hI18 hFm18 hL18_ hk hkm hfl hnk hW hL hl
      refine lv_iload_n hx hb dX6_take_18 rfl (lv_at hl 0 rfl) ?_
      refine lv_aload_n hx hb dX6_take_19 rfl (lv_at hl 1 rfl) ?_
      have q_7 : 0 ≤ S18.1 120 9 ∧ S18.1 120 9 ≤ 40 := hI18.fi 120 9 6 (by decide) rfl
      refine g_X6_50 Cx hW (k := 120) (by decide) rfl (v := S18.1 120 9) rfl dX6_take_20 ?_
      refine r_icmp_gt (tgt := 67) hx hb ⟨(by omega), (by omega)⟩ ⟨(by omega), (by omega)⟩ dX6_take_23 (by decide) (fun c_8 => ?_) (fun c_8 => ?_)
      · refine lv_aload_n hx hb dX6_take_67 rfl (lv_at hl 1 rfl) ?_
        refine sBv (sV (As := []) (rest := []) (k := 120) Cx (z_X6_clearFactors_120 l G S18  hI18) (c_X6_64 Cx rfl rfl (rmk_ok (by omega) (by decide))) hW (by decide) rfl rfl rfl hl.1 rfl (Nat.le_of_ble_eq_true rfl) dX6_take_68 ⟨Nat.le_of_ble_eq_true rfl, Nat.le_of_ble_eq_true rfl⟩) hL (fun u_9 H locs k_10 hW hL => ?_)
        obtain ⟨iu_9, fu_9, xu_9⟩ := k_10
        have F_11 := hFm18.trans (fu_9.to (p1_sub rfl))
        have F_12 := hL18_.trans (fu_9.to (p1_sub rfl))
        have q_13 : 0 ≤ S18.1 120 8 ∧ S18.1 120 8 ≤ 12 := hI18.fi 120 8 6 (by decide) rfl
        have lk_14 : u_9.1 120 8 = S18.1 120 8 := (fu_9 120 rfl).1 8
        have lk_15 : u_9.1 120 9 = S18.1 120 9 := (fu_9 120 rfl).1 9
        exact sVret Cx hr hlk hW hL ⟨iu_9, F_11, ⟨⟨by omega, by omega, fun pp i a b d e => by rw [(show u_9.2.1 121 = S18.2.1 121 from funext fun x => (fu_9 121 rfl).2.1 x)]; exact hnk pp i a (by omega) d e⟩, xu_9⟩⟩ dX6_take_71
      · refine lv_iconst (v := iv 0) hx hb dX6_take_26 (by decide) ?_
        refine lv_istore_n (lv' := [(3, .int (iv 0)), (2, .int (iv k)), (0, .ref (G.2.2.1 + 120)), (1, .ref (G.2.2.1 + md))]) hx hb dX6_take_27 rfl hl (by decide) rfl (fun ls hl => ?_)
        have loop_28 : ∀ (fuel : Nat) (S28 : sS) (j : Int) (H : Heap) (locs : List Loc) (ls : Array Slot), (13 - j).toNat < fuel → (cX G S28 0 0 0) → (Fr S S28 pRz) → (Fr ((uF (uF S 120 8 (S.1 md 2)) 120 9 (S.1 md 3))) S28 pRz) → (Fr S18 S28 pRz) → (0 ≤ j ∧ j ≤ 13) → (j ≤ S.1 md 2 + 1) → (S28.1 120 8 = S.1 md 2 ∧ S28.1 120 9 = S.1 md 3) → (Hd (∀ pp i, 0 ≤ pp → pp < k → 0 ≤ i → i ≤ S.1 md 2 → nv (S28.2.1 121) ((pp * 13 + i) * 8) = S.2.1 (md + 1) (pp * 13 + i))) → (Hd (∀ i, 0 ≤ i → i < j → nv (S28.2.1 121) ((k * 13 + i) * 8) = S.2.1 (md + 1) (k * 13 + i))) → sW G 294 S28 H → sL G locs → lv_has ls 4 [(3, .int (iv j)), (2, .int (iv k)), (0, .ref (G.2.2.1 + 120)), (1, .ref (G.2.2.1 + md))] → W p l e (rmk 3 0 0) s m args below meth c H locs 0 0 (MQ below (sQv G 294 (fun u => cX G u 0 0 0 ∧ Fr S u pRz ∧ (Hd (RWz u (S.1 md 2) (S.1 md 3) (fun k j => S.2.1 (md + 1) (k * 13 + j))) ∧ Hd (FCz u (fun _ => 0))))) args s 0 0 (sF G)) (F0 m 28 ls []) := by
          intro fuel
          induction fuel with
          | zero => intro S28 j H locs ls hmeas hI28 hFm28 hFL1828 hL28_ hj hjm hfm hnk2 hnj hW hL hl; exact absurd hmeas (Nat.not_lt_zero _)
          | succ fuel ih_28 =>
            intro S28 j H locs ls hmeas hI28 hFm28 hFL1828 hL28_ hj hjm hfm hnk2 hnj hW hL hl
            refine lv_iload_n hx hb dX6_take_28 rfl (lv_at hl 0 rfl) ?_
            refine lv_aload_n hx hb dX6_take_29 rfl (lv_at hl 2 rfl) ?_
            have q_16 : 0 ≤ S28.1 120 8 ∧ S28.1 120 8 ≤ 12 := hI28.fi 120 8 6 (by decide) rfl
            refine g_X6_46 Cx hW (k := 120) (by decide) rfl (v := S28.1 120 8) rfl dX6_take_30 ?_
            refine r_icmp_gt (tgt := 61) hx hb ⟨(by omega), (by omega)⟩ ⟨(by omega), (by omega)⟩ dX6_take_33 (by decide) (fun c_17 => ?_) (fun c_17 => ?_)
            · refine lv_iinc (v := iv (k + 1)) (lv' := [(2, .int (iv (k + 1))), (3, .int (iv j)), (0, .ref (G.2.2.1 + 120)), (1, .ref (G.2.2.1 + md))]) hx hb dX6_take_61 hl (k := 1) rfl ((Int32.ofInt_add _ _).symm) (by decide) rfl (fun ls hl => ?_)
              refine lv_goto (tgt := 18) hx hb dX6_take_64 (by decide) ?_
              have q_18 : 0 ≤ S28.1 120 9 ∧ S28.1 120 9 ≤ 40 := hI28.fi 120 9 6 (by decide) rfl
              exact ih_18 S28 (k + 1) _ _ _ (by omega) hI28 hFm28 hFL1828 (by omega) (by omega) (by omega) (fun pp i a b d e => by by_cases q : pp = k; (rw [q]; exact hnj i d (by omega)); exact hnk2 pp i a (by omega) d e) hW hL (lv_sub hl [0, 2, 3] rfl)
            · refine lv_aload_n hx hb dX6_take_36 rfl (lv_at hl 2 rfl) ?_
              refine g_X6_13 Cx hW (k := 120) (by decide) rfl (v := .ref (G.2.2.1 + 121)) (rf_120_0 hI28) dX6_take_37 ?_
              refine lv_iload_n hx hb dX6_take_40 rfl (lv_at hl 1 rfl) ?_
              refine lv_iload_n hx hb dX6_take_41 rfl (lv_at hl 0 rfl) ?_
              refine sBi (sSt (As := [.int (iv k), .int (iv j)]) (rest := [.ref (G.2.2.1 + 121)]) Cx (s_X6_at l G S28 (k := k) (j := j) (by omega) (by omega)) (c_X6_53 Cx rfl rfl (rmk_ok (by omega) (by decide))) hW rfl hl.1 rfl (Nat.le_of_ble_eq_true rfl) dX6_take_42 ⟨Nat.le_of_ble_eq_true rfl, Nat.le_of_ble_eq_true rfl⟩) hL (fun r_21 u_19 H locs k_20 hW hL => ?_)
              obtain ⟨eu_19, xu_19⟩ := k_20
              rw [eu_19] at hW
              refine lv_aload_n hx hb dX6_take_45 rfl (lv_at hl 3 rfl) ?_
              refine lv_iload_n hx hb dX6_take_46 rfl (lv_at hl 1 rfl) ?_
              refine lv_iload_n hx hb dX6_take_47 rfl (lv_at hl 0 rfl) ?_
              refine sBi (sV (As := [.int (iv k), .int (iv j)]) (rest := [.int (iv r_21), .ref (G.2.2.1 + 121)]) (k := md) Cx (b_X3_number l G S28 (o := md) (k := k) (j := j) hI28 hm2 (by omega) (by omega)) (c_X6_57 Cx rfl rfl (rmk_ok (by omega) (by decide))) hW (mdl_l hm2) hm2.1 rfl rfl hl.1 rfl (Nat.le_of_ble_eq_true rfl) dX6_take_48 ⟨Nat.le_of_ble_eq_true rfl, Nat.le_of_ble_eq_true rfl⟩) hL (fun r_24 u_22 H locs k_23 hW hL => ?_)
              obtain ⟨eu_22, xu_22⟩ := k_23
              rw [eu_22] at hW
              have hnb : r_24 = S.2.1 (md + 1) (k * 13 + j) := xu_22.1.trans (show S28.2.1 (md + 1) (k * 13 + j) = S.2.1 (md + 1) (k * 13 + j) from ((hL28_ (md + 1) (mo_pRz hm2).2.1).2.1 (k * 13 + j)).trans (((hL18_ (md + 1) (mo_pRz hm2).2.1).2.1 (k * 13 + j)).trans ((uF_a).trans (uF_a))))
              refine r_i2l hx hb ⟨(by omega), (by omega)⟩ dX6_take_51 ?_
              refine sBv (sSt (As := [.ref (G.2.2.1 + 121), .int (iv r_21), .long (jv r_24)]) (rest := []) Cx (b_X0_store l G S28 (k := 121) (a := r_21) (v := r_24) (N := 4264) hI28 ⟨by decide, rfl, by decide, rfl, rfl, rfl⟩ (by omega) (by omega) (fun q _ => by rcases q with q | q <;> exact absurd q (by decide))) (c_X6_60 Cx rfl rfl (rmk_ok (by omega) (by decide))) hW rfl hl.1 rfl (Nat.le_of_ble_eq_true rfl) dX6_take_52 ⟨Nat.le_of_ble_eq_true rfl, Nat.le_of_ble_eq_true rfl⟩) hL (fun u_25 H locs k_26 hW hL => ?_)
              obtain ⟨iu_25, fu_25, xu_25⟩ := k_26
              have F_27 := hFm28.trans (fu_25.to (p1_sub rfl))
              have F_28 := hFL1828.trans (fu_25.to (p1_sub rfl))
              have F_29 := hL28_.trans (fu_25.to (p1_sub rfl))
              refine lv_iinc (v := iv (j + 1)) (lv' := [(3, .int (iv (j + 1))), (2, .int (iv k)), (0, .ref (G.2.2.1 + 120)), (1, .ref (G.2.2.1 + md))]) hx hb dX6_take_55 hl (k := 0) rfl ((Int32.ofInt_add _ _).symm) (by decide) rfl (fun ls hl => ?_)
              refine lv_goto (tgt := 28) hx hb dX6_take_58 (by decide) ?_
              have lk_30 : u_25.1 120 8 = S28.1 120 8 := (fu_25 120 rfl).1 8
              have q_31 : 0 ≤ S28.1 120 9 ∧ S28.1 120 9 ≤ 40 := hI28.fi 120 9 6 (by decide) rfl
              have lk_32 : u_25.1 120 9 = S28.1 120 9 := (fu_25 120 rfl).1 9
              exact ih_28 u_25 (j + 1) _ _ _ (by omega) iu_25 F_27 F_28 F_29 (by omega) (by omega) (by omega) (fun pp i a b d e => by rw [nv_sz hI28 (by omega) xu_25.2 (by omega)]; exact hnk2 pp i a b d e) (fun i a b => by by_cases q : i = j; (rw [q, ← show r_21 = (k * 13 + j) * 8 by omega]; exact (show nv _ _ = _ from xu_25.1).trans hnb); (have e := hnj i a (by omega); rw [nv_sz hI28 (by omega) xu_25.2 (by omega)]; exact e)) hW hL (lv_sub hl [0, 1, 2, 3] rfl)
        have q_33 : 0 ≤ S18.1 120 8 ∧ S18.1 120 8 ≤ 12 := hI18.fi 120 8 6 (by decide) rfl
        exact loop_28 (_ + 1) S18 0 _ _ _ (Nat.lt_succ_self _) hI18 hFm18 hL18_ Fr.rf (by omega) (by omega) (by omega) hnk (fun i a b => absurd b (by omega)) hW hL (lv_sub hl [0, 1, 2, 3] rfl)
  have lk_34 : (uF (uF S 120 8 (S.1 md 2)) 120 9 (S.1 md 3)).1 120 8 = S.1 md 2 := (uF_ne (fun h => absurd h.2 (by decide))).trans (uF_on)
  have lk_35 : (uF (uF S 120 8 (S.1 md 2)) 120 9 (S.1 md 3)).1 120 9 = S.1 md 3 := uF_on
  exact loop_18 (_ + 1) (uF (uF S 120 8 (S.1 md 2)) 120 9 (S.1 md 3)) 0 _ _ _ (Nat.lt_succ_self _) i_6 F_5 Fr.rf (by omega) (by omega) (by omega) (fun pp i a b => absurd b (by omega)) hW hL (lv_sub hl [0, 1, 2] rfl)

set_option maxRecDepth 100000 in
set_option maxHeartbeats 4000000 in
theorem v_X5_writeCut (l : Launch) (G : sG) (S : sS) {oc od : Nat} {n hw : Int} {d : dT} {L : List Int} {vs so : Int} (hI : cX G S 0 0 0) (hdq : dcs G S oc od) (hDR : Hd (DRc S oc n hw d)) (hT : Hd (TXc S 160 30000 L)) (hvs : vs = n ∧ 0 ≤ n ∧ n ≤ 12) (hso : 1 ≤ so ∧ so ≤ d.2.2.2.2.1) (hDp : 0 < d.1) : Met l yX5_writeCut (.code yX5_writeCut cX5_writeCut 6 none :: tb) (rmk 7 0 0) (sPc G 294 S [.ref (G.2.2.1 + 157), .ref (G.2.2.1 + 135), .int (iv vs), .int (iv so), .ref (G.2.2.1 + 120)]) (sQv G 294 (fun u => cX G u 0 0 0 ∧ Fr S u pWc ∧ (Hd (TXc u 160 30000 (cuT n d so L)) ∧ Hd (FCz u (fun i => if 1 ≤ i ∧ i < (d.2.2.2.2.1 + 1) then mlt d so (n + i) % d.1 else 0))))) 0 0 (sF G) := by
  refine sEnter (by decide) (Nat.le_of_ble_eq_true rfl) ?_
  intro p e s m args below meth c Cx hr hlk hnm hW ls hl
  have Cx : sC G p m c cX5_writeCut 6 s args RX5 := Cx
  obtain ⟨hx, hb, hml, hown, hts⟩ := id Cx.1
  have hL : sL G [] := sL_nil
  have hl : lv_has ls 6 [(0, .ref (G.2.2.1 + 157)), (1, .ref (G.2.2.1 + 135)), (2, .int (iv vs)), (3, .int (iv so)), (4, .ref (G.2.2.1 + 120))] := hl
  have hW0 := hW
  obtain ⟨hoc, hod, hcd, hec, hed⟩ := id hdq
  have hd13 := hDR.2.2.2.2.1; have hd14 := hDR.2.2.2.2.2.1; have hd15 := hDR.2.2.2.2.2.2.1; have hd16 := hDR.2.2.2.2.2.2.2; have hm40 : 0 ≤ S.1 135 14 ∧ S.1 135 14 ≤ 40 := hI.fi 135 14 2 (by decide) rfl; have hp13 : 0 ≤ S.1 135 15 ∧ S.1 135 15 ≤ 13 := hI.fi 135 15 2 (by decide) rfl
  refine lv_aload_n hx hb dX5_writeCut_0 rfl (lv_at hl 0 rfl) ?_
  refine g_X5_20 Cx hW (k := 157) (by decide) rfl (v := .ref (G.2.2.1 + 160)) (rf_157_1 hI) dX5_writeCut_1 ?_
  refine zLdc Cx 5 (by decide) ⟨rfl, rfl⟩ dX5_writeCut_4 ?_
  refine sBv (sV (As := [.ref (G.1.2 100 5)]) (rest := []) (k := 160) Cx (v_X10_word l G S (o := 160) (si := 5) (N := 30000) (L := L) hI ⟨by decide, rfl, rfl, rfl, rfl, by decide⟩ (by decide) (by omega) hT) (c_X5_95 Cx rfl rfl (rmk_ok (by omega) (by decide))) hW (by decide) rfl rfl rfl hl.1 rfl (Nat.le_of_ble_eq_true rfl) dX5_writeCut_6 ⟨Nat.le_of_ble_eq_true rfl, Nat.le_of_ble_eq_true rfl⟩) hL (fun u_1 H locs k_2 hW hL => ?_)
  obtain ⟨iu_1, fu_1, xu_1⟩ := k_2
  have F_3 := (Fr.rf : Fr S S pWc).trans (fu_1.to (pB_sub rfl rfl))
  refine lv_aload_n hx hb dX5_writeCut_9 rfl (lv_at hl 1 rfl) ?_
  refine lv_aload_n hx hb dX5_writeCut_10 rfl (lv_at hl 0 rfl) ?_
  refine g_X5_40 Cx hW (k := 157) (by decide) rfl (v := .ref (G.2.2.1 + 169)) (rf_157_6 iu_1) dX5_writeCut_11 ?_
  refine sBv (sV (As := [.ref (G.2.2.1 + 169)]) (rest := []) (k := 135) Cx (v_X2_denominator l G u_1 (v := 169) (oc := oc) (od := od) (n := n) (hw := hw) (d := d) iu_1 ⟨hoc, hod, (neD hcd), (((fu_1 135 rfl).2.2.2 0).trans hec), (((fu_1 135 rfl).2.2.2 1).trans hed)⟩ (DRc.of hDR (show u_1.1 135 13 = S.1 135 13 from (fu_1 135 rfl).1 13) (show u_1.1 135 14 = S.1 135 14 from (fu_1 135 rfl).1 14) (show u_1.1 135 15 = S.1 135 15 from (fu_1 135 rfl).1 15) (show u_1.1 135 16 = S.1 135 16 from (fu_1 135 rfl).1 16) (show u_1.2.1 oc = S.2.1 oc from funext fun x => (fu_1 oc (pB_no (tau_ne (dic_t hoc) (rfl : tau 160 = .inl 10) (fun h => by cases h)) (ac_ne (dic_c hoc) (rfl : acode 161 = 2) (by decide)))).2.1 x) (show u_1.2.1 138 = S.2.1 138 from funext fun x => (fu_1 138 rfl).2.1 x) (show u_1.2.1 139 = S.2.1 139 from funext fun x => (fu_1 139 rfl).2.1 x)) rfl) (c_X5_84 Cx rfl rfl (rmk_ok (by omega) (by decide))) hW (by decide) rfl rfl rfl hl.1 rfl (Nat.le_of_ble_eq_true rfl) dX5_writeCut_14 ⟨Nat.le_of_ble_eq_true rfl, Nat.le_of_ble_eq_true rfl⟩) hL (fun u_4 H locs k_5 hW hL => ?_)
  obtain ⟨iu_4, fu_4, xu_4⟩ := k_5
  have F_6 := F_3.trans (fu_4.to (pB_sub rfl rfl))
  have bv_7 : bv u_4 169 = d.1 := xu_4.2.2.2.1.1
  refine lv_aload_n hx hb dX5_writeCut_17 rfl (lv_at hl 0 rfl) ?_
  refine g_X5_20 Cx hW (k := 157) (by decide) rfl (v := .ref (G.2.2.1 + 160)) (rf_157_1 iu_4) dX5_writeCut_18 ?_
  refine lv_aload_n hx hb dX5_writeCut_21 rfl (lv_at hl 0 rfl) ?_
  refine g_X5_40 Cx hW (k := 157) (by decide) rfl (v := .ref (G.2.2.1 + 169)) (rf_157_6 iu_4) dX5_writeCut_22 ?_
  refine lv_iconst (v := iv 1) hx hb dX5_writeCut_25 (by decide) ?_
  refine sBv (sV (As := [.ref (G.2.2.1 + 169), .int (iv 1)]) (rest := []) (k := 160) Cx (v_X10_number l G u_4 (o := 160) (v := 169) (N := 30000) (L := (tkn L (strB.getD 5 []))) iu_4 ⟨by decide, rfl, rfl, rfl, rfl, by decide⟩ rfl (by omega) (show Hd (bs u_4 169) from xu_4.2.2.2.1.2) (TXc.of xu_1 (show u_4.1 160 1 = u_1.1 160 1 from (fu_4 160 rfl).1 1) (show u_4.1 160 2 = u_1.1 160 2 from (fu_4 160 rfl).1 2) (show u_4.2.1 161 = u_1.2.1 161 from funext fun x => (fu_4 161 rfl).2.1 x))) (c_X5_99 Cx rfl rfl (rmk_ok (by omega) (by decide))) hW (by decide) rfl rfl rfl hl.1 rfl (Nat.le_of_ble_eq_true rfl) dX5_writeCut_26 ⟨Nat.le_of_ble_eq_true rfl, Nat.le_of_ble_eq_true rfl⟩) hL (fun u_8 H locs k_9 hW hL => ?_)
  obtain ⟨iu_8, fu_8, xu_8⟩ := k_9
  have F_10 := F_6.trans (fu_8.to (pB_sub rfl rfl))
  refine lv_aload hx hb dX5_writeCut_29 (lv_at hl 4 rfl) ?_
  refine sBv (sV (As := []) (rest := []) (k := 120) Cx (z_X6_clearFactors_120 l G u_8  iu_8) (c_X5_115 Cx rfl rfl (rmk_ok (by omega) (by decide))) hW (by decide) rfl rfl rfl hl.1 rfl (Nat.le_of_ble_eq_true rfl) dX5_writeCut_31 ⟨Nat.le_of_ble_eq_true rfl, Nat.le_of_ble_eq_true rfl⟩) hL (fun u_11 H locs k_12 hW hL => ?_)
  obtain ⟨iu_11, fu_11, xu_11⟩ := k_12
  have F_13 := F_10.trans (fu_11.to (p1_sub rfl))
  refine lv_iconst (v := iv 1) hx hb dX5_writeCut_34 (by decide) ?_
  refine lv_istore (lv' := [(5, .int (iv 1)), (0, .ref (G.2.2.1 + 157)), (1, .ref (G.2.2.1 + 135)), (2, .int (iv vs)), (3, .int (iv so)), (4, .ref (G.2.2.1 + 120))]) hx hb dX5_writeCut_35 hl (by decide) rfl (fun ls hl => ?_)
  have loop_37 : ∀ (fuel : Nat) (S37 : sS) (k : Int) (H : Heap) (locs : List Loc) (ls : Array Slot), (41 - k).toNat < fuel → (cX G S37 0 0 0) → (Fr S S37 pWc) → (Fr u_11 S37 pWc) → (1 ≤ k ∧ k ≤ d.2.2.2.2.1 + 1) → (Hd (TXc S37 160 30000 (psT (fun k => mlt d so (n + k) % d.1) (tkn (tkn L wCu) (nmT d.1)) (k - 1).toNat))) → (Hd (DRc S37 oc n hw d)) → (Hd (FCz S37 (fun i => if 1 ≤ i ∧ i < k then mlt d so (n + i) % d.1 else 0))) → sW G 294 S37 H → sL G locs → lv_has ls 6 [(5, .int (iv k)), (0, .ref (G.2.2.1 + 157)), (1, .ref (G.2.2.1 + 135)), (2, .int (iv vs)), (3, .int (iv so)), (4, .ref (G.2.2.1 + 120))] → W p l e (rmk 7 0 0) s m args below meth c H locs 0 0 (MQ below (sQv G 294 (fun u => cX G u 0 0 0 ∧ Fr S u pWc ∧ (Hd (TXc u 160 30000 (cuT n d so L)) ∧ Hd (FCz u (fun i => if 1 ≤ i ∧ i < (d.2.2.2.2.1 + 1) then mlt d so (n + i) % d.1 else 0))))) args s 0 0 (sF G)) (F0 m 37 ls []) := by
    intro fuel
    induction fuel with
    | zero => intro S37 k H locs ls hmeas hI37 hFm37 hL37_ hk hl37 hD37 hf37 hW hL hl; exact absurd hmeas (Nat.not_lt_zero _)
    | succ fuel ih_37 =>
      intro S37 k H locs ls hmeas hI37 hFm37 hL37_ hk hl37 hD37 hf37 hW hL hl
      have hD3714 := hD37.2.2.2.2.2.1; have hD3715 := hD37.2.2.2.2.2.2.1
      refine lv_iload hx hb dX5_writeCut_37 (lv_at hl 0 rfl) ?_
      refine lv_aload_n hx hb dX5_writeCut_39 rfl (lv_at hl 2 rfl) ?_
      have q_14 : 0 ≤ S.1 135 14 ∧ S.1 135 14 ≤ 40 := hI.fi 135 14 2 (by decide) rfl
      have lk_15 : S37.1 135 14 = S.1 135 14 := ((hL37_ 135 rfl).1 14).trans (((fu_11 135 rfl).1 14).trans (((fu_8 135 rfl).1 14).trans (((fu_4 135 rfl).1 14).trans ((fu_1 135 rfl).1 14))))
      refine sBi (sV (As := []) (rest := [.int (iv k)]) (k := 135) Cx (s_X2_rowCount l G S37  hI37) (c_X5_102 Cx rfl rfl (rmk_ok (by omega) (by decide))) hW (by decide) rfl rfl rfl hl.1 rfl (Nat.le_of_ble_eq_true rfl) dX5_writeCut_40 ⟨Nat.le_of_ble_eq_true rfl, Nat.le_of_ble_eq_true rfl⟩) hL (fun r_18 u_16 H locs k_17 hW hL => ?_)
      obtain ⟨eu_16, xu_16⟩ := k_17
      rw [eu_16] at hW
      refine r_icmp_gt (tgt := 94) hx hb ⟨(by omega), (by omega)⟩ ⟨(by omega), (by omega)⟩ dX5_writeCut_43 (by decide) (fun c_19 => ?_) (fun c_19 => ?_)
      · refine lv_aload_n hx hb dX5_writeCut_94 rfl (lv_at hl 1 rfl) ?_
        refine g_X5_20 Cx hW (k := 157) (by decide) rfl (v := .ref (G.2.2.1 + 160)) (rf_157_1 hI37) dX5_writeCut_95 ?_
        refine zLdc Cx 4 (by decide) ⟨rfl, rfl⟩ dX5_writeCut_98 ?_
        refine sBv (sV (As := [.ref (G.1.2 100 4)]) (rest := []) (k := 160) Cx (v_X10_word l G S37 (o := 160) (si := 4) (N := 30000) (L := (psT (fun k => mlt d so (n + k) % d.1) (tkn (tkn L wCu) (nmT d.1)) (k - 1).toNat)) hI37 ⟨by decide, rfl, rfl, rfl, rfl, by decide⟩ (by decide) (by omega) hl37) (c_X5_95 Cx rfl rfl (rmk_ok (by omega) (by decide))) hW (by decide) rfl rfl rfl hl.1 rfl (Nat.le_of_ble_eq_true rfl) dX5_writeCut_100 ⟨Nat.le_of_ble_eq_true rfl, Nat.le_of_ble_eq_true rfl⟩) hL (fun u_20 H locs k_21 hW hL => ?_)
        obtain ⟨iu_20, fu_20, xu_20⟩ := k_21
        have F_22 := hFm37.trans (fu_20.to (pB_sub rfl rfl))
        have F_23 := hL37_.trans (fu_20.to (pB_sub rfl rfl))
        exact sVret Cx hr hlk hW hL ⟨iu_20, F_22, ⟨(TXc.eq xu_20 (by unfold cuT; rw [show k - 1 = d.2.2.2.2.1 by omega]; rfl)), (by have e := (FCz.of hf37 (show u_20.2.1 122 = S37.2.1 122 from funext fun x => (fu_20 122 rfl).2.1 x)); rw [show k = d.2.2.2.2.1 + 1 by omega] at e; exact e)⟩⟩ dX5_writeCut_103
      · refine lv_aload_n hx hb dX5_writeCut_46 rfl (lv_at hl 2 rfl) ?_
        refine lv_iload_n hx hb dX5_writeCut_47 rfl (lv_at hl 4 rfl) ?_
        refine lv_iload_n hx hb dX5_writeCut_48 rfl (lv_at hl 3 rfl) ?_
        refine lv_iload hx hb dX5_writeCut_49 (lv_at hl 0 rfl) ?_
        refine r_iadd hx hb dX5_writeCut_51 ?_
        refine lv_aload_n hx hb dX5_writeCut_52 rfl (lv_at hl 1 rfl) ?_
        refine g_X5_40 Cx hW (k := 157) (by decide) rfl (v := .ref (G.2.2.1 + 169)) (rf_157_6 hI37) dX5_writeCut_53 ?_
        have hvk : vs + k = n + k := by omega
        refine sBv (sV (As := [.int (iv so), .int (iv (vs + k)), .ref (G.2.2.1 + 169)]) (rest := []) (k := 135) Cx (v_X2_multiplier l G S37 (i := so) (k := vs + k) (v := 169) (oc := oc) (od := od) (n := n) (hw := hw) (d := d) hI37 ⟨hoc, hod, (neD hcd), ((((hL37_ 135 rfl).2.2.2 0).trans (((fu_11 135 rfl).2.2.2 0).trans (((fu_8 135 rfl).2.2.2 0).trans (((fu_4 135 rfl).2.2.2 0).trans ((fu_1 135 rfl).2.2.2 0))))).trans hec), ((((hL37_ 135 rfl).2.2.2 1).trans (((fu_11 135 rfl).2.2.2 1).trans (((fu_8 135 rfl).2.2.2 1).trans (((fu_4 135 rfl).2.2.2 1).trans ((fu_1 135 rfl).2.2.2 1))))).trans hed)⟩ hD37 rfl (by omega) (by omega) (by omega)) (c_X5_105 Cx rfl rfl (rmk_ok (by omega) (by decide))) hW (by decide) rfl rfl rfl hl.1 rfl (Nat.le_of_ble_eq_true rfl) dX5_writeCut_56 ⟨Nat.le_of_ble_eq_true rfl, Nat.le_of_ble_eq_true rfl⟩) hL (fun u_24 H locs k_25 hW hL => ?_)
        obtain ⟨iu_24, fu_24, xu_24⟩ := k_25
        have F_26 := hFm37.trans (fu_24.to (pB_sub rfl rfl))
        have F_27 := hL37_.trans (fu_24.to (pB_sub rfl rfl))
        have bv_28 : bv u_24 169 = mlt d so (vs + k) := xu_24.2.1
        refine lv_aload_n hx hb dX5_writeCut_59 rfl (lv_at hl 2 rfl) ?_
        refine lv_aload_n hx hb dX5_writeCut_60 rfl (lv_at hl 1 rfl) ?_
        refine g_X5_40 Cx hW (k := 157) (by decide) rfl (v := .ref (G.2.2.1 + 169)) (rf_157_6 iu_24) dX5_writeCut_61 ?_
        have q_29 : 0 ≤ u_24.1 169 1 ∧ u_24.1 169 1 ≤ 32 := iu_24.fi 169 1 0 (by decide) rfl
        refine sBv (sV (As := [.ref (G.2.2.1 + 169)]) (rest := []) (k := 135) Cx (v_X2_remainder_169 l G u_24 (oc := oc) (od := od) (n := n) (hw := hw) (d := d) iu_24 ⟨hoc, hod, (neD hcd), ((((fu_24 135 rfl).2.2.2 0).trans (((hL37_ 135 rfl).2.2.2 0).trans (((fu_11 135 rfl).2.2.2 0).trans (((fu_8 135 rfl).2.2.2 0).trans (((fu_4 135 rfl).2.2.2 0).trans ((fu_1 135 rfl).2.2.2 0)))))).trans hec), ((((fu_24 135 rfl).2.2.2 1).trans (((hL37_ 135 rfl).2.2.2 1).trans (((fu_11 135 rfl).2.2.2 1).trans (((fu_8 135 rfl).2.2.2 1).trans (((fu_4 135 rfl).2.2.2 1).trans ((fu_1 135 rfl).2.2.2 1)))))).trans hed)⟩ (DRc.of hD37 (show u_24.1 135 13 = S37.1 135 13 from (fu_24 135 rfl).1 13) (show u_24.1 135 14 = S37.1 135 14 from (fu_24 135 rfl).1 14) (show u_24.1 135 15 = S37.1 135 15 from (fu_24 135 rfl).1 15) (show u_24.1 135 16 = S37.1 135 16 from (fu_24 135 rfl).1 16) (show u_24.2.1 oc = S37.2.1 oc from funext fun x => (fu_24 oc (pB_no (tau_ne (dic_t hoc) (rfl : tau 169 = .inl 0) (fun h => by cases h)) (ac_ne (dic_c hoc) (rfl : acode 170 = 1) (by decide)))).2.1 x) (show u_24.2.1 138 = S37.2.1 138 from funext fun x => (fu_24 138 rfl).2.1 x) (show u_24.2.1 139 = S37.2.1 139 from funext fun x => (fu_24 139 rfl).2.1 x)) (by omega) (by omega) (show Hd (bs u_24 169) from xu_24.2.2)) (c_X5_120 Cx rfl rfl (rmk_ok (by omega) (by decide))) hW (by decide) rfl rfl rfl hl.1 rfl (Nat.le_of_ble_eq_true rfl) dX5_writeCut_64 ⟨Nat.le_of_ble_eq_true rfl, Nat.le_of_ble_eq_true rfl⟩) hL (fun u_30 H locs k_31 hW hL => ?_)
        obtain ⟨iu_30, fu_30, xu_30⟩ := k_31
        have F_32 := F_26.trans (fu_30.to (pD4_sub rfl rfl rfl rfl rfl rfl rfl rfl))
        have F_33 := F_27.trans (fu_30.to (pD4_sub rfl rfl rfl rfl rfl rfl rfl rfl))
        have bv_34 : bv u_30 169 = (mlt d so (vs + k)) % d.1 := (by have e : bv u_30 169 = _ := xu_30.2.2.2.2.2.1; rw [(show bv u_24 169 = mlt d so (vs + k) from bv_28)] at e; exact e)
        have bv_35 : bv u_30 143 = d.1 := xu_30.2.2.2.2.2.2.2.1
        refine lv_aload hx hb dX5_writeCut_67 (lv_at hl 5 rfl) ?_
        refine lv_iload hx hb dX5_writeCut_69 (lv_at hl 0 rfl) ?_
        refine lv_aload_n hx hb dX5_writeCut_71 rfl (lv_at hl 1 rfl) ?_
        refine g_X5_40 Cx hW (k := 157) (by decide) rfl (v := .ref (G.2.2.1 + 169)) (rf_157_6 iu_30) dX5_writeCut_72 ?_
        have q_36 : 0 ≤ u_30.1 169 1 ∧ u_30.1 169 1 ≤ 32 := iu_30.fi 169 1 0 (by decide) rfl
        refine sBv (sV (As := [.int (iv k), .ref (G.2.2.1 + 169)]) (rest := []) (k := 120) Cx (b_X6_setFactor_120 l G u_30 (k := k) (v := 169) (ff := (fun i => if 1 ≤ i ∧ i < k then mlt d so (n + i) % d.1 else 0)) iu_30 rfl (by omega) (by omega) (FCz.of hf37 (show u_30.2.1 122 = S37.2.1 122 from funext fun x => ((fu_30 122 rfl).2.1 x).trans ((fu_24 122 rfl).2.1 x))) (show Hd (bs u_30 169) from xu_30.2.2.2.2.2.2.1)) (c_X5_123 Cx rfl rfl (rmk_ok (by omega) (by decide))) hW (by decide) rfl rfl rfl hl.1 rfl (Nat.le_of_ble_eq_true rfl) dX5_writeCut_75 ⟨Nat.le_of_ble_eq_true rfl, Nat.le_of_ble_eq_true rfl⟩) hL (fun u_37 H locs k_38 hW hL => ?_)
        obtain ⟨iu_37, fu_37, xu_37⟩ := k_38
        have F_39 := F_32.trans (fu_37.to (p1_sub rfl))
        have F_40 := F_33.trans (fu_37.to (p1_sub rfl))
        refine lv_aload_n hx hb dX5_writeCut_78 rfl (lv_at hl 1 rfl) ?_
        refine lv_iload hx hb dX5_writeCut_79 (lv_at hl 0 rfl) ?_
        refine lv_aload_n hx hb dX5_writeCut_81 rfl (lv_at hl 1 rfl) ?_
        refine g_X5_40 Cx hW (k := 157) (by decide) rfl (v := .ref (G.2.2.1 + 169)) (rf_157_6 iu_37) dX5_writeCut_82 ?_
        refine sBv (sV (As := [.int (iv k), .ref (G.2.2.1 + 169)]) (rest := []) (k := 157) Cx (v_X5_writePair l G u_37 (k := k) (v := 169) (L := (psT (fun k => mlt d so (n + k) % d.1) (tkn (tkn L wCu) (nmT d.1)) (k - 1).toNat)) iu_37 rfl (by omega) (show Hd (bs u_37 169) from (bs_fr fu_37 rfl xu_30.2.2.2.2.2.2.1)) (TXc.of hl37 (show u_37.1 160 1 = S37.1 160 1 from ((fu_37 160 rfl).1 1).trans (((fu_30 160 rfl).1 1).trans ((fu_24 160 rfl).1 1))) (show u_37.1 160 2 = S37.1 160 2 from ((fu_37 160 rfl).1 2).trans (((fu_30 160 rfl).1 2).trans ((fu_24 160 rfl).1 2))) (show u_37.2.1 161 = S37.2.1 161 from funext fun x => ((fu_37 161 rfl).2.1 x).trans (((fu_30 161 rfl).2.1 x).trans ((fu_24 161 rfl).2.1 x))))) (c_X5_108 Cx rfl rfl (rmk_ok (by omega) (by decide))) hW (by decide) rfl rfl rfl hl.1 rfl (Nat.le_of_ble_eq_true rfl) dX5_writeCut_85 ⟨Nat.le_of_ble_eq_true rfl, Nat.le_of_ble_eq_true rfl⟩) hL (fun u_41 H locs k_42 hW hL => ?_)
        obtain ⟨iu_41, fu_41, xu_41⟩ := k_42
        have F_43 := F_39.trans (fu_41.to (pB_sub rfl rfl))
        have F_44 := F_40.trans (fu_41.to (pB_sub rfl rfl))
        refine lv_iinc (v := iv (k + 1)) (lv' := [(5, .int (iv (k + 1))), (0, .ref (G.2.2.1 + 157)), (1, .ref (G.2.2.1 + 135)), (2, .int (iv vs)), (3, .int (iv so)), (4, .ref (G.2.2.1 + 120))]) hx hb dX5_writeCut_88 hl (k := 0) rfl ((Int32.ofInt_add _ _).symm) (by decide) rfl (fun ls hl => ?_)
        refine lv_goto (tgt := 37) hx hb dX5_writeCut_91 (by decide) ?_
        exact ih_37 u_41 (k + 1) _ _ _ (by omega) iu_41 F_43 F_44 (by omega) (TXc.eq (show TXc _ 160 30000 (prT (psT (fun k => mlt d so (n + k) % d.1) (tkn (tkn L wCu) (nmT d.1)) (k - 1).toNat) k ((mlt d so (vs + k)) % d.1)) from (TXc.eq xu_41 (by rw [(show bv u_37 169 = (mlt d so (vs + k)) % d.1 from (bv_fr fu_37 rfl rfl).trans (bv_34))]))) (by rw [show vs = n by omega]; exact (psT_s (by omega)).symm)) (DRc.of hD37 (show u_41.1 135 13 = S37.1 135 13 from ((fu_41 135 rfl).1 13).trans (((fu_37 135 rfl).1 13).trans (((fu_30 135 rfl).1 13).trans ((fu_24 135 rfl).1 13)))) (show u_41.1 135 14 = S37.1 135 14 from ((fu_41 135 rfl).1 14).trans (((fu_37 135 rfl).1 14).trans (((fu_30 135 rfl).1 14).trans ((fu_24 135 rfl).1 14)))) (show u_41.1 135 15 = S37.1 135 15 from ((fu_41 135 rfl).1 15).trans (((fu_37 135 rfl).1 15).trans (((fu_30 135 rfl).1 15).trans ((fu_24 135 rfl).1 15)))) (show u_41.1 135 16 = S37.1 135 16 from ((fu_41 135 rfl).1 16).trans (((fu_37 135 rfl).1 16).trans (((fu_30 135 rfl).1 16).trans ((fu_24 135 rfl).1 16)))) (show u_41.2.1 oc = S37.2.1 oc from funext fun x => ((fu_41 oc (pB_no (tau_ne (dic_t hoc) (rfl : tau 160 = .inl 10) (fun h => by cases h)) (ac_ne (dic_c hoc) (rfl : acode 161 = 2) (by decide)))).2.1 x).trans (((fu_37 oc (p1_no (tau_ne (dic_t hoc) (rfl : tau 122 = .inr (.int, 328)) (by decide)))).2.1 x).trans (((fu_30 oc (dic_pD169 hoc)).2.1 x).trans ((fu_24 oc (pB_no (tau_ne (dic_t hoc) (rfl : tau 169 = .inl 0) (fun h => by cases h)) (ac_ne (dic_c hoc) (rfl : acode 170 = 1) (by decide)))).2.1 x)))) (show u_41.2.1 138 = S37.2.1 138 from funext fun x => ((fu_41 138 rfl).2.1 x).trans (((fu_37 138 rfl).2.1 x).trans (((fu_30 138 rfl).2.1 x).trans ((fu_24 138 rfl).2.1 x)))) (show u_41.2.1 139 = S37.2.1 139 from funext fun x => ((fu_41 139 rfl).2.1 x).trans (((fu_37 139 rfl).2.1 x).trans (((fu_30 139 rfl).2.1 x).trans ((fu_24 139 rfl).2.1 x))))) (FCz.of (u := u_41) (show FCz u_37 (fun i => if 1 ≤ i ∧ i < k + 1 then mlt d so (n + i) % d.1 else 0) from fun i i0 i1 => by rw [xu_37 i i0 i1]; unfold upf; show _ = (if 1 ≤ i ∧ i < k + 1 then mlt d so (n + i) % d.1 else 0); by_cases q : i = k; (rw [if_pos q, if_pos (show 1 ≤ i ∧ i < k + 1 by omega), q, (show bv u_30 169 = (mlt d so (vs + k)) % d.1 from bv_34), show vs = n by omega]); (rw [if_neg q]; by_cases z : 1 ≤ i ∧ i < k; (exact (if_pos z).trans (if_pos (show 1 ≤ i ∧ i < k + 1 by omega)).symm); (exact (if_neg z).trans (if_neg (show ¬ (1 ≤ i ∧ i < k + 1) by omega)).symm))) (funext fun x => (fu_41 122 rfl).2.1 x)) hW hL (lv_sub hl [0, 1, 2, 3, 4, 5] rfl)
  exact loop_37 (_ + 1) u_11 1 _ _ _ (Nat.lt_succ_self _) iu_11 F_13 Fr.rf (by omega) (TXc.eq (show TXc _ 160 30000 (tkn (tkn L (strB.getD 5 [])) (nmT (d.1))) from (TXc.of (TXc.eq xu_8 (by rw [(show bv u_4 169 = d.1 from bv_7)])) (show u_11.1 160 1 = u_8.1 160 1 from (fu_11 160 rfl).1 1) (show u_11.1 160 2 = u_8.1 160 2 from (fu_11 160 rfl).1 2) (show u_11.2.1 161 = u_8.2.1 161 from funext fun x => (fu_11 161 rfl).2.1 x))) rfl) (DRc.of hDR (show u_11.1 135 13 = S.1 135 13 from ((fu_11 135 rfl).1 13).trans (((fu_8 135 rfl).1 13).trans (((fu_4 135 rfl).1 13).trans ((fu_1 135 rfl).1 13)))) (show u_11.1 135 14 = S.1 135 14 from ((fu_11 135 rfl).1 14).trans (((fu_8 135 rfl).1 14).trans (((fu_4 135 rfl).1 14).trans ((fu_1 135 rfl).1 14)))) (show u_11.1 135 15 = S.1 135 15 from ((fu_11 135 rfl).1 15).trans (((fu_8 135 rfl).1 15).trans (((fu_4 135 rfl).1 15).trans ((fu_1 135 rfl).1 15)))) (show u_11.1 135 16 = S.1 135 16 from ((fu_11 135 rfl).1 16).trans (((fu_8 135 rfl).1 16).trans (((fu_4 135 rfl).1 16).trans ((fu_1 135 rfl).1 16)))) (show u_11.2.1 oc = S.2.1 oc from funext fun x => ((fu_11 oc (p1_no (tau_ne (dic_t hoc) (rfl : tau 122 = .inr (.int, 328)) (by decide)))).2.1 x).trans (((fu_8 oc (pB_no (tau_ne (dic_t hoc) (rfl : tau 160 = .inl 10) (fun h => by cases h)) (ac_ne (dic_c hoc) (rfl : acode 161 = 2) (by decide)))).2.1 x).trans (((fu_4 oc (pB_no (tau_ne (dic_t hoc) (rfl : tau 169 = .inl 0) (fun h => by cases h)) (ac_ne (dic_c hoc) (rfl : acode 170 = 1) (by decide)))).2.1 x).trans ((fu_1 oc (pB_no (tau_ne (dic_t hoc) (rfl : tau 160 = .inl 10) (fun h => by cases h)) (ac_ne (dic_c hoc) (rfl : acode 161 = 2) (by decide)))).2.1 x)))) (show u_11.2.1 138 = S.2.1 138 from funext fun x => ((fu_11 138 rfl).2.1 x).trans (((fu_8 138 rfl).2.1 x).trans (((fu_4 138 rfl).2.1 x).trans ((fu_1 138 rfl).2.1 x)))) (show u_11.2.1 139 = S.2.1 139 from funext fun x => ((fu_11 139 rfl).2.1 x).trans (((fu_8 139 rfl).2.1 x).trans (((fu_4 139 rfl).2.1 x).trans ((fu_1 139 rfl).2.1 x))))) (by have e := xu_11; exact fun i i0 i1 => by rw [e i i0 i1]; exact (if_neg (by omega)).symm) hW hL (lv_sub hl [0, 1, 2, 3, 4, 5] rfl)
