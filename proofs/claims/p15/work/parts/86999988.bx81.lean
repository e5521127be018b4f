def pRw (k : Nat) : Bool := rgB 193 207 k
def pFk (k : Nat) : Bool := rgB 196 201 k || rgB 215 224 k
def pPT (k : Nat) : Bool := Nat.beq k 189 || rgB 193 207 k || rgB 213 224 k
def pBr (k : Nat) : Bool := rgB 188 189 k || rgB 193 207 k || rgB 219 220 k || rgB 225 227 k
def pHT (k : Nat) : Bool := rgB 188 189 k || rgB 193 207 k || rgB 213 227 k
theorem rgW_193 : ∀ k, 193 + 3 ≤ k → k ≤ 193 + 8 → pRw k = true := fun k h1 h2 => rgB_i (by omega)
theorem rgF_193 : ∀ k, 193 + 3 ≤ k → k ≤ 193 + 8 → pFk k = true := fun k h1 h2 => by unfold pFk; rw [rgB_i (a := 196) (b := 201) (k := k) (by omega), Bool.true_or]
theorem pRw_PT : ∀ k, pRw k = true → pPT k = true := fun k h => by unfold pPT; rw [show rgB 193 207 k = true from h, Bool.or_true, Bool.true_or]
theorem pRw_Br : ∀ k, pRw k = true → pBr k = true := fun k h => by unfold pBr; rw [show rgB 193 207 k = true from h, Bool.or_true, Bool.true_or, Bool.true_or]
theorem pFk_PT : ∀ k, pFk k = true → pPT k = true := fun k h => by
  unfold pFk at h; rw [Bool.or_eq_true] at h; unfold pPT
  rcases h with h | h
  · have := rgB_t h; rw [rgB_i (a := 193) (b := 207) (k := k) (by omega), Bool.or_true, Bool.true_or]
  · have := rgB_t h; rw [rgB_i (a := 213) (b := 224) (k := k) (by omega), Bool.or_true]
theorem pTq_PT : ∀ k, pTq k = true → pPT k = true := fun k h => by
  simp only [pTq, Bool.or_eq_true] at h
  unfold pPT
  rcases h with (h | h) | h
  · rw [h, Bool.true_or, Bool.true_or]
  · have := Nat.eq_of_beq_eq_true h; rw [rgB_i (a := 193) (b := 207) (k := k) (by omega), Bool.or_true, Bool.true_or]
  · have := rgB_t h; rw [rgB_i (a := 213) (b := 224) (k := k) (by omega), Bool.or_true]
theorem pPT_HT : ∀ k, pPT k = true → pHT k = true := fun k h => by
  simp only [pPT, Bool.or_eq_true] at h
  unfold pHT
  rcases h with (h | h) | h
  · have := Nat.eq_of_beq_eq_true h; rw [rgB_i (a := 188) (b := 189) (k := k) (by omega), Bool.true_or, Bool.true_or]
  · rw [h, Bool.or_true, Bool.true_or]
  · have := rgB_t h; rw [rgB_i (a := 213) (b := 227) (k := k) (by omega), Bool.or_true]
theorem pBr_HT : ∀ k, pBr k = true → pHT k = true := fun k h => by
  simp only [pBr, Bool.or_eq_true] at h
  unfold pHT
  rcases h with ((h | h) | h) | h
  · rw [h, Bool.true_or, Bool.true_or]
  · rw [h, Bool.or_true, Bool.true_or]
  · have := rgB_t h; rw [rgB_i (a := 213) (b := 227) (k := k) (by omega), Bool.or_true]
  · have := rgB_t h; rw [rgB_i (a := 213) (b := 227) (k := k) (by omega), Bool.or_true]
theorem pHT_E : ∀ k, pHT k = true → pE k = true := fun k h => by
  have a : ∀ k, k < 231 → pHT k = true → pE k = true := by decide +kernel
  refine a k ?_ h
  simp only [pHT, Bool.or_eq_true] at h
  rcases h with (h | h) | h <;> (have := rgB_t h; omega)
theorem mo_pRw {o : Nat} (m : mdl o) : pRw o = false ∧ pRw (o + 1) = false ∧ pRw (o + 2) = false := by
  have a : ∀ o, o < 231 → tau o = .inl 3 → pRw o = false ∧ pRw (o + 1) = false ∧ pRw (o + 2) = false := by decide +kernel
  exact a o (mdl_k m) m.1
/-! Rows by their values -/
def smf (ff : Int → Int) (R : Int → Int → Int) (j : Int) : Nat → Int
  | 0 => 0
  | c + 1 => smf ff R j c + ff ((c + 1 : Nat) : Int) * R ((c + 1 : Nat) : Int) j
theorem smf_st {ff : Int → Int} {R : Int → Int → Int} {j k : Int} (h : 1 ≤ k) : smf ff R j (k + 1 - 1).toNat = smf ff R j (k - 1).toNat + ff k * R k j := by
  rw [show (k + 1 - 1).toNat = (k - 1).toNat + 1 by omega]
  show smf ff R j (k - 1).toNat + ff (((k - 1).toNat + 1 : Nat) : Int) * R (((k - 1).toNat + 1 : Nat) : Int) j = _
  rw [show (((k - 1).toNat + 1 : Nat) : Int) = k by omega]
def RWv (S : sS) (n c : Int) (R : Int → Int → Int) : Prop := S.1 193 8 = n ∧ S.1 193 9 = c ∧ ∀ k j, 0 ≤ k → k ≤ c → 0 ≤ j → j ≤ n → nv (S.2.1 194) ((k * 13 + j) * 8) = R k j
def FCv (S : sS) (ff : Int → Int) : Prop := ∀ k, 1 ≤ k → k ≤ 40 → nv (S.2.1 195) (k * 8) = ff k
theorem RWv.of {S u : sS} {n c : Int} {R : Int → Int → Int} (h : RWv S n c R) (e8 : u.1 193 8 = S.1 193 8) (e9 : u.1 193 9 = S.1 193 9) (e : u.2.1 194 = S.2.1 194) : RWv u n c R := by
  unfold RWv; rw [e8, e9, e]; exact h
theorem FCv.of {S u : sS} {ff : Int → Int} (h : FCv S ff) (e : u.2.1 195 = S.2.1 195) : FCv u ff := by unfold FCv; rw [e]; exact h
theorem nvz0 {f : Int → Int} {p : Int} (h : f p = 0) : nv f p = 0 := by unfold nv; rw [sg_e.2.2 h, Int.zero_mul]
/-- a slot that stands -/
theorem nv_8 {f g : Int → Int} {p : Int} (h : -7 ≤ f p ∧ f p ≤ 7) (e : ∀ x, p ≤ x → x < p + 8 → g x = f x) : nv g p = nv f p := by
  have e0 := e p (by omega) (by omega)
  have a := al_e (f := f) (p := p)
  have ea : al g p = al f p := by unfold al; rw [e0]
  unfold nv nu
  rw [ea, show sg g p = sg f p by unfold sg; rw [e0]]
  congr 1
  exact V_cg (fun i i0 i1 => e _ (by omega) (by omega))
theorem slot7 {G : sG} {S : sS} {x : Nat} {b : Int} {k : Nat} {a : Int} (h : cX G S x 0 b) (hk : k = 194 ∨ k = 195 ∨ k = 208 ∨ k = 227) (m0 : a % 8 = 0) (m1 : 0 ≤ a) (m2 : a + 7 < slotN k) : -7 ≤ S.2.1 k a ∧ S.2.1 k a ≤ 7 := by
  have e := (h.sl (k := k) m0 m1 m2).1
  rcases hk with q | q | q | q <;> subst q <;> exact e
/-- row c + 1 is written, the others stand -/
theorem RWv.sv {G : sG} {S u : sS} {n c : Int} {R : Int → Int → Int} {x : Nat} {b a j : Int} (h : RWv S n c R) (hI : cX G S x 0 b) (hn : n ≤ 12) (hc : c ≤ 40) (ha : a = ((c + 1) * 13 + j) * 8) (hj : 0 ≤ j) (e8 : u.1 193 8 = S.1 193 8) (e9 : u.1 193 9 = S.1 193 9) (hf : ∀ y, y < a ∨ a + 8 ≤ y → u.2.1 194 y = S.2.1 194 y) : RWv u n c R := by
  refine ⟨e8.trans h.1, e9.trans h.2.1, fun k i k0 k1 i0 i1 => ?_⟩
  rw [nv_8 (slot7 hI (.inl rfl) (by omega) (by omega) (show _ < (4264 : Int) by omega)) (fun y y0 y1 => hf y (by omega))]
  exact h.2.2 k i k0 k1 i0 i1
def upf (f : Int → Int) (k x : Int) : Int → Int := fun i => if i = k then x else f i
def upR (R : Int → Int → Int) (k : Int) (x : Int → Int) : Int → Int → Int := fun i j => if i = k then x j else R i j
/-- what a limit's row holds -/
def limr (z v ab : Int) : Int → Int := fun j => if j = 0 then (if ab = 1 then -(v + 1) else v) else if j = z then (if ab = 1 then -1 else 1) else 0
theorem FCv.put {G : sG} {S u : sS} {ff : Int → Int} {x : Nat} {b k v : Int} (h : FCv S ff) (hI : cX G S x 0 b) (hk : 1 ≤ k ∧ k ≤ 40) (hv : nv (u.2.1 195) (k * 8) = v) (hf : ∀ y, y < k * 8 ∨ k * 8 + 8 ≤ y → u.2.1 195 y = S.2.1 195 y) : FCv u (upf ff k v) := by
  intro i i0 i1
  unfold upf
  by_cases q : i = k
  · rw [if_pos q, q]; exact hv
  · rw [if_neg q, nv_8 (slot7 hI (.inr (.inl rfl)) (by omega) (by omega) (show _ < (328 : Int) by omega)) (fun y y0 y1 => hf y (by omega))]
    exact h i i0 i1
/-- the new row, whole -/
theorem RWv.up {S u : sS} {n c : Int} {R : Int → Int → Int} {f : Int → Int} (h : RWv S n c R) (e8 : u.1 193 8 = n) (e9 : u.1 193 9 = c + 1) (er : u.2.1 194 = S.2.1 194) (hf : ∀ j, 0 ≤ j → j ≤ n → nv (S.2.1 194) (((c + 1) * 13 + j) * 8) = f j) : RWv u n (c + 1) (upR R (c + 1) f) := by
  refine ⟨e8, e9, fun k j k0 k1 j0 j1 => ?_⟩
  unfold upR
  rw [er]
  by_cases q : k = c + 1
  · rw [if_pos q, q]; exact hf j j0 j1
  · rw [if_neg q]; exact h.2.2 k j k0 (by omega) j0 j1
/-- the rows alone -/
def RRv (S : sS) (n c : Int) (R : Int → Int → Int) : Prop := ∀ k j, 0 ≤ k → k ≤ c → 0 ≤ j → j ≤ n → nv (S.2.1 194) ((k * 13 + j) * 8) = R k j
theorem RRv.of {S u : sS} {n c : Int} {R : Int → Int → Int} (h : RRv S n c R) (e : u.2.1 194 = S.2.1 194) : RRv u n c R := by unfold RRv; rw [e]; exact h
theorem RRv.sv {G : sG} {S u : sS} {n c : Int} {R : Int → Int → Int} {x : Nat} {b a j : Int} (h : RRv S n c R) (hI : cX G S x 0 b) (hn : n ≤ 12) (hc : c ≤ 39) (ha : a = ((c + 1) * 13 + j) * 8) (hj : 0 ≤ j) (hf : ∀ y, y < a ∨ a + 8 ≤ y → u.2.1 194 y = S.2.1 194 y) : RRv u n c R := by
  intro k i k0 k1 i0 i1
  rw [nv_8 (slot7 hI (.inl rfl) (by omega) (by omega) (show _ < (4264 : Int) by omega)) (fun y y0 y1 => hf y (by omega))]
  exact h k i k0 k1 i0 i1
theorem nv_sv {G : sG} {S u : sS} {x : Nat} {b a p : Int} (hI : cX G S x 0 b) (hp : p % 8 = 0 ∧ 0 ≤ p ∧ p + 7 < 4264) (hf : ∀ y, y < a ∨ a + 8 ≤ y → u.2.1 194 y = S.2.1 194 y) (ha : p + 8 ≤ a ∨ a + 8 ≤ p) : nv (u.2.1 194) p = nv (S.2.1 194) p :=
  nv_8 (slot7 hI (.inl rfl) hp.1 hp.2.1 (show _ < (4264 : Int) from hp.2.2)) (fun y y0 y1 => hf y (by omega))
theorem lg_B {G : sG} {S : sS} {y : Nat} {b : Int} {o : Nat} (hI : cX G S 0 y b) (ho : tau o = .inl 0) (hb : bs S o) : lgB S o ↔ lg60 (bv S o) := by
  have hs : -1 ≤ S.1 o 2 ∧ S.1 o 2 ≤ 1 := hI.fi o 2 0 (big_lt ho) ho
  have hc : 0 ≤ S.1 o 1 ∧ S.1 o 1 ≤ 32 := hI.fi o 1 0 (big_lt ho) ho
  rw [lg_bv hs hb (VR_0 hI ho)]
  exact lg_top hc (fun j => limbR hI ho j) (nbH hI ho)
set_option maxRecDepth 100000 in
set_option maxHeartbeats 4000000 in
theorem b_X6_number_193 (l : Launch) (G : sG) (S : sS) {v : Nat} {k j : Int} {n cc : Int} {RR : Int → Int → Int} (hI : cX G S 0 0 0) (hv : tau v = .inl 0) (hk : 0 ≤ k ∧ k ≤ 40) (hj : 0 ≤ j ∧ j ≤ 12) (hR : Hd (RWv S n cc RR)) (hkc : k ≤ cc ∧ j ≤ n) : Met l yX6_number (.code yX6_number cX6_number 4 none :: tb) (rmk 3 0 0) (sPc G 294 S [.ref (G.2.2.1 + 193), .int (iv k), .int (iv j), .ref (G.2.2.1 + v)]) (sQv G 294 (fun u => cX G u 0 0 0 ∧ Fr S u (pB v) ∧ (u.1 v 1 ≤ 7 ∧ Hd (bv u v = RR k j) ∧ Hd (bs u v)))) 0 0 (sF G) := by
  refine sEnter (by decide) (Nat.le_of_ble_eq_true rfl) ?_
  intro p e s m args below meth c Cx hr hlk hnm hW ls hl
  have Cx : sC G p m c cX6_number 4 s args RX6 := Cx
  obtain ⟨hx, hb, hml, hown, hts⟩ := id Cx.1
  have hL : sL G [] := sL_nil
  have hl : lv_has ls 4 [(0, .ref (G.2.2.1 + 193)), (1, .int (iv k)), (2, .int (iv j)), (3, .ref (G.2.2.1 + v))] := hl
  have hW0 := hW
  refine lv_aload_n hx hb dX6_number_0 rfl (lv_at hl 3 rfl) ?_
  refine lv_aload_n hx hb dX6_number_1 rfl (lv_at hl 0 rfl) ?_
  refine g_X6_13 Cx hW (k := 193) (by decide) rfl (v := .ref (G.2.2.1 + 194)) (rf_193_0 hI) dX6_number_2 ?_
  refine lv_iload_n hx hb dX6_number_5 rfl (lv_at hl 1 rfl) ?_
  refine lv_iload_n hx hb dX6_number_6 rfl (lv_at hl 2 rfl) ?_
  refine sBi (sSt (As := [.int (iv k), .int (iv j)]) (rest := [.ref (G.2.2.1 + 194), .ref (G.2.2.1 + v)]) Cx (s_X6_at l G S (k := k) (j := j) (by omega) (by omega)) (c_X6_53 Cx rfl rfl (rmk_ok (by omega) (by decide))) hW rfl hl.1 rfl (Nat.le_of_ble_eq_true rfl) dX6_number_7 ⟨Nat.le_of_ble_eq_true rfl, Nat.le_of_ble_eq_true rfl⟩) hL (fun r_3 u_1 H locs k_2 hW hL => ?_)
  obtain ⟨eu_1, xu_1⟩ := k_2
  rw [eu_1] at hW
  refine sBv (sV (As := [.ref (G.2.2.1 + 194), .int (iv r_3)]) (rest := []) (k := v) Cx (b_X0_load l G S (o := v) (k := 194) (a := r_3) (N := 4264) hI hv ⟨by decide, rfl, by decide, rfl, rfl, rfl⟩ (by omega)) (c_X6_75 Cx rfl rfl (rmk_ok (by omega) (by decide))) hW (big_l hv) hv rfl rfl hl.1 rfl (Nat.le_of_ble_eq_true rfl) dX6_number_10 ⟨Nat.le_of_ble_eq_true rfl, Nat.le_of_ble_eq_true rfl⟩) hL (fun u_4 H locs k_5 hW hL => ?_)
  obtain ⟨iu_4, fu_4, xu_4⟩ := k_5
  have F_6 := (Fr.rf : Fr S S (pB v)).trans fu_4
  have yu_4 : u_4.1 v 1 ≤ 7 := xu_4.1
  have bv_7 : bv u_4 v = nv (S.2.1 194) r_3 := xu_4.2.2.2.2.2.2.2.1
  have q_8 : 0 ≤ u_4.1 v 1 ∧ u_4.1 v 1 ≤ 32 := iu_4.fi v 1 0 (big_lt hv) hv
  exact sVret Cx hr hlk hW hL ⟨iu_4, F_6, ⟨(by omega), (show _ = _ by rw [(show bv u_4 v = nv (S.2.1 194) r_3 from bv_7), show r_3 = (k * 13 + j) * 8 by omega]; exact hR.2.2 k j (by omega) (by omega) (by omega) (by omega)), (show Hd (bs u_4 v) from xu_4.2.2.2.2.2.2.2.2)⟩⟩ dX6_number_13

set_option maxRecDepth 100000 in
set_option maxHeartbeats 4000000 in
theorem b_X6_clearFactors_193 (l : Launch) (G : sG) (S : sS)  (hI : cX G S 0 0 0) : Met l yX6_clearFactors (.code yX6_clearFactors cX6_clearFactors 2 none :: tb) (rmk 1 0 0) (sPc G 294 S [.ref (G.2.2.1 + 193)]) (sQv G 294 (fun u => cX G u 0 0 0 ∧ Fr S u (p1 195) ∧ (Hd (FCv u (fun _ => 0))))) 0 0 (sF G) := by
  refine sEnter (by decide) (Nat.le_of_ble_eq_true rfl) ?_
  intro p e s m args below meth c Cx hr hlk hnm hW ls hl
  have Cx : sC G p m c cX6_clearFactors 2 s args RX6 := Cx
  obtain ⟨hx, hb, hml, hown, hts⟩ := id Cx.1
  have hL : sL G [] := sL_nil
  have hl : lv_has ls 2 [(0, .ref (G.2.2.1 + 193))] := hl
  have hW0 := hW
  refine lv_iconst (v := iv 0) hx hb dX6_clearFactors_0 (by decide) ?_
  refine lv_istore_n (lv' := [(1, .int (iv 0)), (0, .ref (G.2.2.1 + 193))]) hx hb dX6_clearFactors_1 rfl hl (by decide) rfl (fun ls hl => ?_)
  have loop_2 : ∀ (fuel : Nat) (S2 : sS) (k : Int) (H : Heap) (locs : List Loc) (ls : Array Slot), (41 - k).toNat < fuel → (cX G S2 0 0 0) → (Fr S S2 (p1 195)) → (Fr S S2 (p1 195)) → (0 ≤ k ∧ k ≤ 41) → (Hd (∀ i, 0 ≤ i → i < k → S2.2.1 195 (i * 8) = 0)) → sW G 294 S2 H → sL G locs → lv_has ls 2 [(1, .int (iv k)), (0, .ref (G.2.2.1 + 193))] → W p l e (rmk 1 0 0) s m args below meth c H locs 0 0 (MQ below (sQv G 294 (fun u => cX G u 0 0 0 ∧ Fr S u (p1 195) ∧ (Hd (FCv u (fun _ => 0))))) args s 0 0 (sF G)) (F0 m 2 ls []) := by
    intro fuel
    induction fuel with
    | zero => intro S2 k H locs ls hmeas hI2 hFm2 hL2_ hk hz9 hW hL hl; exact absurd hmeas (Nat.not_lt_zero _)
    | succ fuel ih_2 =>
      intro S2 k H locs ls hmeas hI2 hFm2 hL2_ hk hz9 hW hL hl
      refine lv_iload_n hx hb dX6_clearFactors_2 rfl (lv_at hl 0 rfl) ?_
      refine lv_bipush (v := iv 40) hx hb dX6_clearFactors_3 (by decide) ?_
      refine r_icmp_gt (tgt := 24) hx hb ⟨(by omega), (by omega)⟩ ⟨(by omega), (by omega)⟩ dX6_clearFactors_5 (by decide) (fun c_1 => ?_) (fun c_1 => ?_)
      · exact sVret Cx hr hlk hW hL ⟨hI2, hFm2, (fun k k0 k1 => nvz0 (hz9 k (by omega) (by omega)))⟩ dX6_clearFactors_24
      · refine lv_aload_n hx hb dX6_clearFactors_8 rfl (lv_at hl 1 rfl) ?_
        refine g_X6_17 Cx hW (k := 193) (by decide) rfl (v := .ref (G.2.2.1 + 195)) (rf_193_1 hI2) dX6_clearFactors_9 ?_
        refine lv_iload_n hx hb dX6_clearFactors_12 rfl (lv_at hl 0 rfl) ?_
        refine lv_bipush (v := iv 8) hx hb dX6_clearFactors_13 (by decide) ?_
        refine r_imul hx hb dX6_clearFactors_15 ?_
        refine lv_iconst (v := iv 0) hx hb dX6_clearFactors_16 (by decide) ?_
        have hz : SlotOK (S2.2.1 195) (k * 8) 7 999999999 := hI2.sl (k := 195) (by omega) (by omega) (show _ < (328 : Int) by omega)
        have j_2 := hI2.exS 195 (k * 8)
        refine rIast Cx hW hL (k := 195) (by decide) rfl (by decide) (by omega) (by omega) dX6_clearFactors_17 (fun H locs hW hL => ?_)
        have F_3 : Fr S (uA S2 195 (k * 8) 0) (p1 195) := hFm2.A rfl
        have F_4 : Fr S (uA S2 195 (k * 8) 0) (p1 195) := hL2_.A rfl
        have i_5 : cX G (uA S2 195 (k * 8) 0) 0 195 (k * 8) := j_2.slot rfl ⟨by omega, by omega, by omega⟩ ⟨(by omega), (by omega)⟩ (fun q _ => by omega)
        have j_6 : cX G (uA S2 195 (k * 8) 0) 0 0 0 := i_5.inS (fun _ => slot0 hz (by decide) uA_on (fun i i0 i1 => uA_ne (by omega)))
        refine lv_iinc (v := iv (k + 1)) (lv' := [(1, .int (iv (k + 1))), (0, .ref (G.2.2.1 + 193))]) hx hb dX6_clearFactors_18 hl (k := 0) rfl ((Int32.ofInt_add _ _).symm) (by decide) rfl (fun ls hl => ?_)
        refine lv_goto (tgt := 2) hx hb dX6_clearFactors_21 (by decide) ?_
        exact ih_2 (uA S2 195 (k * 8) 0) (k + 1) _ _ _ (by omega) j_6 F_3 F_4 (by omega) (fun i a b => by by_cases q : i = k; (rw [q]; exact uA_on); (rw [uA_ne (by omega)]; exact hz9 i a (by omega))) hW hL (lv_sub hl [0, 1] rfl)
  exact loop_2 (_ + 1) S 0 _ _ _ (Nat.lt_succ_self _) hI (Fr.rf : Fr S S (p1 195)) Fr.rf (by omega) (fun i a b => absurd b (by omega)) hW hL (lv_sub hl [0, 1] rfl)

set_option maxRecDepth 100000 in
set_option maxHeartbeats 4000000 in
theorem b_X6_setFactor_193 (l : Launch) (G : sG) (S : sS) {v : Nat} {k : Int} {ff : Int → Int} (hI : cX G S 0 0 0) (hv : tau v = .inl 0) (hk : 1 ≤ k ∧ k ≤ 40) (hc : S.1 v 1 ≤ 7) (hF : Hd (FCv S ff)) (hbv : Hd (bs S v)) : Met l yX6_setFactor (.code yX6_setFactor cX6_setFactor 3 none :: tb) (rmk 3 0 0) (sPc G 294 S [.ref (G.2.2.1 + 193), .int (iv k), .ref (G.2.2.1 + v)]) (sQv G 294 (fun u => cX G u 0 0 0 ∧ Fr S u (p1 195) ∧ (Hd (FCv u (upf ff k (bv S v)))))) 0 0 (sF G) := by
  refine sEnter (by decide) (Nat.le_of_ble_eq_true rfl) ?_
  intro p e s m args below meth c Cx hr hlk hnm hW ls hl
  have Cx : sC G p m c cX6_setFactor 3 s args RX6 := Cx
  obtain ⟨hx, hb, hml, hown, hts⟩ := id Cx.1
  have hL : sL G [] := sL_nil
  have hl : lv_has ls 3 [(0, .ref (G.2.2.1 + 193)), (1, .int (iv k)), (2, .ref (G.2.2.1 + v))] := hl
  have hW0 := hW
  refine lv_aload_n hx hb dX6_setFactor_0 rfl (lv_at hl 2 rfl) ?_
  refine lv_aload_n hx hb dX6_setFactor_1 rfl (lv_at hl 0 rfl) ?_
  refine g_X6_17 Cx hW (k := 193) (by decide) rfl (v := .ref (G.2.2.1 + 195)) (rf_193_1 hI) dX6_setFactor_2 ?_
  refine lv_iload_n hx hb dX6_setFactor_5 rfl (lv_at hl 1 rfl) ?_
  refine lv_bipush (v := iv 8) hx hb dX6_setFactor_6 (by decide) ?_
  refine r_imul hx hb dX6_setFactor_8 ?_
  have q_1 : 0 ≤ S.1 v 1 ∧ S.1 v 1 ≤ 32 := hI.fi v 1 0 (big_lt hv) hv
  have q_2 : (-1) ≤ S.1 v 2 ∧ S.1 v 2 ≤ 1 := hI.fi v 2 0 (big_lt hv) hv
  refine sBv (sV (As := [.ref (G.2.2.1 + 195), .int (iv (k * 8))]) (rest := []) (k := v) Cx (b_X0_save l G S (o := v) (k := 195) (a := k * 8) (N := 328) hI hv ⟨by decide, rfl, by decide, rfl, rfl, rfl⟩ (by omega) (show _ ≤ (7 : Int) ∧ (_ → _ ≤ (999999999 : Int)) from ⟨by omega, fun _ => by have := limbR hI hv 6; omega⟩) (fun q _ => by rcases q with q | q <;> exact absurd q (by decide))) (c_X6_83 Cx rfl rfl (rmk_ok (by omega) (by decide))) hW (big_l hv) hv rfl rfl hl.1 rfl (Nat.le_of_ble_eq_true rfl) dX6_setFactor_9 ⟨Nat.le_of_ble_eq_true rfl, Nat.le_of_ble_eq_true rfl⟩) hL (fun u_3 H locs k_4 hW hL => ?_)
  obtain ⟨iu_3, fu_3, xu_3⟩ := k_4
  have F_5 := (Fr.rf : Fr S S (p1 195)).trans fu_3
  exact sVret Cx hr hlk hW hL ⟨iu_3, F_5, (hF.put hI (by omega) (xu_3.1 hbv) xu_3.2)⟩ dX6_setFactor_12

set_option maxRecDepth 100000 in
set_option maxHeartbeats 4000000 in
theorem b_X6_combine_193_202 (l : Launch) (G : sG) (S : sS) {j : Int} {n cc : Int} {RR : Int → Int → Int} {ff : Int → Int} (hI : cX G S 0 0 0) (hj : 0 ≤ j ∧ j ≤ 12) (hR : Hd (RWv S n cc RR)) (hF : Hd (FCv S ff)) (hjn : j ≤ n) : Met l yX6_combine (.code yX6_combine cX6_combine 4 none :: tb) (rmk 4 0 0) (sPc G 294 S [.ref (G.2.2.1 + 193), .int (iv j), .ref (G.2.2.1 + 202)]) (sQv G 294 (fun u => cX G u 0 0 0 ∧ Fr S u (pK 193 202) ∧ (u.1 202 1 ≤ 15 ∧ Hd (u.1 202 1 = 15 → u.2.1 203 14 ≤ 40) ∧ Hd (bv u 202 = smf ff RR j cc.toNat) ∧ Hd (bs u 202)))) 0 0 (sF G) := by
  refine sEnter (by decide) (Nat.le_of_ble_eq_true rfl) ?_
  intro p e s m args below meth c Cx hr hlk hnm hW ls hl
  have Cx : sC G p m c cX6_combine 4 s args RX6 := Cx
  obtain ⟨hx, hb, hml, hown, hts⟩ := id Cx.1
  have hL : sL G [] := sL_nil
  have hl : lv_has ls 4 [(0, .ref (G.2.2.1 + 193)), (1, .int (iv j)), (2, .ref (G.2.2.1 + 202))] := hl
  have hW0 := hW
  have hn0 : 0 ≤ S.1 193 8 ∧ S.1 193 8 ≤ 12 := hI.fi 193 8 6 (by decide) rfl; have hc0 : 0 ≤ S.1 193 9 ∧ S.1 193 9 ≤ 40 := hI.fi 193 9 6 (by decide) rfl; have hR1 := hR.1; have hR2 := hR.2.1
  refine lv_aload_n hx hb dX6_combine_0 rfl (lv_at hl 2 rfl) ?_
  refine lv_lconst (v := jv 0) hx hb dX6_combine_1 (by decide) ?_
  refine sBv (sV (As := [.long (jv 0)]) (rest := []) (k := 202) Cx (b_X0_put l G S (o := 202) (v := 0) hI rfl (by omega)) (c_X6_86 Cx rfl rfl (rmk_ok (by omega) (by decide))) hW (by decide) rfl rfl rfl hl.1 rfl (Nat.le_of_ble_eq_true rfl) dX6_combine_2 ⟨Nat.le_of_ble_eq_true rfl, Nat.le_of_ble_eq_true rfl⟩) hL (fun u_1 H locs k_2 hW hL => ?_)
  obtain ⟨iu_1, fu_1, xu_1⟩ := k_2
  have F_3 := (Fr.rf : Fr S S (pK 193 202)).trans (fu_1.to (pB_sub rfl rfl))
  have bv_4 : bv u_1 202 = 0 := (xu_1.2.2.2.2.2 (by decide) (by decide)).1
  refine lv_iconst (v := iv 1) hx hb dX6_combine_5 (by decide) ?_
  refine lv_istore_n (lv' := [(3, .int (iv 1)), (0, .ref (G.2.2.1 + 193)), (1, .int (iv j)), (2, .ref (G.2.2.1 + 202))]) hx hb dX6_combine_6 rfl hl (by decide) rfl (fun ls hl => ?_)
  have loop_7 : ∀ (fuel : Nat) (S7 : sS) (k : Int) (H : Heap) (locs : List Loc) (ls : Array Slot), (41 - k).toNat < fuel → (cX G S7 0 0 0) → (Fr S S7 (pK 193 202)) → (Fr u_1 S7 (pK 193 202)) → (1 ≤ k ∧ k ≤ 41) → (S7.1 202 1 ≤ 15) → (Hd (S7.1 202 1 = 15 → S7.2.1 203 14 ≤ k - 1)) → (Hd (bv S7 202 = smf ff RR j (k - 1).toNat)) → (Hd (bs S7 202)) → (k ≤ cc + 1) → sW G 294 S7 H → sL G locs → lv_has ls 4 [(3, .int (iv k)), (0, .ref (G.2.2.1 + 193)), (1, .int (iv j)), (2, .ref (G.2.2.1 + 202))] → W p l e (rmk 4 0 0) s m args below meth c H locs 0 0 (MQ below (sQv G 294 (fun u => cX G u 0 0 0 ∧ Fr S u (pK 193 202) ∧ (u.1 202 1 ≤ 15 ∧ Hd (u.1 202 1 = 15 → u.2.1 203 14 ≤ 40) ∧ Hd (bv u 202 = smf ff RR j cc.toNat) ∧ Hd (bs u 202)))) args s 0 0 (sF G)) (F0 m 7 ls []) := by
    intro fuel
    induction fuel with
    | zero => intro S7 k H locs ls hmeas hI7 hFm7 hL7_ hk hc ht hbv hbs hkc hW hL hl; exact absurd hmeas (Nat.not_lt_zero _)
    | succ fuel ih_7 =>
      intro S7 k H locs ls hmeas hI7 hFm7 hL7_ hk hc ht hbv hbs hkc hW hL hl
      refine lv_iload_n hx hb dX6_combine_7 rfl (lv_at hl 0 rfl) ?_
      refine lv_aload_n hx hb dX6_combine_8 rfl (lv_at hl 1 rfl) ?_
      have q_5 : 0 ≤ S.1 193 9 ∧ S.1 193 9 ≤ 40 := hI.fi 193 9 6 (by decide) rfl
      refine g_X6_50 Cx hW (k := 193) (by decide) rfl (v := S.1 193 9) (((hL7_ 193 rfl).1 9).trans ((fu_1 193 rfl).1 9)) dX6_combine_9 ?_
      refine r_icmp_gt (tgt := 101) hx hb ⟨(by omega), (by omega)⟩ ⟨(by omega), (by omega)⟩ dX6_combine_12 (by decide) (fun c_6 => ?_) (fun c_6 => ?_)
      · have q_7 : 0 ≤ S7.1 202 1 ∧ S7.1 202 1 ≤ 32 := hI7.fi 202 1 0 (by decide) rfl
        exact sVret Cx hr hlk hW hL ⟨hI7, hFm7, ⟨by omega, fun q => by have e := ht q; omega, (show _ = _ by rw [show cc = k - 1 by omega]; exact hbv), hbs⟩⟩ dX6_combine_101
      · refine lv_aload_n hx hb dX6_combine_15 rfl (lv_at hl 1 rfl) ?_
        refine g_X6_17 Cx hW (k := 193) (by decide) rfl (v := .ref (G.2.2.1 + 195)) (rf_193_1 hI7) dX6_combine_16 ?_
        refine lv_iload_n hx hb dX6_combine_19 rfl (lv_at hl 0 rfl) ?_
        refine lv_bipush (v := iv 8) hx hb dX6_combine_20 (by decide) ?_
        refine r_imul hx hb dX6_combine_22 ?_
        refine rIald Cx hW (k := 195) (by decide) rfl (by decide) (by omega) (by omega) dX6_combine_23 ?_
        have q_8 : (-2147483648) ≤ S.2.1 195 (k * 8) ∧ S.2.1 195 (k * 8) ≤ 2147483647 := hI.ai 195 (k * 8) (by decide)
        refine r_i (b := S.2.1 195 (k * 8)) (((hL7_ 195 rfl).2.1 (k * 8)).trans ((fu_1 195 rfl).2.1 (k * 8))) ?_
        refine r_if_eq (tgt := 95) hx hb ⟨(by omega), (by omega)⟩ dX6_combine_24 (by decide) (fun c_9 => ?_) (fun c_9 => ?_)
        · refine lv_iinc (v := iv (k + 1)) (lv' := [(3, .int (iv (k + 1))), (0, .ref (G.2.2.1 + 193)), (1, .int (iv j)), (2, .ref (G.2.2.1 + 202))]) hx hb dX6_combine_95 hl (k := 0) rfl ((Int32.ofInt_add _ _).symm) (by decide) rfl (fun ls hl => ?_)
          refine lv_goto (tgt := 7) hx hb dX6_combine_98 (by decide) ?_
          have q_10 : 0 ≤ S7.1 202 1 ∧ S7.1 202 1 ≤ 32 := hI7.fi 202 1 0 (by decide) rfl
          exact ih_7 S7 (k + 1) _ _ _ (by omega) hI7 hFm7 hL7_ (by omega) (by omega) (fun q => by have e := ht q; omega) (show _ = _ by rw [smf_st (by omega)]; have e : bv S7 202 = _ := hbv; first | (have z : ff k = 0 := (hF k (by omega) (by omega)).symm.trans (nvz0 (by omega)); rw [z, Int.zero_mul, Int.add_zero]; exact e) | (have z : RR k j = 0 := (hR.2.2 k j (by omega) (by omega) (by omega) (by omega)).symm.trans (nvz0 (by rw [← show 0 = (k * 13 + j) * 8 by omega]; omega)); rw [z, Int.mul_zero, Int.add_zero]; exact e)) (show Hd (bs S7 202) from hbs) (by omega) hW hL (lv_sub hl [0, 1, 2, 3] rfl)
        · refine lv_aload_n hx hb dX6_combine_27 rfl (lv_at hl 1 rfl) ?_
          refine g_X6_13 Cx hW (k := 193) (by decide) rfl (v := .ref (G.2.2.1 + 194)) (rf_193_0 hI7) dX6_combine_28 ?_
          refine lv_iload_n hx hb dX6_combine_31 rfl (lv_at hl 0 rfl) ?_
          refine lv_iload_n hx hb dX6_combine_32 rfl (lv_at hl 2 rfl) ?_
          refine sBi (sSt (As := [.int (iv k), .int (iv j)]) (rest := [.ref (G.2.2.1 + 194)]) Cx (s_X6_at l G S7 (k := k) (j := j) (by omega) (by omega)) (c_X6_53 Cx rfl rfl (rmk_ok (by omega) (by decide))) hW rfl hl.1 rfl (Nat.le_of_ble_eq_true rfl) dX6_combine_33 ⟨Nat.le_of_ble_eq_true rfl, Nat.le_of_ble_eq_true rfl⟩) hL (fun r_13 u_11 H locs k_12 hW hL => ?_)
          obtain ⟨eu_11, xu_11⟩ := k_12
          rw [eu_11] at hW
          refine rIald Cx hW (k := 194) (by decide) rfl (by decide) (by omega) (by omega) dX6_combine_36 ?_
          have q_14 : (-2147483648) ≤ S.2.1 194 r_13 ∧ S.2.1 194 r_13 ≤ 2147483647 := hI.ai 194 r_13 (by decide)
          refine r_i (b := S.2.1 194 r_13) (((hL7_ 194 rfl).2.1 r_13).trans ((fu_1 194 rfl).2.1 r_13)) ?_
          refine r_if_eq (tgt := 95) hx hb ⟨(by omega), (by omega)⟩ dX6_combine_37 (by decide) (fun c_15 => ?_) (fun c_15 => ?_)
          · refine lv_iinc (v := iv (k + 1)) (lv' := [(3, .int (iv (k + 1))), (0, .ref (G.2.2.1 + 193)), (1, .int (iv j)), (2, .ref (G.2.2.1 + 202))]) hx hb dX6_combine_95 hl (k := 0) rfl ((Int32.ofInt_add _ _).symm) (by decide) rfl (fun ls hl => ?_)
            refine lv_goto (tgt := 7) hx hb dX6_combine_98 (by decide) ?_
            have q_16 : 0 ≤ S7.1 202 1 ∧ S7.1 202 1 ≤ 32 := hI7.fi 202 1 0 (by decide) rfl
            exact ih_7 S7 (k + 1) _ _ _ (by omega) hI7 hFm7 hL7_ (by omega) (by omega) (fun q => by have e := ht q; omega) (show _ = _ by rw [smf_st (by omega)]; have e : bv S7 202 = _ := hbv; first | (have z : ff k = 0 := (hF k (by omega) (by omega)).symm.trans (nvz0 (by omega)); rw [z, Int.zero_mul, Int.add_zero]; exact e) | (have z : RR k j = 0 := (hR.2.2 k j (by omega) (by omega) (by omega) (by omega)).symm.trans (nvz0 (by rw [← show r_13 = (k * 13 + j) * 8 by omega]; omega)); rw [z, Int.mul_zero, Int.add_zero]; exact e)) (show Hd (bs S7 202) from hbs) (by omega) hW hL (lv_sub hl [0, 1, 2, 3] rfl)
          · refine lv_aload_n hx hb dX6_combine_40 rfl (lv_at hl 1 rfl) ?_
            refine g_X6_21 Cx hW (k := 193) (by decide) rfl (v := .ref (G.2.2.1 + 196)) (rf_193_2 hI7) dX6_combine_41 ?_
            refine lv_aload_n hx hb dX6_combine_44 rfl (lv_at hl 1 rfl) ?_
            refine g_X6_17 Cx hW (k := 193) (by decide) rfl (v := .ref (G.2.2.1 + 195)) (rf_193_1 hI7) dX6_combine_45 ?_
            refine lv_iload_n hx hb dX6_combine_48 rfl (lv_at hl 0 rfl) ?_
            refine lv_bipush (v := iv 8) hx hb dX6_combine_49 (by decide) ?_
            refine r_imul hx hb dX6_combine_51 ?_
            refine sBv (sV (As := [.ref (G.2.2.1 + 195), .int (iv (k * 8))]) (rest := []) (k := 196) Cx (b_X0_load l G S7 (o := 196) (k := 195) (a := k * 8) (N := 328) hI7 rfl ⟨by decide, rfl, by decide, rfl, rfl, rfl⟩ (by omega)) (c_X6_75 Cx rfl rfl (rmk_ok (by omega) (by decide))) hW (by decide) rfl rfl rfl hl.1 rfl (Nat.le_of_ble_eq_true rfl) dX6_combine_52 ⟨Nat.le_of_ble_eq_true rfl, Nat.le_of_ble_eq_true rfl⟩) hL (fun u_17 H locs k_18 hW hL => ?_)
            obtain ⟨iu_17, fu_17, xu_17⟩ := k_18
            have F_19 := hFm7.trans (fu_17.to (pB_sub rfl rfl))
            have F_20 := hL7_.trans (fu_17.to (pB_sub rfl rfl))
            have yu_17 : u_17.1 196 1 ≤ 7 := xu_17.1
            have bv_21 : bv u_17 196 = nv (S7.2.1 195) (k * 8) := xu_17.2.2.2.2.2.2.2.1
            have bv_22 : bv u_17 196 = ff k := ((show bv u_17 196 = nv (S7.2.1 195) (k * 8) from bv_21)).trans ((FCv.of hF (show S7.2.1 195 = S.2.1 195 from funext fun x => ((hL7_ 195 rfl).2.1 x).trans ((fu_1 195 rfl).2.1 x))) k (by omega) (by omega))
            refine lv_aload_n hx hb dX6_combine_55 rfl (lv_at hl 1 rfl) ?_
            refine g_X6_25 Cx hW (k := 193) (by decide) rfl (v := .ref (G.2.2.1 + 198)) (rf_193_3 iu_17) dX6_combine_56 ?_
            refine lv_aload_n hx hb dX6_combine_59 rfl (lv_at hl 1 rfl) ?_
            refine g_X6_13 Cx hW (k := 193) (by decide) rfl (v := .ref (G.2.2.1 + 194)) (rf_193_0 iu_17) dX6_combine_60 ?_
            refine lv_iload_n hx hb dX6_combine_63 rfl (lv_at hl 0 rfl) ?_
            refine lv_iload_n hx hb dX6_combine_64 rfl (lv_at hl 2 rfl) ?_
            refine sBi (sSt (As := [.int (iv k), .int (iv j)]) (rest := [.ref (G.2.2.1 + 194), .ref (G.2.2.1 + 198)]) Cx (s_X6_at l G u_17 (k := k) (j := j) (by omega) (by omega)) (c_X6_53 Cx rfl rfl (rmk_ok (by omega) (by decide))) hW rfl hl.1 rfl (Nat.le_of_ble_eq_true rfl) dX6_combine_65 ⟨Nat.le_of_ble_eq_true rfl, Nat.le_of_ble_eq_true rfl⟩) hL (fun r_25 u_23 H locs k_24 hW hL => ?_)
            obtain ⟨eu_23, xu_23⟩ := k_24
            rw [eu_23] at hW
            refine sBv (sV (As := [.ref (G.2.2.1 + 194), .int (iv r_25)]) (rest := []) (k := 198) Cx (b_X0_load l G u_17 (o := 198) (k := 194) (a := r_25) (N := 4264) iu_17 rfl ⟨by decide, rfl, by decide, rfl, rfl, rfl⟩ (by omega)) (c_X6_75 Cx rfl rfl (rmk_ok (by omega) (by decide))) hW (by decide) rfl rfl rfl hl.1 rfl (Nat.le_of_ble_eq_true rfl) dX6_combine_68 ⟨Nat.le_of_ble_eq_true rfl, Nat.le_of_ble_eq_true rfl⟩) hL (fun u_26 H locs k_27 hW hL => ?_)
            obtain ⟨iu_26, fu_26, xu_26⟩ := k_27
            have F_28 := F_19.trans (fu_26.to (pB_sub rfl rfl))
            have F_29 := F_20.trans (fu_26.to (pB_sub rfl rfl))
            have yu_26 : u_26.1 198 1 ≤ 7 := xu_26.1
            have bv_30 : bv u_26 198 = nv (u_17.2.1 194) r_25 := xu_26.2.2.2.2.2.2.2.1
            have bv_31 : bv u_26 198 = RR k j := ((show bv u_26 198 = nv (u_17.2.1 194) r_25 from bv_30)).trans (by rw [show r_25 = (k * 13 + j) * 8 by omega]; exact (RWv.of hR (show u_17.1 193 8 = S.1 193 8 from ((fu_17 193 rfl).1 8).trans (((hL7_ 193 rfl).1 8).trans ((fu_1 193 rfl).1 8))) (show u_17.1 193 9 = S.1 193 9 from ((fu_17 193 rfl).1 9).trans (((hL7_ 193 rfl).1 9).trans ((fu_1 193 rfl).1 9))) (show u_17.2.1 194 = S.2.1 194 from funext fun x => ((fu_17 194 rfl).2.1 x).trans (((hL7_ 194 rfl).2.1 x).trans ((fu_1 194 rfl).2.1 x)))).2.2 k j (by omega) (by omega) (by omega) (by omega))
            refine lv_aload_n hx hb dX6_combine_71 rfl (lv_at hl 1 rfl) ?_
            refine g_X6_28 Cx hW (k := 193) (by decide) rfl (v := .ref (G.2.2.1 + 200)) (rf_193_4 iu_26) dX6_combine_72 ?_
            refine lv_aload_n hx hb dX6_combine_75 rfl (lv_at hl 1 rfl) ?_
            refine g_X6_21 Cx hW (k := 193) (by decide) rfl (v := .ref (G.2.2.1 + 196)) (rf_193_2 iu_26) dX6_combine_76 ?_
            refine lv_aload_n hx hb dX6_combine_79 rfl (lv_at hl 1 rfl) ?_
            refine g_X6_25 Cx hW (k := 193) (by decide) rfl (v := .ref (G.2.2.1 + 198)) (rf_193_3 iu_26) dX6_combine_80 ?_
            have q_32 : 0 ≤ u_17.1 196 1 ∧ u_17.1 196 1 ≤ 32 := iu_17.fi 196 1 0 (by decide) rfl
            have lk_33 : u_26.1 196 1 = u_17.1 196 1 := (fu_26 196 rfl).1 1
            have q_34 : 0 ≤ u_26.1 198 1 ∧ u_26.1 198 1 ≤ 32 := iu_26.fi 198 1 0 (by decide) rfl
            refine sBv (sV (As := [.ref (G.2.2.1 + 196), .ref (G.2.2.1 + 198)]) (rest := []) (k := 200) Cx (b_X0_product l G u_26 (o := 200) (a := 196) (b := 198) iu_26 rfl rfl rfl (show (200 : Nat) ≠ 196 by decide) (show (200 : Nat) ≠ 198 by decide)) (c_X6_90 Cx rfl rfl (rmk_ok (by omega) (by decide))) hW (by decide) rfl rfl rfl hl.1 rfl (Nat.le_of_ble_eq_true rfl) dX6_combine_83 ⟨Nat.le_of_ble_eq_true rfl, Nat.le_of_ble_eq_true rfl⟩) hL (fun u_35 H locs k_36 hW hL => ?_)
            obtain ⟨iu_35, fu_35, xu_35⟩ := k_36
            have F_37 := F_28.trans (fu_35.to (pB_sub rfl rfl))
            have F_38 := F_29.trans (fu_35.to (pB_sub rfl rfl))
            have bv_39 : bv u_35 200 = (ff k) * (RR k j) := (by have e : bv u_35 200 = _ := xu_35.2.1 (by omega); rw [(show bv u_26 196 = ff k from (bv_fr fu_26 rfl rfl).trans (bv_22)), (show bv u_26 198 = RR k j from bv_31)] at e; exact e)
            refine lv_aload_n hx hb dX6_combine_86 rfl (lv_at hl 3 rfl) ?_
            refine lv_aload_n hx hb dX6_combine_87 rfl (lv_at hl 1 rfl) ?_
            refine g_X6_28 Cx hW (k := 193) (by decide) rfl (v := .ref (G.2.2.1 + 200)) (rf_193_4 iu_35) dX6_combine_88 ?_
            refine lv_iconst (v := iv 1) hx hb dX6_combine_91 (by decide) ?_
            have q_40 : 0 ≤ u_35.1 200 1 ∧ u_35.1 200 1 ≤ 32 := iu_35.fi 200 1 0 (by decide) rfl
            have q_41 : 0 ≤ S7.1 202 1 ∧ S7.1 202 1 ≤ 32 := hI7.fi 202 1 0 (by decide) rfl
            have lk_42 : u_35.1 202 1 = S7.1 202 1 := ((fu_35 202 rfl).1 1).trans (((fu_26 202 rfl).1 1).trans ((fu_17 202 rfl).1 1))
            have q_43 : (-1) ≤ S7.1 202 2 ∧ S7.1 202 2 ≤ 1 := hI7.fi 202 2 0 (by decide) rfl
            have lk_44 : u_35.1 202 2 = S7.1 202 2 := ((fu_35 202 rfl).1 2).trans (((fu_26 202 rfl).1 2).trans ((fu_17 202 rfl).1 2))
            have q_45 : (-1) ≤ u_35.1 200 2 ∧ u_35.1 200 2 ≤ 1 := iu_35.fi 200 2 0 (by decide) rfl
            refine sBv (sV (As := [.ref (G.2.2.1 + 200), .int (iv 1)]) (rest := []) (k := 202) Cx (b_X0_add_p l G u_35 (o := 202) (a := 200) (n := 14) (t := k - 1) iu_35 rfl rfl (show (202 : Nat) ≠ 200 by decide) (by omega) (fun q => by have e : u_35.2.1 203 14 = S7.2.1 203 14 := ((fu_35 203 rfl).2.1 14).trans (((fu_26 203 rfl).2.1 14).trans ((fu_17 203 rfl).2.1 14)); rw [e]; exact ht (by omega)) (show Hd (bs u_35 202) from (bs_fr fu_35 rfl (bs_fr fu_26 rfl (bs_fr fu_17 rfl hbs)))) (show Hd (bs u_35 200) from xu_35.2.2)) (c_X6_93 Cx rfl rfl (rmk_ok (by omega) (by decide))) hW (by decide) rfl rfl rfl hl.1 rfl (Nat.le_of_ble_eq_true rfl) dX6_combine_92 ⟨Nat.le_of_ble_eq_true rfl, Nat.le_of_ble_eq_true rfl⟩) hL (fun u_46 H locs k_47 hW hL => ?_)
            obtain ⟨iu_46, fu_46, xu_46⟩ := k_47
            have F_48 := F_37.trans (fu_46.to (pB_sub rfl rfl))
            have F_49 := F_38.trans (fu_46.to (pB_sub rfl rfl))
            have bv_50 : bv u_46 202 = bv S7 202 + ((ff k) * (RR k j)) := (by have e : bv u_46 202 = _ := xu_46.2.2.2.2.1; rw [(show bv u_35 202 = bv S7 202 from (bv_fr fu_35 rfl rfl).trans ((bv_fr fu_26 rfl rfl).trans (bv_fr fu_17 rfl rfl))), (show bv u_35 200 = (ff k) * (RR k j) from bv_39)] at e; omega)
            refine lv_iinc (v := iv (k + 1)) (lv' := [(3, .int (iv (k + 1))), (0, .ref (G.2.2.1 + 193)), (1, .int (iv j)), (2, .ref (G.2.2.1 + 202))]) hx hb dX6_combine_95 hl (k := 0) rfl ((Int32.ofInt_add _ _).symm) (by decide) rfl (fun ls hl => ?_)
            refine lv_goto (tgt := 7) hx hb dX6_combine_98 (by decide) ?_
            have q_51 : 0 ≤ u_46.1 202 1 ∧ u_46.1 202 1 ≤ 32 := iu_46.fi 202 1 0 (by decide) rfl
            exact ih_7 u_46 (k + 1) _ _ _ (by omega) iu_46 F_48 F_49 (by omega) (by omega) (fun q => by have e : u_46.2.1 203 14 ≤ k - 1 + 1 := xu_46.2.1 q; omega) (show _ = _ by have e : bv S7 202 = _ := hbv; rw [smf_st (by omega), ← e]; exact (show bv u_46 202 = bv S7 202 + ((ff k) * (RR k j)) from bv_50)) (show Hd (bs u_46 202) from xu_46.2.2.2.2.2) (by omega) hW hL (lv_sub hl [0, 1, 2, 3] rfl)
  have q_52 : 0 ≤ u_1.1 202 1 ∧ u_1.1 202 1 ≤ 32 := iu_1.fi 202 1 0 (by decide) rfl
  exact loop_7 (_ + 1) u_1 1 _ _ _ (Nat.lt_succ_self _) iu_1 F_3 Fr.rf (by omega) (by omega) (fun q => absurd q (by omega)) (show _ = _ by rw [(show bv u_1 202 = 0 from bv_4)]; rfl) (show Hd (bs u_1 202) from (xu_1.2.2.2.2.2 (by decide) (by decide)).2) (by omega) hW hL (lv_sub hl [0, 1, 2, 3] rfl)

set_option maxRecDepth 100000 in
set_option maxHeartbeats 4000000 in
theorem b_X6_combine_193_215 (l : Launch) (G : sG) (S : sS) {j : Int} {n cc : Int} {RR : Int → Int → Int} {ff : Int → Int} (hI : cX G S 0 0 0) (hj : 0 ≤ j ∧ j ≤ 12) (hR : Hd (RWv S n cc RR)) (hF : Hd (FCv S ff)) (hjn : j ≤ n) : Met l yX6_combine (.code yX6_combine cX6_combine 4 none :: tb) (rmk 4 0 0) (sPc G 294 S [.ref (G.2.2.1 + 193), .int (iv j), .ref (G.2.2.1 + 215)]) (sQv G 294 (fun u => cX G u 0 0 0 ∧ Fr S u (pK 193 215) ∧ (u.1 215 1 ≤ 15 ∧ Hd (u.1 215 1 = 15 → u.2.1 216 14 ≤ 40) ∧ Hd (bv u 215 = smf ff RR j cc.toNat) ∧ Hd (bs u 215)))) 0 0 (sF G) := by
  refine sEnter (by decide) (Nat.le_of_ble_eq_true rfl) ?_
  intro p e s m args below meth c Cx hr hlk hnm hW ls hl
  have Cx : sC G p m c cX6_combine 4 s args RX6 := Cx
  obtain ⟨hx, hb, hml, hown, hts⟩ := id Cx.1
  have hL : sL G [] := sL_nil
  have hl : lv_has ls 4 [(0, .ref (G.2.2.1 + 193)), (1, .int (iv j)), (2, .ref (G.2.2.1 + 215))] := hl
  have hW0 := hW
  have hn0 : 0 ≤ S.1 193 8 ∧ S.1 193 8 ≤ 12 := hI.fi 193 8 6 (by decide) rfl; have hc0 : 0 ≤ S.1 193 9 ∧ S.1 193 9 ≤ 40 := hI.fi 193 9 6 (by decide) rfl; have hR1 := hR.1; have hR2 := hR.2.1
  refine lv_aload_n hx hb dX6_combine_0 rfl (lv_at hl 2 rfl) ?_
  refine lv_lconst (v := jv 0) hx hb dX6_combine_1 (by decide) ?_
  refine sBv (sV (As := [.long (jv 0)]) (rest := []) (k := 215) Cx (b_X0_put l G S (o := 215) (v := 0) hI rfl (by omega)) (c_X6_86 Cx rfl rfl (rmk_ok (by omega) (by decide))) hW (by decide) rfl rfl rfl hl.1 rfl (Nat.le_of_ble_eq_true rfl) dX6_combine_2 ⟨Nat.le_of_ble_eq_true rfl, Nat.le_of_ble_eq_true rfl⟩) hL (fun u_1 H locs k_2 hW hL => ?_)
  obtain ⟨iu_1, fu_1, xu_1⟩ := k_2
  have F_3 := (Fr.rf : Fr S S (pK 193 215)).trans (fu_1.to (pB_sub rfl rfl))
  have bv_4 : bv u_1 215 = 0 := (xu_1.2.2.2.2.2 (by decide) (by decide)).1
  refine lv_iconst (v := iv 1) hx hb dX6_combine_5 (by decide) ?_
  refine lv_istore_n (lv' := [(3, .int (iv 1)), (0, .ref (G.2.2.1 + 193)), (1, .int (iv j)), (2, .ref (G.2.2.1 + 215))]) hx hb dX6_combine_6 rfl hl (by decide) rfl (fun ls hl => ?_)
  have loop_7 : ∀ (fuel : Nat) (S7 : sS) (k : Int) (H : Heap) (locs : List Loc) (ls : Array Slot), (41 - k).toNat < fuel → (cX G S7 0 0 0) → (Fr S S7 (pK 193 215)) → (Fr u_1 S7 (pK 193 215)) → (1 ≤ k ∧ k ≤ 41) → (S7.1 215 1 ≤ 15) → (Hd (S7.1 215 1 = 15 → S7.2.1 216 14 ≤ k - 1)) → (Hd (bv S7 215 = smf ff RR j (k - 1).toNat)) → (Hd (bs S7 215)) → (k ≤ cc + 1) → sW G 294 S7 H → sL G locs → lv_has ls 4 [(3, .int (iv k)), (0, .ref (G.2.2.1 + 193)), (1, .int (iv j)), (2, .ref (G.2.2.1 + 215))] → W p l e (rmk 4 0 0) s m args below meth c H locs 0 0 (MQ below (sQv G 294 (fun u => cX G u 0 0 0 ∧ Fr S u (pK 193 215) ∧ (u.1 215 1 ≤ 15 ∧ Hd (u.1 215 1 = 15 → u.2.1 216 14 ≤ 40) ∧ Hd (bv u 215 = smf ff RR j cc.toNat) ∧ Hd (bs u 215)))) args s 0 0 (sF G)) (F0 m 7 ls []) := by
    intro fuel
    induction fuel with
    | zero => intro S7 k H locs ls hmeas hI7 hFm7 hL7_ hk hc ht hbv hbs hkc hW hL hl; exact absurd hmeas (Nat.not_lt_zero _)
    | succ fuel ih_7 =>
      intro S7 k H locs ls hmeas hI7 hFm7 hL7_ hk hc ht hbv hbs hkc hW hL hl
      refine lv_iload_n hx hb dX6_combine_7 rfl (lv_at hl 0 rfl) ?_
      refine lv_aload_n hx hb dX6_combine_8 rfl (lv_at hl 1 rfl) ?_
      have q_5 : 0 ≤ S.1 193 9 ∧ S.1 193 9 ≤ 40 := hI.fi 193 9 6 (by decide) rfl
      refine g_X6_50 Cx hW (k := 193) (by decide) rfl (v := S.1 193 9) (((hL7_ 193 rfl).1 9).trans ((fu_1 193 rfl).1 9)) dX6_combine_9 ?_
      refine r_icmp_gt (tgt := 101) hx hb ⟨(by omega), (by omega)⟩ ⟨(by omega), (by omega)⟩ dX6_combine_12 (by decide) (fun c_6 => ?_) (fun c_6 => ?_)
      · have q_7 : 0 ≤ S7.1 215 1 ∧ S7.1 215 1 ≤ 32 := hI7.fi 215 1 0 (by decide) rfl
        exact sVret Cx hr hlk hW hL ⟨hI7, hFm7, ⟨by omega, fun q => by have e := ht q; omega, (show _ = _ by rw [show cc = k - 1 by omega]; exact hbv), hbs⟩⟩ dX6_combine_101
      · refine lv_aload_n hx hb dX6_combine_15 rfl (lv_at hl 1 rfl) ?_
        refine g_X6_17 Cx hW (k := 193) (by decide) rfl (v := .ref (G.2.2.1 + 195)) (rf_193_1 hI7) dX6_combine_16 ?_
        refine lv_iload_n hx hb dX6_combine_19 rfl (lv_at hl 0 rfl) ?_
        refine lv_bipush (v := iv 8) hx hb dX6_combine_20 (by decide) ?_
        refine r_imul hx hb dX6_combine_22 ?_
        refine rIald Cx hW (k := 195) (by decide) rfl (by decide) (by omega) (by omega) dX6_combine_23 ?_
        have q_8 : (-2147483648) ≤ S.2.1 195 (k * 8) ∧ S.2.1 195 (k * 8) ≤ 2147483647 := hI.ai 195 (k * 8) (by decide)
        refine r_i (b := S.2.1 195 (k * 8)) (((hL7_ 195 rfl).2.1 (k * 8)).trans ((fu_1 195 rfl).2.1 (k * 8))) ?_
        refine r_if_eq (tgt := 95) hx hb ⟨(by omega), (by omega)⟩ dX6_combine_24 (by decide) (fun c_9 => ?_) (fun c_9 => ?_)
        · refine lv_iinc (v := iv (k + 1)) (lv' := [(3, .int (iv (k + 1))), (0, .ref (G.2.2.1 + 193)), (1, .int (iv j)), (2, .ref (G.2.2.1 + 215))]) hx hb dX6_combine_95 hl (k := 0) rfl ((Int32.ofInt_add _ _).symm) (by decide) rfl (fun ls hl => ?_)
          refine lv_goto (tgt := 7) hx hb dX6_combine_98 (by decide) ?_
          have q_10 : 0 ≤ S7.1 215 1 ∧ S7.1 215 1 ≤ 32 := hI7.fi 215 1 0 (by decide) rfl
          exact ih_7 S7 (k + 1) _ _ _ (by omega) hI7 hFm7 hL7_ (by omega) (by omega) (fun q => by have e := ht q; omega) (show _ = _ by rw [smf_st (by omega)]; have e : bv S7 215 = _ := hbv; first | (have z : ff k = 0 := (hF k (by omega) (by omega)).symm.trans (nvz0 (by omega)); rw [z, Int.zero_mul, Int.add_zero]; exact e) | (have z : RR k j = 0 := (hR.2.2 k j (by omega) (by omega) (by omega) (by omega)).symm.trans (nvz0 (by rw [← show 0 = (k * 13 + j) * 8 by omega]; omega)); rw [z, Int.mul_zero, Int.add_zero]; exact e)) (show Hd (bs S7 215) from hbs) (by omega) hW hL (lv_sub hl [0, 1, 2, 3] rfl)
        · refine lv_aload_n hx hb dX6_combine_27 rfl (lv_at hl 1 rfl) ?_
          refine g_X6_13 Cx hW (k := 193) (by decide) rfl (v := .ref (G.2.2.1 + 194)) (rf_193_0 hI7) dX6_combine_28 ?_
          refine lv_iload_n hx hb dX6_combine_31 rfl (lv_at hl 0 rfl) ?_
          refine lv_iload_n hx hb dX6_combine_32 rfl (lv_at hl 2 rfl) ?_
          refine sBi (sSt (As := [.int (iv k), .int (iv j)]) (rest := [.ref (G.2.2.1 + 194)]) Cx (s_X6_at l G S7 (k := k) (j := j) (by omega) (by omega)) (c_X6_53 Cx rfl rfl (rmk_ok (by omega) (by decide))) hW rfl hl.1 rfl (Nat.le_of_ble_eq_true rfl) dX6_combine_33 ⟨Nat.le_of_ble_eq_true rfl, Nat.le_of_ble_eq_true rfl⟩) hL (fun r_13 u_11 H locs k_12 hW hL => ?_)
          obtain ⟨eu_11, xu_11⟩ := k_12
          rw [eu_11] at hW
          refine rIald Cx hW (k := 194) (by decide) rfl (by decide) (by omega) (by omega) dX6_combine_36 ?_
          have q_14 : (-2147483648) ≤ S.2.1 194 r_13 ∧ S.2.1 194 r_13 ≤ 2147483647 := hI.ai 194 r_13 (by decide)
          refine r_i (b := S.2.1 194 r_13) (((hL7_ 194 rfl).2.1 r_13).trans ((fu_1 194 rfl).2.1 r_13)) ?_
          refine r_if_eq (tgt := 95) hx hb ⟨(by omega), (by omega)⟩ dX6_combine_37 (by decide) (fun c_15 => ?_) (fun c_15 => ?_)
          · refine lv_iinc (v := iv (k + 1)) (lv' := [(3, .int (iv (k + 1))), (0, .ref (G.2.2.1 + 193)), (1, .int (iv j)), (2, .ref (G.2.2.1 + 215))]) hx hb dX6_combine_95 hl (k := 0) rfl ((Int32.ofInt_add _ _).symm) (by decide) rfl (fun ls hl => ?_)
            refine lv_goto (tgt := 7) hx hb dX6_combine_98 (by decide) ?_
            have q_16 : 0 ≤ S7.1 215 1 ∧ S7.1 215 1 ≤ 32 := hI7.fi 215 1 0 (by decide) rfl
            exact ih_7 S7 (k + 1) _ _ _ (by omega) hI7 hFm7 hL7_ (by omega) (by omega) (fun q => by have e := ht q; omega) (show _ = _ by rw [smf_st (by omega)]; have e : bv S7 215 = _ := hbv; first | (have z : ff k = 0 := (hF k (by omega) (by omega)).symm.trans (nvz0 (by omega)); rw [z, Int.zero_mul, Int.add_zero]; exact e) | (have z : RR k j = 0 := (hR.2.2 k j (by omega) (by omega) (by omega) (by omega)).symm.trans (nvz0 (by rw [← show r_13 = (k * 13 + j) * 8 by omega]; omega)); rw [z, Int.mul_zero, Int.add_zero]; exact e)) (show Hd (bs S7 215) from hbs) (by omega) hW hL (lv_sub hl [0, 1, 2, 3] rfl)
          · refine lv_aload_n hx hb dX6_combine_40 rfl (lv_at hl 1 rfl) ?_
            refine g_X6_21 Cx hW (k := 193) (by decide) rfl (v := .ref (G.2.2.1 + 196)) (rf_193_2 hI7) dX6_combine_41 ?_
            refine lv_aload_n hx hb dX6_combine_44 rfl (lv_at hl 1 rfl) ?_
            refine g_X6_17 Cx hW (k := 193) (by decide) rfl (v := .ref (G.2.2.1 + 195)) (rf_193_1 hI7) dX6_combine_45 ?_
            refine lv_iload_n hx hb dX6_combine_48 rfl (lv_at hl 0 rfl) ?_
            refine lv_bipush (v := iv 8) hx hb dX6_combine_49 (by decide) ?_
            refine r_imul hx hb dX6_combine_51 ?_
            refine sBv (sV (As := [.ref (G.2.2.1 + 195), .int (iv (k * 8))]) (rest := []) (k := 196) Cx (b_X0_load l G S7 (o := 196) (k := 195) (a := k * 8) (N := 328) hI7 rfl ⟨by decide, rfl, by decide, rfl, rfl, rfl⟩ (by omega)) (c_X6_75 Cx rfl rfl (rmk_ok (by omega) (by decide))) hW (by decide) rfl rfl rfl hl.1 rfl (Nat.le_of_ble_eq_true rfl) dX6_combine_52 ⟨Nat.le_of_ble_eq_true rfl, Nat.le_of_ble_eq_true rfl⟩) hL (fun u_17 H locs k_18 hW hL => ?_)
            obtain ⟨iu_17, fu_17, xu_17⟩ := k_18
            have F_19 := hFm7.trans (fu_17.to (pB_sub rfl rfl))
            have F_20 := hL7_.trans (fu_17.to (pB_sub rfl rfl))
            have yu_17 : u_17.1 196 1 ≤ 7 := xu_17.1
            have bv_21 : bv u_17 196 = nv (S7.2.1 195) (k * 8) := xu_17.2.2.2.2.2.2.2.1
            have bv_22 : bv u_17 196 = ff k := ((show bv u_17 196 = nv (S7.2.1 195) (k * 8) from bv_21)).trans ((FCv.of hF (show S7.2.1 195 = S.2.1 195 from funext fun x => ((hL7_ 195 rfl).2.1 x).trans ((fu_1 195 rfl).2.1 x))) k (by omega) (by omega))
            refine lv_aload_n hx hb dX6_combine_55 rfl (lv_at hl 1 rfl) ?_
            refine g_X6_25 Cx hW (k := 193) (by decide) rfl (v := .ref (G.2.2.1 + 198)) (rf_193_3 iu_17) dX6_combine_56 ?_
            refine lv_aload_n hx hb dX6_combine_59 rfl (lv_at hl 1 rfl) ?_
            refine g_X6_13 Cx hW (k := 193) (by decide) rfl (v := .ref (G.2.2.1 + 194)) (rf_193_0 iu_17) dX6_combine_60 ?_
            refine lv_iload_n hx hb dX6_combine_63 rfl (lv_at hl 0 rfl) ?_
            refine lv_iload_n hx hb dX6_combine_64 rfl (lv_at hl 2 rfl) ?_
            refine sBi (sSt (As := [.int (iv k), .int (iv j)]) (rest := [.ref (G.2.2.1 + 194), .ref (G.2.2.1 + 198)]) Cx (s_X6_at l G u_17 (k := k) (j := j) (by omega) (by omega)) (c_X6_53 Cx rfl rfl (rmk_ok (by omega) (by decide))) hW rfl hl.1 rfl (Nat.le_of_ble_eq_true rfl) dX6_combine_65 ⟨Nat.le_of_ble_eq_true rfl, Nat.le_of_ble_eq_true rfl⟩) hL (fun r_25 u_23 H locs k_24 hW hL => ?_)
            obtain ⟨eu_23, xu_23⟩ := k_24
            rw [eu_23] at hW
            refine sBv (sV (As := [.ref (G.2.2.1 + 194), .int (iv r_25)]) (rest := []) (k := 198) Cx (b_X0_load l G u_17 (o := 198) (k := 194) (a := r_25) (N := 4264) iu_17 rfl ⟨by decide, rfl, by decide, rfl, rfl, rfl⟩ (by omega)) (c_X6_75 Cx rfl rfl (rmk_ok (by omega) (by decide))) hW (by decide) rfl rfl rfl hl.1 rfl (Nat.le_of_ble_eq_true rfl) dX6_combine_68 ⟨Nat.le_of_ble_eq_true rfl, Nat.le_of_ble_eq_true rfl⟩) hL (fun u_26 H locs k_27 hW hL => ?_)
            obtain ⟨iu_26, fu_26, xu_26⟩ := k_27
            have F_28 := F_19.trans (fu_26.to (pB_sub rfl rfl))
            have F_29 := F_20.trans (fu_26.to (pB_sub rfl rfl))
            have yu_26 : u_26.1 198 1 ≤ 7 := xu_26.1
            have bv_30 : bv u_26 198 = nv (u_17.2.1 194) r_25 := xu_26.2.2.2.2.2.2.2.1
            have bv_31 : bv u_26 198 = RR k j := ((show bv u_26 198 = nv (u_17.2.1 194) r_25 from bv_30)).trans (by rw [show r_25 = (k * 13 + j) * 8 by omega]; exact (RWv.of hR (show u_17.1 193 8 = S.1 193 8 from ((fu_17 193 rfl).1 8).trans (((hL7_ 193 rfl).1 8).trans ((fu_1 193 rfl).1 8))) (show u_17.1 193 9 = S.1 193 9 from ((fu_17 193 rfl).1 9).trans (((hL7_ 193 rfl).1 9).trans ((fu_1 193 rfl).1 9))) (show u_17.2.1 194 = S.2.1 194 from funext fun x => ((fu_17 194 rfl).2.1 x).trans (((hL7_ 194 rfl).2.1 x).trans ((fu_1 194 rfl).2.1 x)))).2.2 k j (by omega) (by omega) (by omega) (by omega))
            refine lv_aload_n hx hb dX6_combine_71 rfl (lv_at hl 1 rfl) ?_
            refine g_X6_28 Cx hW (k := 193) (by decide) rfl (v := .ref (G.2.2.1 + 200)) (rf_193_4 iu_26) dX6_combine_72 ?_
            refine lv_aload_n hx hb dX6_combine_75 rfl (lv_at hl 1 rfl) ?_
            refine g_X6_21 Cx hW (k := 193) (by decide) rfl (v := .ref (G.2.2.1 + 196)) (rf_193_2 iu_26) dX6_combine_76 ?_
            refine lv_aload_n hx hb dX6_combine_79 rfl (lv_at hl 1 rfl) ?_
            refine g_X6_25 Cx hW (k := 193) (by decide) rfl (v := .ref (G.2.2.1 + 198)) (rf_193_3 iu_26) dX6_combine_80 ?_
            have q_32 : 0 ≤ u_17.1 196 1 ∧ u_17.1 196 1 ≤ 32 := iu_17.fi 196 1 0 (by decide) rfl
            have lk_33 : u_26.1 196 1 = u_17.1 196 1 := (fu_26 196 rfl).1 1
            have q_34 : 0 ≤ u_26.1 198 1 ∧ u_26.1 198 1 ≤ 32 := iu_26.fi 198 1 0 (by decide) rfl
            refine sBv (sV (As := [.ref (G.2.2.1 + 196), .ref (G.2.2.1 + 198)]) (rest := []) (k := 200) Cx (b_X0_product l G u_26 (o := 200) (a := 196) (b := 198) iu_26 rfl rfl rfl (show (200 : Nat) ≠ 196 by decide) (show (200 : Nat) ≠ 198 by decide)) (c_X6_90 Cx rfl rfl (rmk_ok (by omega) (by decide))) hW (by decide) rfl rfl rfl hl.1 rfl (Nat.le_of_ble_eq_true rfl) dX6_combine_83 ⟨Nat.le_of_ble_eq_true rfl, Nat.le_of_ble_eq_true rfl⟩) hL (fun u_35 H locs k_36 hW hL => ?_)
            obtain ⟨iu_35, fu_35, xu_35⟩ := k_36
            have F_37 := F_28.trans (fu_35.to (pB_sub rfl rfl))
            have F_38 := F_29.trans (fu_35.to (pB_sub rfl rfl))
            have bv_39 : bv u_35 200 = (ff k) * (RR k j) := (by have e : bv u_35 200 = _ := xu_35.2.1 (by omega); rw [(show bv u_26 196 = ff k from (bv_fr fu_26 rfl rfl).trans (bv_22)), (show bv u_26 198 = RR k j from bv_31)] at e; exact e)
            refine lv_aload_n hx hb dX6_combine_86 rfl (lv_at hl 3 rfl) ?_
            refine lv_aload_n hx hb dX6_combine_87 rfl (lv_at hl 1 rfl) ?_
            refine g_X6_28 Cx hW (k := 193) (by decide) rfl (v := .ref (G.2.2.1 + 200)) (rf_193_4 iu_35) dX6_combine_88 ?_
            refine lv_iconst (v := iv 1) hx hb dX6_combine_91 (by decide) ?_
            have q_40 : 0 ≤ u_35.1 200 1 ∧ u_35.1 200 1 ≤ 32 := iu_35.fi 200 1 0 (by decide) rfl
            have q_41 : 0 ≤ S7.1 215 1 ∧ S7.1 215 1 ≤ 32 := hI7.fi 215 1 0 (by decide) rfl
            have lk_42 : u_35.1 215 1 = S7.1 215 1 := ((fu_35 215 rfl).1 1).trans (((fu_26 215 rfl).1 1).trans ((fu_17 215 rfl).1 1))
            have q_43 : (-1) ≤ S7.1 215 2 ∧ S7.1 215 2 ≤ 1 := hI7.fi 215 2 0 (by decide) rfl
            have lk_44 : u_35.1 215 2 = S7.1 215 2 := ((fu_35 215 rfl).1 2).trans (((fu_26 215 rfl).1 2).trans ((fu_17 215 rfl).1 2))
            have q_45 : (-1) ≤ u_35.1 200 2 ∧ u_35.1 200 2 ≤ 1 := iu_35.fi 200 2 0 (by decide) rfl
            refine sBv (sV (As := [.ref (G.2.2.1 + 200), .int (iv 1)]) (rest := []) (k := 215) Cx (b_X0_add_p l G u_35 (o := 215) (a := 200) (n := 14) (t := k - 1) iu_35 rfl rfl (show (215 : Nat) ≠ 200 by decide) (by omega) (fun q => by have e : u_35.2.1 216 14 = S7.2.1 216 14 := ((fu_35 216 rfl).2.1 14).trans (((fu_26 216 rfl).2.1 14).trans ((fu_17 216 rfl).2.1 14)); rw [e]; exact ht (by omega)) (show Hd (bs u_35 215) from (bs_fr fu_35 rfl (bs_fr fu_26 rfl (bs_fr fu_17 rfl hbs)))) (show Hd (bs u_35 200) from xu_35.2.2)) (c_X6_93 Cx rfl rfl (rmk_ok (by omega) (by decide))) hW (by decide) rfl rfl rfl hl.1 rfl (Nat.le_of_ble_eq_true rfl) dX6_combine_92 ⟨Nat.le_of_ble_eq_true rfl, Nat.le_of_ble_eq_true rfl⟩) hL (fun u_46 H locs k_47 hW hL => ?_)
            obtain ⟨iu_46, fu_46, xu_46⟩ := k_47
            have F_48 := F_37.trans (fu_46.to (pB_sub rfl rfl))
            have F_49 := F_38.trans (fu_46.to (pB_sub rfl rfl))
            have bv_50 : bv u_46 215 = bv S7 215 + ((ff k) * (RR k j)) := (by have e : bv u_46 215 = _ := xu_46.2.2.2.2.1; rw [(show bv u_35 215 = bv S7 215 from (bv_fr fu_35 rfl rfl).trans ((bv_fr fu_26 rfl rfl).trans (bv_fr fu_17 rfl rfl))), (show bv u_35 200 = (ff k) * (RR k j) from bv_39)] at e; omega)
            refine lv_iinc (v := iv (k + 1)) (lv' := [(3, .int (iv (k + 1))), (0, .ref (G.2.2.1 + 193)), (1, .int (iv j)), (2, .ref (G.2.2.1 + 215))]) hx hb dX6_combine_95 hl (k := 0) rfl ((Int32.ofInt_add _ _).symm) (by decide) rfl (fun ls hl => ?_)
            refine lv_goto (tgt := 7) hx hb dX6_combine_98 (by decide) ?_
            have q_51 : 0 ≤ u_46.1 215 1 ∧ u_46.1 215 1 ≤ 32 := iu_46.fi 215 1 0 (by decide) rfl
            exact ih_7 u_46 (k + 1) _ _ _ (by omega) iu_46 F_48 F_49 (by omega) (by omega) (fun q => by have e : u_46.2.1 216 14 ≤ k - 1 + 1 := xu_46.2.1 q; omega) (show _ = _ by have e : bv S7 215 = _ := hbv; rw [smf_st (by omega), ← e]; exact (show bv u_46 215 = bv S7 215 + ((ff k) * (RR k j)) from bv_50)) (show Hd (bs u_46 215) from xu_46.2.2.2.2.2) (by omega) hW hL (lv_sub hl [0, 1, 2, 3] rfl)
  have q_52 : 0 ≤ u_1.1 215 1 ∧ u_1.1 215 1 ≤ 32 := iu_1.fi 215 1 0 (by decide) rfl
  exact loop_7 (_ + 1) u_1 1 _ _ _ (Nat.lt_succ_self _) iu_1 F_3 Fr.rf (by omega) (by omega) (fun q => absurd q (by omega)) (show _ = _ by rw [(show bv u_1 215 = 0 from bv_4)]; rfl) (show Hd (bs u_1 215) from (xu_1.2.2.2.2.2 (by decide) (by decide)).2) (by omega) hW hL (lv_sub hl [0, 1, 2, 3] rfl)
