/-! The class's dictionary by its values -/
theorem SlotOK.no {f : Int → Int} {a L T : Int} (h : SlotOK f a L T) (hL : L ≤ 7) : NO f a L := by
  obtain ⟨h1, h2, h3, h4, _⟩ := h
  have e : al f a = (if f a < 0 then -f a else f a) := rfl
  refine ⟨?_, fun i a0 a1 => h2 i a0 ?_, fun z => ?_⟩
  · rw [e]; split <;> omega
  · rw [e] at a1; split at a1 <;> omega
  · rw [e] at z ⊢
    by_cases q : f a < 0
    · rw [if_pos q]; have := h4 q; rw [show a + -f a = a - f a by omega]; exact this
    · rw [if_neg q] at z ⊢; exact h3 (by omega)
theorem nv_sml {f : Int → Int} {a : Int} (h : -1 ≤ f a ∧ f a ≤ 1) : f a * f (a + 1) = nv f a := by
  have s := sg_e (f := f) (p := a)
  have e : nv f a = sg f a * V f (a + 1) (al f a).toNat := rfl
  have l : al f a = (if f a < 0 then -f a else f a) := rfl
  rcases (by omega : f a = -1 ∨ f a = 0 ∨ f a = 1) with q | q | q
  · rw [e, s.1 (by omega), l, if_pos (by omega), q]
    show -1 * f (a + 1) = -1 * (0 + f (a + 1 + ((0 : Nat) : Int)) * 1)
    rw [show a + 1 + ((0 : Nat) : Int) = a + 1 by omega]; omega
  · rw [e, s.2.2 q, q]; omega
  · rw [e, s.2.1 (by omega), l, if_neg (by omega), q]
    show 1 * f (a + 1) = 1 * (0 + f (a + 1 + ((0 : Nat) : Int)) * 1)
    rw [show a + 1 + ((0 : Nat) : Int) = a + 1 by omega]; omega
theorem NO.one9 {f : Int → Int} {p L : Int} (h : NO f p L) (b : -999999999 ≤ nv f p ∧ nv f p ≤ 999999999) : -1 ≤ f p ∧ f p ≤ 1 := by
  have c := nv_abs h
  have d := h.nu0
  have m := h.lim (n := 1) (by show nu f p < 1000000000 * 1; rcases (by omega : 0 ≤ nv f p ∨ nv f p ≤ 0) with q | q; (have := c.1 q; omega); (have := c.2 q; omega))
  unfold al at m
  split at m <;> omega
theorem bv_sg {S : sS} {o : Nat} (hs : -1 ≤ S.1 o 2 ∧ S.1 o 2 ≤ 1) (hv : 0 ≤ VR S o) (h : 0 < bv S o) : 0 < S.1 o 2 := by
  unfold bv at h
  rcases (by omega : S.1 o 2 = -1 ∨ S.1 o 2 = 0 ∨ 0 < S.1 o 2) with q | q | q
  · rw [q] at h; omega
  · rw [q] at h; omega
  · exact q
theorem pick_f {P : Int → Prop} {x : Int} {k : Nat} (h0 : 1 ≤ x) (h1 : x ≤ (k : Int)) (p : P x) (hn : ∀ j, 1 ≤ j → j < x → ¬ P j) : pick P (fun _ _ => False) k = x := by
  have key : ∀ m : Nat, x ≤ ((m : Nat) : Int) → pick P (fun _ _ => False) m = x := by
    intro m
    induction m with
    | zero => intro h; omega
    | succ m ih =>
      intro h
      rw [pick_S m]
      by_cases e : x = (m : Int) + 1
      · rw [cif_t ⟨by rw [← e]; exact p, .inl (pick_no (fun j a b => hn j a (by omega)))⟩, e]
      · rw [ih (by omega), cif_f (fun q => by rcases q.2 with z | z; omega; exact z)]
  exact key k h1
/-- the dictionary's memory -/
def DRc (S : sS) (oc : Nat) (n hw : Int) (d : dT) : Prop := nv (S.2.1 oc) 0 = d.1 ∧ (∀ i j, -1 ≤ i → i ≤ d.2.2.2.2.1 → (i = -1 → hw = 1) → 0 ≤ j → j ≤ d.2.2.2.2.2 → nv (S.2.1 oc) ((i + 2) * 112 + j * 8) = d.2.1 i j) ∧ (∀ i, 1 ≤ i → i ≤ d.2.2.2.2.1 → S.2.1 138 i = d.2.2.1 i) ∧ (∀ j, 1 ≤ j → j ≤ d.2.2.2.2.2 → S.2.1 139 j = d.2.2.2.1 j) ∧ S.1 135 13 = n ∧ S.1 135 14 = d.2.2.2.2.1 ∧ S.1 135 15 = d.2.2.2.2.2 ∧ S.1 135 16 = hw
theorem DRc.of {S u : sS} {oc : Nat} {n hw : Int} {d : dT} (h : DRc S oc n hw d) (e13 : u.1 135 13 = S.1 135 13) (e14 : u.1 135 14 = S.1 135 14) (e15 : u.1 135 15 = S.1 135 15) (e16 : u.1 135 16 = S.1 135 16) (e1 : u.2.1 oc = S.2.1 oc) (e2 : u.2.1 138 = S.2.1 138) (e3 : u.2.1 139 = S.2.1 139) : DRc u oc n hw d := by unfold DRc; rw [e13, e14, e15, e16, e1, e2, e3]; exact h
theorem DRc.sgn {G : sG} {S : sS} {oc : Nat} {n hw : Int} {d : dT} {x : Nat} {b : Int} (h : DRc S oc n hw d) (hI : cX G S x 0 b) (hc : dc oc) {i j a : Int} (hi : -1 ≤ i ∧ i ≤ d.2.2.2.2.1) (h4 : d.2.2.2.2.1 ≤ 40) (hw1 : i = -1 → hw = 1) (hj : 0 ≤ j ∧ j ≤ d.2.2.2.2.2) (h5 : d.2.2.2.2.2 ≤ 13) (ha : a = (i + 2) * 112 + j * 8) : (d.2.1 i j < 0 ↔ S.2.1 oc a < 0) ∧ (0 < d.2.1 i j ↔ 0 < S.2.1 oc a) ∧ (d.2.1 i j = 0 ↔ S.2.1 oc a = 0) := by
  have t := h.2.1 i j hi.1 hi.2 hw1 hj.1 hj.2
  rw [← ha] at t
  have k := (SlotOK.no (dicS hI hc (a := a) (by omega)) (by decide)).sgn
  rw [t] at k; exact k
/-- the dictionary's registers -/
def pGr (k : Nat) : Bool := rgB 145 152 k
def pFg (k : Nat) : Bool := pGr k || Nat.beq k 135
theorem pGr_F : ∀ k, pGr k = true → pFg k = true := fun k h => by simp [pFg, h]
theorem pGr_Z : ∀ k, pGr k = true → pZ k = true := fun k h => by
  have := rgB_t h
  simp [pZ, rgB_i (a := 145) (b := 156) (k := k) ⟨by omega, by omega⟩]
theorem pFg_X : ∀ k, pFg k = true → pX k = true := fun k h => by
  rw [pFg, Bool.or_eq_true] at h
  rcases h with h | h
  · simp [pX, pZ_N k (pGr_Z k h)]
  · rw [Nat.eq_of_beq_eq_true h]; rfl
def pBk (k : Nat) : Bool := rgB 143 146 k || rgB 153 156 k
def pFl (k : Nat) : Bool := pBk k || rgB 181 182 k
theorem pBk_Fl : ∀ k, pBk k = true → pFl k = true := fun k h => by simp [pFl, h]
theorem pFl_N : ∀ k, pFl k = true → pN k = true := fun k h => by
  simp only [pFl, pBk, Bool.or_eq_true] at h
  rcases h with (h | h) | h
  · have := rgB_t h; simp [pN, rgB_i (a := 141) (b := 156) (k := k) ⟨by omega, by omega⟩]
  · have := rgB_t h; simp [pN, rgB_i (a := 141) (b := 156) (k := k) ⟨by omega, by omega⟩]
  · have := rgB_t h; simp [pN, rgB_i (a := 158) (b := 184) (k := k) ⟨by omega, by omega⟩]
theorem bRk_e {n hw : Int} {wh : Int → Int} {d : dT} (hx : dIx n hw d) {k i : Int} (hi : 1 ≤ i ∧ i ≤ d.2.2.2.2.1) (hk : d.2.2.1 i = k) (hkn : 1 ≤ k ∧ k ≤ n) (hw1 : wh k = 1) (hr : d.2.1 i 0 % d.1 ≠ 0) (hb : ∀ v, 1 ≤ v → v < k → wh v = 1 → ∀ l, 1 ≤ l → l ≤ d.2.2.2.2.1 → d.2.2.1 l = v → d.2.1 l 0 % d.1 = 0) : bRk n wh d = i := by
  refine pick_key (P := bkP n wh d) (key := d.2.2.1) _ hi.1 (by omega) ⟨by rw [hk]; exact hkn, by rw [hk]; exact hw1, hr⟩ (fun l l0 l1 p ne => ?_)
  have l2 : l ≤ d.2.2.2.2.1 := by omega
  rcases (by omega : d.2.2.1 l < k ∨ d.2.2.1 l = k ∨ k < d.2.2.1 l) with q | q | q
  · exact absurd (hb _ p.1.1 q p.2.1 l l0 l2 rfl) p.2.2
  · exact absurd (hx.2.2.1 l i l0 l2 hi.1 hi.2 (by rw [q, hk])) ne
  · rw [hk]; exact q
theorem bRk_z {n : Int} {wh : Int → Int} {d : dT} (hb : ∀ v, 1 ≤ v → v ≤ n → wh v = 1 → ∀ l, 1 ≤ l → l ≤ d.2.2.2.2.1 → d.2.2.1 l = v → d.2.1 l 0 % d.1 = 0) : bRk n wh d = 0 := pick_no (fun l l0 l1 p => p.2.2 (hb _ p.1.1 p.1.2 p.2.1 l l0 (by omega) rfl))
theorem dic_pGr {o : Nat} (m : dc o) : pGr o = false := by rcases m with rfl | rfl <;> rfl
theorem dic_pFg {o : Nat} (m : dc o) : pFg o = false := by rcases m with rfl | rfl <;> rfl
theorem dic_pBk {o : Nat} (m : dc o) : pBk o = false := by rcases m with rfl | rfl <;> rfl
theorem dic_pFl {o : Nat} (m : dc o) : pFl o = false := by rcases m with rfl | rfl <;> rfl
theorem pick_1t {lt : Int → Int → Prop} : (1 : Int) = pick (fun _ => True) lt ((2 : Int) - 1).toNat := by
  rw [show ((2 : Int) - 1).toNat = 0 + 1 from rfl, pick_S, cif_t ⟨trivial, .inl rfl⟩]; rfl
theorem bv_0 {G : sG} {S : sS} {y : Nat} {b : Int} {o : Nat} (hI : cX G S 0 y b) (ho : tau o = .inl 0) (hb : bs S o) : S.1 o 2 = 0 ↔ bv S o = 0 := by
  have hs : -1 ≤ S.1 o 2 ∧ S.1 o 2 ≤ 1 := hI.fi o 2 0 (big_lt ho) ho
  unfold bv
  refine ⟨fun h => by rw [h, Int.zero_mul], fun h => ?_⟩
  by_cases q : S.1 o 2 = 0
  · exact q
  · have p := VR_p hI ho (hb.1 q)
    rcases (by omega : S.1 o 2 = 1 ∨ S.1 o 2 = -1) with z | z <;> rw [z] at h <;> omega
theorem dic_pD147 {o : Nat} (m : dc o) : pD4 147 o = false := by rcases m with rfl | rfl <;> rfl
theorem dic_pD169 {o : Nat} (m : dc o) : pD4 169 o = false := by rcases m with rfl | rfl <;> rfl
theorem cmp_s {r a b : Int} (h : (a < b → r = -1) ∧ (a = b → r = 0) ∧ (b < a → r = 1)) : -1 ≤ r ∧ r ≤ 1 ∧ (r < 0 ↔ a < b) ∧ (r = 0 ↔ a = b) := by
  obtain ⟨h1, h2, h3⟩ := h
  rcases (by omega : a < b ∨ a = b ∨ b < a) with q | q | q
  · have := h1 q; omega
  · have := h2 q; omega
  · have := h3 q; omega
theorem cmp_b {r a b : Int} (k : -1 ≤ r ∧ r ≤ 1) (h : (r < 0 → a < b) ∧ (r = 0 → a = b) ∧ (0 < r → b < a)) : -1 ≤ r ∧ r ≤ 1 ∧ (r < 0 ↔ a < b) ∧ (r = 0 ↔ a = b) := by
  obtain ⟨h1, h2, h3⟩ := h
  rcases (by omega : r < 0 ∨ r = 0 ∨ 0 < r) with q | q | q
  · have := h1 q; omega
  · have := h2 q; omega
  · have := h3 q; omega
set_option maxRecDepth 100000 in
set_option maxHeartbeats 4000000 in
theorem v_X2_sign (l : Launch) (G : sG) (S : sS) {oc od : Nat} {n hw : Int} {d : dT} {i j : Int} (hI : cX G S 0 0 0) (hdq : dcs G S oc od) (hDR : Hd (DRc S oc n hw d)) (hi : -1 ≤ i ∧ i ≤ d.2.2.2.2.1) (hiw : i = -1 → hw = 1) (hj : 0 ≤ j ∧ j ≤ d.2.2.2.2.2) : Met l yX2_sign (.code yX2_sign cX2_sign 3 (some .int) :: tb) (rmk 2 0 0) (sPc G 294 S [.ref (G.2.2.1 + 135), .int (iv i), .int (iv j)]) (sQi G 294 (fun r u => u = S ∧ (-1 ≤ r ∧ r ≤ 1 ∧ (r < 0 ↔ d.2.1 i j < 0) ∧ (0 < r ↔ 0 < d.2.1 i j)))) 0 0 (sF G) := by
  refine sEnter (by decide) (Nat.le_of_ble_eq_true rfl) ?_
  intro p e s m args below meth c Cx hr hlk hnm hW ls hl
  have Cx : sC G p m c cX2_sign 3 s args RX2 := Cx
  obtain ⟨hx, hb, hml, hown, hts⟩ := id Cx.1
  have hL : sL G [] := sL_nil
  have hl : lv_has ls 3 [(0, .ref (G.2.2.1 + 135)), (1, .int (iv i)), (2, .int (iv j))] := hl
  have hW0 := hW
  obtain ⟨hoc, hod, hcd, hec, hed⟩ := id hdq
  have hd13 := hDR.2.2.2.2.1; have hd14 := hDR.2.2.2.2.2.1; have hd15 := hDR.2.2.2.2.2.2.1; have hd16 := hDR.2.2.2.2.2.2.2; have hm40 : 0 ≤ S.1 135 14 ∧ S.1 135 14 ≤ 40 := hI.fi 135 14 2 (by decide) rfl; have hp13 : 0 ≤ S.1 135 15 ∧ S.1 135 15 ≤ 13 := hI.fi 135 15 2 (by decide) rfl
  refine lv_aload_n hx hb dX2_sign_0 rfl (lv_at hl 0 rfl) ?_
  refine g_X2_13 Cx hW (k := 135) (by decide) rfl (v := .ref (G.2.2.1 + oc)) hec dX2_sign_1 ?_
  refine lv_iload_n hx hb dX2_sign_4 rfl (lv_at hl 1 rfl) ?_
  refine lv_iload_n hx hb dX2_sign_5 rfl (lv_at hl 2 rfl) ?_
  refine sBi (sSt (As := [.int (iv i), .int (iv j)]) (rest := [.ref (G.2.2.1 + oc)]) Cx (s_X2_at l G S (i := i) (j := j) (by omega) (by omega)) (c_X2_77 Cx rfl rfl (rmk_ok (by omega) (by decide))) hW rfl hl.1 rfl (Nat.le_of_ble_eq_true rfl) dX2_sign_6 ⟨Nat.le_of_ble_eq_true rfl, Nat.le_of_ble_eq_true rfl⟩) hL (fun r_3 u_1 H locs k_2 hW hL => ?_)
  obtain ⟨eu_1, xu_1⟩ := k_2
  rw [eu_1] at hW
  refine rIald Cx hW (k := oc) (dic_l hoc) (dic_t hoc) (by decide) (by omega) (by omega) dX2_sign_9 ?_
  have q_4 : (-2147483648) ≤ S.2.1 oc r_3 ∧ S.2.1 oc r_3 ≤ 2147483647 := sla_r (dic_a hoc) hI r_3 
  refine r_i (b := S.2.1 oc r_3) rfl ?_
  refine sBi (sSt (As := [.int (iv (S.2.1 oc r_3))]) (rest := []) Cx (t_J6_signum_0f7a4 l G S (a := S.2.1 oc r_3) (by omega)) (c_X2_100 Cx rfl rfl (rmk_ok (by omega) (by decide))) hW rfl hl.1 rfl (Nat.le_of_ble_eq_true rfl) dX2_sign_10 ⟨Nat.le_of_ble_eq_true rfl, Nat.le_of_ble_eq_true rfl⟩) hL (fun r_7 u_5 H locs k_6 hW hL => ?_)
  obtain ⟨eu_5, xu_5⟩ := k_6
  rw [eu_5] at hW
  have yu_5 : ((S.2.1 oc r_3) < 0 → r_7 = -1) ∧ ((S.2.1 oc r_3) = 0 → r_7 = 0) ∧ (0 < (S.2.1 oc r_3) → r_7 = 1) := sgn3 xu_5
  clear xu_5
  exact sIret Cx hr hlk hW hL ⟨rfl, (by have hN := (hDR.sgn hI hoc (i := i) (j := j) (a := r_3) (by omega) (by omega) (by omega) (by omega) (by omega) (by omega)); refine ⟨by omega, by omega, ?_, ?_⟩ <;> omega)⟩ dX2_sign_13

set_option maxRecDepth 100000 in
set_option maxHeartbeats 4000000 in
theorem v_X2_numberAt (l : Launch) (G : sG) (S : sS) {oc od : Nat} {n hw : Int} {d : dT} {i : Int} (hI : cX G S 0 0 0) (hdq : dcs G S oc od) (hDR : Hd (DRc S oc n hw d)) (hi : -2147483648 ≤ i ∧ i ≤ 2147483647) : Met l yX2_numberAt (.code yX2_numberAt cX2_numberAt 2 (some .int) :: tb) (rmk 1 0 0) (sPc G 294 S [.ref (G.2.2.1 + 135), .int (iv i)]) (sQi G 294 (fun r u => u = S ∧ ((-2147483648 ≤ r ∧ r ≤ 2147483647) ∧ (1 ≤ i → i ≤ d.2.2.2.2.1 → r = d.2.2.1 i) ∧ (i ≤ -1 → -d.2.2.2.2.2 ≤ i → r = d.2.2.2.1 (-i))))) 0 0 (sF G) := by
  refine sEnter (by decide) (Nat.le_of_ble_eq_true rfl) ?_
  intro p e s m args below meth c Cx hr hlk hnm hW ls hl
  have Cx : sC G p m c cX2_numberAt 2 s args RX2 := Cx
  obtain ⟨hx, hb, hml, hown, hts⟩ := id Cx.1
  have hL : sL G [] := sL_nil
  have hl : lv_has ls 2 [(0, .ref (G.2.2.1 + 135)), (1, .int (iv i))] := hl
  have hW0 := hW
  obtain ⟨hoc, hod, hcd, hec, hed⟩ := id hdq
  have hd13 := hDR.2.2.2.2.1; have hd14 := hDR.2.2.2.2.2.1; have hd15 := hDR.2.2.2.2.2.2.1; have hd16 := hDR.2.2.2.2.2.2.2; have hm40 : 0 ≤ S.1 135 14 ∧ S.1 135 14 ≤ 40 := hI.fi 135 14 2 (by decide) rfl; have hp13 : 0 ≤ S.1 135 15 ∧ S.1 135 15 ≤ 13 := hI.fi 135 15 2 (by decide) rfl
  refine lv_iload_n hx hb dX2_numberAt_0 rfl (lv_at hl 1 rfl) ?_
  refine lv_iconst (v := iv 1) hx hb dX2_numberAt_1 (by decide) ?_
  refine r_icmp_lt (tgt := 20) hx hb ⟨(by omega), (by omega)⟩ ⟨(by omega), (by omega)⟩ dX2_numberAt_2 (by decide) (fun c_1 => ?_) (fun c_1 => ?_)
  · refine lv_iload_n hx hb dX2_numberAt_20 rfl (lv_at hl 1 rfl) ?_
    refine lv_iconst (v := iv (-1)) hx hb dX2_numberAt_21 (by decide) ?_
    refine r_icmp_gt (tgt := 44) hx hb ⟨(by omega), (by omega)⟩ ⟨(by omega), (by omega)⟩ dX2_numberAt_22 (by decide) (fun c_2 => ?_) (fun c_2 => ?_)
    · refine lv_iconst (v := iv (-1)) hx hb dX2_numberAt_44 (by decide) ?_
      exact sIret Cx hr hlk hW hL ⟨rfl, ⟨by omega, (fun a b => by first | (exact (show (-1) = _ from hDR.2.2.1 i a b)) | (exfalso; omega)), (fun a b => by first | (exact (show (-1) = _ from hDR.2.2.2.1 (-i) (by omega) (by omega))) | (exfalso; omega))⟩⟩ dX2_numberAt_45
    · refine lv_iload_n hx hb dX2_numberAt_25 rfl (lv_at hl 1 rfl) ?_
      refine lv_aload_n hx hb dX2_numberAt_26 rfl (lv_at hl 0 rfl) ?_
      have q_3 : 0 ≤ S.1 135 15 ∧ S.1 135 15 ≤ 13 := hI.fi 135 15 2 (by decide) rfl
      refine g_X2_67 Cx hW (k := 135) (by decide) rfl (v := S.1 135 15) rfl dX2_numberAt_27 ?_
      refine r_ineg hx hb dX2_numberAt_30 ?_
      refine r_icmp_lt (tgt := 44) hx hb ⟨(by omega), (by omega)⟩ ⟨(by omega), (by omega)⟩ dX2_numberAt_31 (by decide) (fun c_4 => ?_) (fun c_4 => ?_)
      · refine lv_iconst (v := iv (-1)) hx hb dX2_numberAt_44 (by decide) ?_
        exact sIret Cx hr hlk hW hL ⟨rfl, ⟨by omega, (fun a b => by first | (exact (show (-1) = _ from hDR.2.2.1 i a b)) | (exfalso; omega)), (fun a b => by first | (exact (show (-1) = _ from hDR.2.2.2.1 (-i) (by omega) (by omega))) | (exfalso; omega))⟩⟩ dX2_numberAt_45
      · refine lv_aload_n hx hb dX2_numberAt_34 rfl (lv_at hl 0 rfl) ?_
        refine g_X2_23 Cx hW (k := 135) (by decide) rfl (v := .ref (G.2.2.1 + 139)) (rf_135_3 hI) dX2_numberAt_35 ?_
        refine lv_iload_n hx hb dX2_numberAt_38 rfl (lv_at hl 1 rfl) ?_
        refine r_ineg hx hb dX2_numberAt_39 ?_
        refine rIald Cx hW (k := 139) (by decide) rfl (by decide) (by omega) (by omega) dX2_numberAt_40 ?_
        have q_5 : (-2147483648) ≤ S.2.1 139 (-i) ∧ S.2.1 139 (-i) ≤ 2147483647 := hI.ai 139 (-i) (by decide)
        refine r_i (b := S.2.1 139 (-i)) rfl ?_
        refine lv_goto (tgt := 45) hx hb dX2_numberAt_41 (by decide) ?_
        exact sIret Cx hr hlk hW hL ⟨rfl, ⟨by omega, (fun a b => by first | (exact (show S.2.1 139 (-i) = _ from hDR.2.2.1 i a b)) | (exfalso; omega)), (fun a b => by first | (exact (show S.2.1 139 (-i) = _ from hDR.2.2.2.1 (-i) (by omega) (by omega))) | (exfalso; omega))⟩⟩ dX2_numberAt_45
  · refine lv_iload_n hx hb dX2_numberAt_5 rfl (lv_at hl 1 rfl) ?_
    refine lv_aload_n hx hb dX2_numberAt_6 rfl (lv_at hl 0 rfl) ?_
    have q_6 : 0 ≤ S.1 135 14 ∧ S.1 135 14 ≤ 40 := hI.fi 135 14 2 (by decide) rfl
    refine g_X2_66 Cx hW (k := 135) (by decide) rfl (v := S.1 135 14) rfl dX2_numberAt_7 ?_
    refine r_icmp_gt (tgt := 20) hx hb ⟨(by omega), (by omega)⟩ ⟨(by omega), (by omega)⟩ dX2_numberAt_10 (by decide) (fun c_7 => ?_) (fun c_7 => ?_)
    · refine lv_iload_n hx hb dX2_numberAt_20 rfl (lv_at hl 1 rfl) ?_
      refine lv_iconst (v := iv (-1)) hx hb dX2_numberAt_21 (by decide) ?_
      refine r_icmp_gt (tgt := 44) hx hb ⟨(by omega), (by omega)⟩ ⟨(by omega), (by omega)⟩ dX2_numberAt_22 (by decide) (fun c_8 => ?_) (fun c_8 => ?_)
      · refine lv_iconst (v := iv (-1)) hx hb dX2_numberAt_44 (by decide) ?_
        exact sIret Cx hr hlk hW hL ⟨rfl, ⟨by omega, (fun a b => by first | (exact (show (-1) = _ from hDR.2.2.1 i a b)) | (exfalso; omega)), (fun a b => by first | (exact (show (-1) = _ from hDR.2.2.2.1 (-i) (by omega) (by omega))) | (exfalso; omega))⟩⟩ dX2_numberAt_45
      · refine lv_iload_n hx hb dX2_numberAt_25 rfl (lv_at hl 1 rfl) ?_
        refine lv_aload_n hx hb dX2_numberAt_26 rfl (lv_at hl 0 rfl) ?_
        have q_9 : 0 ≤ S.1 135 15 ∧ S.1 135 15 ≤ 13 := hI.fi 135 15 2 (by decide) rfl
        refine g_X2_67 Cx hW (k := 135) (by decide) rfl (v := S.1 135 15) rfl dX2_numberAt_27 ?_
        refine r_ineg hx hb dX2_numberAt_30 ?_
        refine r_icmp_lt (tgt := 44) hx hb ⟨(by omega), (by omega)⟩ ⟨(by omega), (by omega)⟩ dX2_numberAt_31 (by decide) (fun c_10 => ?_) (fun c_10 => ?_)
        · refine lv_iconst (v := iv (-1)) hx hb dX2_numberAt_44 (by decide) ?_
          exact sIret Cx hr hlk hW hL ⟨rfl, ⟨by omega, (fun a b => by first | (exact (show (-1) = _ from hDR.2.2.1 i a b)) | (exfalso; omega)), (fun a b => by first | (exact (show (-1) = _ from hDR.2.2.2.1 (-i) (by omega) (by omega))) | (exfalso; omega))⟩⟩ dX2_numberAt_45
        · refine lv_aload_n hx hb dX2_numberAt_34 rfl (lv_at hl 0 rfl) ?_
          refine g_X2_23 Cx hW (k := 135) (by decide) rfl (v := .ref (G.2.2.1 + 139)) (rf_135_3 hI) dX2_numberAt_35 ?_
          refine lv_iload_n hx hb dX2_numberAt_38 rfl (lv_at hl 1 rfl) ?_
          refine r_ineg hx hb dX2_numberAt_39 ?_
          refine rIald Cx hW (k := 139) (by decide) rfl (by decide) (by omega) (by omega) dX2_numberAt_40 ?_
          have q_11 : (-2147483648) ≤ S.2.1 139 (-i) ∧ S.2.1 139 (-i) ≤ 2147483647 := hI.ai 139 (-i) (by decide)
          refine r_i (b := S.2.1 139 (-i)) rfl ?_
          refine lv_goto (tgt := 45) hx hb dX2_numberAt_41 (by decide) ?_
          exact sIret Cx hr hlk hW hL ⟨rfl, ⟨by omega, (fun a b => by first | (exact (show S.2.1 139 (-i) = _ from hDR.2.2.1 i a b)) | (exfalso; omega)), (fun a b => by first | (exact (show S.2.1 139 (-i) = _ from hDR.2.2.2.1 (-i) (by omega) (by omega))) | (exfalso; omega))⟩⟩ dX2_numberAt_45
    · refine lv_aload_n hx hb dX2_numberAt_13 rfl (lv_at hl 0 rfl) ?_
      refine g_X2_20 Cx hW (k := 135) (by decide) rfl (v := .ref (G.2.2.1 + 138)) (rf_135_2 hI) dX2_numberAt_14 ?_
      refine lv_iload_n hx hb dX2_numberAt_17 rfl (lv_at hl 1 rfl) ?_
      refine rIald Cx hW (k := 138) (by decide) rfl (by decide) (by omega) (by omega) dX2_numberAt_18 ?_
      have q_12 : (-2147483648) ≤ S.2.1 138 i ∧ S.2.1 138 i ≤ 2147483647 := hI.ai 138 i (by decide)
      refine r_i (b := S.2.1 138 i) rfl ?_
      exact sIret Cx hr hlk hW hL ⟨rfl, ⟨by omega, (fun a b => by first | (exact (show S.2.1 138 i = _ from hDR.2.2.1 i a b)) | (exfalso; omega)), (fun a b => by first | (exact (show S.2.1 138 i = _ from hDR.2.2.2.1 (-i) (by omega) (by omega))) | (exfalso; omega))⟩⟩ dX2_numberAt_19

set_option maxRecDepth 100000 in
set_option maxHeartbeats 4000000 in
theorem v_X2_rowOf (l : Launch) (G : sG) (S : sS) {oc od : Nat} {n hw : Int} {d : dT} {k : Int} (hI : cX G S 0 0 0) (hdq : dcs G S oc od) (hDR : Hd (DRc S oc n hw d)) (hk : -2147483648 ≤ k ∧ k ≤ 2147483647) : Met l yX2_rowOf (.code yX2_rowOf cX2_rowOf 3 (some .int) :: tb) (rmk 1 0 0) (sPc G 294 S [.ref (G.2.2.1 + 135), .int (iv k)]) (sQi G 294 (fun r u => u = S ∧ (-1 ≤ r ∧ r ≤ d.2.2.2.2.1 ∧ r ≠ 0 ∧ (0 < r → r = rOf d k) ∧ (r < 0 → rOf d k = 0)))) 0 0 (sF G) := by
  refine sEnter (by decide) (Nat.le_of_ble_eq_true rfl) ?_
  intro p e s m args below meth c Cx hr hlk hnm hW ls hl
  have Cx : sC G p m c cX2_rowOf 3 s args RX2 := Cx
  obtain ⟨hx, hb, hml, hown, hts⟩ := id Cx.1
  have hL : sL G [] := sL_nil
  have hl : lv_has ls 3 [(0, .ref (G.2.2.1 + 135)), (1, .int (iv k))] := hl
  have hW0 := hW
  obtain ⟨hoc, hod, hcd, hec, hed⟩ := id hdq
  have hd13 := hDR.2.2.2.2.1; have hd14 := hDR.2.2.2.2.2.1; have hd15 := hDR.2.2.2.2.2.2.1; have hd16 := hDR.2.2.2.2.2.2.2; have hm40 : 0 ≤ S.1 135 14 ∧ S.1 135 14 ≤ 40 := hI.fi 135 14 2 (by decide) rfl; have hp13 : 0 ≤ S.1 135 15 ∧ S.1 135 15 ≤ 13 := hI.fi 135 15 2 (by decide) rfl
  refine lv_iconst (v := iv 1) hx hb dX2_rowOf_0 (by decide) ?_
  refine lv_istore_n (lv' := [(2, .int (iv 1)), (0, .ref (G.2.2.1 + 135)), (1, .int (iv k))]) hx hb dX2_rowOf_1 rfl hl (by decide) rfl (fun ls hl => ?_)
  have loop_2 : ∀ (fuel : Nat) (i : Int) (H : Heap) (locs : List Loc) (ls : Array Slot), (41 - i).toNat < fuel → (1 ≤ i ∧ i ≤ d.2.2.2.2.1 + 1) → (Hd (∀ j, 1 ≤ j → j < i → d.2.2.1 j ≠ k)) → sW G 294 S H → sL G locs → lv_has ls 3 [(2, .int (iv i)), (0, .ref (G.2.2.1 + 135)), (1, .int (iv k))] → W p l e (rmk 1 0 0) s m args below meth c H locs 0 0 (MQ below (sQi G 294 (fun r u => u = S ∧ (-1 ≤ r ∧ r ≤ d.2.2.2.2.1 ∧ r ≠ 0 ∧ (0 < r → r = rOf d k) ∧ (r < 0 → rOf d k = 0)))) args s 0 0 (sF G)) (F0 m 2 ls []) := by
    intro fuel
    induction fuel with
    | zero => intro i H locs ls hmeas hi hno hW hL hl; exact absurd hmeas (Nat.not_lt_zero _)
    | succ fuel ih_2 =>
      intro i H locs ls hmeas hi hno hW hL hl
      refine lv_iload_n hx hb dX2_rowOf_2 rfl (lv_at hl 0 rfl) ?_
      refine lv_aload_n hx hb dX2_rowOf_3 rfl (lv_at hl 1 rfl) ?_
      have q_1 : 0 ≤ S.1 135 14 ∧ S.1 135 14 ≤ 40 := hI.fi 135 14 2 (by decide) rfl
      refine g_X2_66 Cx hW (k := 135) (by decide) rfl (v := S.1 135 14) rfl dX2_rowOf_4 ?_
      refine r_icmp_gt (tgt := 28) hx hb ⟨(by omega), (by omega)⟩ ⟨(by omega), (by omega)⟩ dX2_rowOf_7 (by decide) (fun c_2 => ?_) (fun c_2 => ?_)
      · refine lv_iconst (v := iv (-1)) hx hb dX2_rowOf_28 (by decide) ?_
        exact sIret Cx hr hlk hW hL ⟨rfl, ⟨by omega, by omega, by omega, (fun q => absurd q (by omega)), (fun _ => pick_no (fun j a b => hno j a (by omega)))⟩⟩ dX2_rowOf_29
      · refine lv_aload_n hx hb dX2_rowOf_10 rfl (lv_at hl 1 rfl) ?_
        refine g_X2_20 Cx hW (k := 135) (by decide) rfl (v := .ref (G.2.2.1 + 138)) (rf_135_2 hI) dX2_rowOf_11 ?_
        refine lv_iload_n hx hb dX2_rowOf_14 rfl (lv_at hl 0 rfl) ?_
        refine rIald Cx hW (k := 138) (by decide) rfl (by decide) (by omega) (by omega) dX2_rowOf_15 ?_
        have q_3 : (-2147483648) ≤ S.2.1 138 i ∧ S.2.1 138 i ≤ 2147483647 := hI.ai 138 i (by decide)
        refine r_i (b := S.2.1 138 i) rfl ?_
        refine lv_iload_n hx hb dX2_rowOf_16 rfl (lv_at hl 2 rfl) ?_
        refine r_icmp_ne (tgt := 22) hx hb ⟨(by omega), (by omega)⟩ ⟨(by omega), (by omega)⟩ dX2_rowOf_17 (by decide) (fun c_4 => ?_) (fun c_4 => ?_)
        · refine lv_iinc (v := iv (i + 1)) (lv' := [(2, .int (iv (i + 1))), (0, .ref (G.2.2.1 + 135)), (1, .int (iv k))]) hx hb dX2_rowOf_22 hl (k := 0) rfl ((Int32.ofInt_add _ _).symm) (by decide) rfl (fun ls hl => ?_)
          refine lv_goto (tgt := 2) hx hb dX2_rowOf_25 (by decide) ?_
          exact ih_2 (i + 1) _ _ _ (by omega) (by omega) (fun j a b => by by_cases q : j = i; (rw [q]; have e := hDR.2.2.1 i (by omega) (by omega); omega); exact hno j a (by omega)) hW hL (lv_sub hl [0, 1, 2] rfl)
        · refine lv_iload_n hx hb dX2_rowOf_20 rfl (lv_at hl 0 rfl) ?_
          exact sIret Cx hr hlk hW hL ⟨rfl, ⟨by omega, by omega, by omega, (fun _ => (pick_f (P := fun j => d.2.2.1 j = k) (by omega) (by omega) (show d.2.2.1 i = k by have e := hDR.2.2.1 i (by omega) (by omega); omega) (fun j a b => hno j a b)).symm), (fun q => absurd q (by omega))⟩⟩ dX2_rowOf_21
  exact loop_2 (_ + 1) 1 _ _ _ (Nat.lt_succ_self _) (by omega) (fun j a b => absurd b (by omega)) hW hL (lv_sub hl [0, 1, 2] rfl)

set_option maxRecDepth 100000 in
set_option maxHeartbeats 4000000 in
theorem v_X2_placeOf (l : Launch) (G : sG) (S : sS) {oc od : Nat} {n hw : Int} {d : dT} {k : Int} (hI : cX G S 0 0 0) (hdq : dcs G S oc od) (hDR : Hd (DRc S oc n hw d)) (hk : -2147483648 ≤ k ∧ k ≤ 2147483647) : Met l yX2_placeOf (.code yX2_placeOf cX2_placeOf 3 (some .int) :: tb) (rmk 1 0 0) (sPc G 294 S [.ref (G.2.2.1 + 135), .int (iv k)]) (sQi G 294 (fun r u => u = S ∧ (-1 ≤ r ∧ r ≤ d.2.2.2.2.2 ∧ r ≠ 0 ∧ (0 < r → r = pOf d k) ∧ (r < 0 → pOf d k = 0)))) 0 0 (sF G) := by
  refine sEnter (by decide) (Nat.le_of_ble_eq_true rfl) ?_
  intro p e s m args below meth c Cx hr hlk hnm hW ls hl
  have Cx : sC G p m c cX2_placeOf 3 s args RX2 := Cx
  obtain ⟨hx, hb, hml, hown, hts⟩ := id Cx.1
  have hL : sL G [] := sL_nil
  have hl : lv_has ls 3 [(0, .ref (G.2.2.1 + 135)), (1, .int (iv k))] := hl
  have hW0 := hW
  obtain ⟨hoc, hod, hcd, hec, hed⟩ := id hdq
  have hd13 := hDR.2.2.2.2.1; have hd14 := hDR.2.2.2.2.2.1; have hd15 := hDR.2.2.2.2.2.2.1; have hd16 := hDR.2.2.2.2.2.2.2; have hm40 : 0 ≤ S.1 135 14 ∧ S.1 135 14 ≤ 40 := hI.fi 135 14 2 (by decide) rfl; have hp13 : 0 ≤ S.1 135 15 ∧ S.1 135 15 ≤ 13 := hI.fi 135 15 2 (by decide) rfl
  refine lv_iconst (v := iv 1) hx hb dX2_placeOf_0 (by decide) ?_
  refine lv_istore_n (lv' := [(2, .int (iv 1)), (0, .ref (G.2.2.1 + 135)), (1, .int (iv k))]) hx hb dX2_placeOf_1 rfl hl (by decide) rfl (fun ls hl => ?_)
  have loop_2 : ∀ (fuel : Nat) (i : Int) (H : Heap) (locs : List Loc) (ls : Array Slot), (41 - i).toNat < fuel → (1 ≤ i ∧ i ≤ d.2.2.2.2.2 + 1) → (Hd (∀ j, 1 ≤ j → j < i → d.2.2.2.1 j ≠ k)) → sW G 294 S H → sL G locs → lv_has ls 3 [(2, .int (iv i)), (0, .ref (G.2.2.1 + 135)), (1, .int (iv k))] → W p l e (rmk 1 0 0) s m args below meth c H locs 0 0 (MQ below (sQi G 294 (fun r u => u = S ∧ (-1 ≤ r ∧ r ≤ d.2.2.2.2.2 ∧ r ≠ 0 ∧ (0 < r → r = pOf d k) ∧ (r < 0 → pOf d k = 0)))) args s 0 0 (sF G)) (F0 m 2 ls []) := by
    intro fuel
    induction fuel with
    | zero => intro i H locs ls hmeas hi hno hW hL hl; exact absurd hmeas (Nat.not_lt_zero _)
    | succ fuel ih_2 =>
      intro i H locs ls hmeas hi hno hW hL hl
      refine lv_iload_n hx hb dX2_placeOf_2 rfl (lv_at hl 0 rfl) ?_
      refine lv_aload_n hx hb dX2_placeOf_3 rfl (lv_at hl 1 rfl) ?_
      have q_1 : 0 ≤ S.1 135 15 ∧ S.1 135 15 ≤ 13 := hI.fi 135 15 2 (by decide) rfl
      refine g_X2_67 Cx hW (k := 135) (by decide) rfl (v := S.1 135 15) rfl dX2_placeOf_4 ?_
      refine r_icmp_gt (tgt := 28) hx hb ⟨(by omega), (by omega)⟩ ⟨(by omega), (by omega)⟩ dX2_placeOf_7 (by decide) (fun c_2 => ?_) (fun c_2 => ?_)
      · refine lv_iconst (v := iv (-1)) hx hb dX2_placeOf_28 (by decide) ?_
        exact sIret Cx hr hlk hW hL ⟨rfl, ⟨by omega, by omega, by omega, (fun q => absurd q (by omega)), (fun _ => pick_no (fun j a b => hno j a (by omega)))⟩⟩ dX2_placeOf_29
      · refine lv_aload_n hx hb dX2_placeOf_10 rfl (lv_at hl 1 rfl) ?_
        refine g_X2_23 Cx hW (k := 135) (by decide) rfl (v := .ref (G.2.2.1 + 139)) (rf_135_3 hI) dX2_placeOf_11 ?_
        refine lv_iload_n hx hb dX2_placeOf_14 rfl (lv_at hl 0 rfl) ?_
        refine rIald Cx hW (k := 139) (by decide) rfl (by decide) (by omega) (by omega) dX2_placeOf_15 ?_
        have q_3 : (-2147483648) ≤ S.2.1 139 i ∧ S.2.1 139 i ≤ 2147483647 := hI.ai 139 i (by decide)
        refine r_i (b := S.2.1 139 i) rfl ?_
        refine lv_iload_n hx hb dX2_placeOf_16 rfl (lv_at hl 2 rfl) ?_
        refine r_icmp_ne (tgt := 22) hx hb ⟨(by omega), (by omega)⟩ ⟨(by omega), (by omega)⟩ dX2_placeOf_17 (by decide) (fun c_4 => ?_) (fun c_4 => ?_)
        · refine lv_iinc (v := iv (i + 1)) (lv' := [(2, .int (iv (i + 1))), (0, .ref (G.2.2.1 + 135)), (1, .int (iv k))]) hx hb dX2_placeOf_22 hl (k := 0) rfl ((Int32.ofInt_add _ _).symm) (by decide) rfl (fun ls hl => ?_)
          refine lv_goto (tgt := 2) hx hb dX2_placeOf_25 (by decide) ?_
          exact ih_2 (i + 1) _ _ _ (by omega) (by omega) (fun j a b => by by_cases q : j = i; (rw [q]; have e := hDR.2.2.2.1 i (by omega) (by omega); omega); exact hno j a (by omega)) hW hL (lv_sub hl [0, 1, 2] rfl)
        · refine lv_iload_n hx hb dX2_placeOf_20 rfl (lv_at hl 0 rfl) ?_
          exact sIret Cx hr hlk hW hL ⟨rfl, ⟨by omega, by omega, by omega, (fun _ => (pick_f (P := fun j => d.2.2.2.1 j = k) (by omega) (by omega) (show d.2.2.2.1 i = k by have e := hDR.2.2.2.1 i (by omega) (by omega); omega) (fun j a b => hno j a b)).symm), (fun q => absurd q (by omega))⟩⟩ dX2_placeOf_21
  exact loop_2 (_ + 1) 1 _ _ _ (Nat.lt_succ_self _) (by omega) (fun j a b => absurd b (by omega)) hW hL (lv_sub hl [0, 1, 2] rfl)

set_option maxRecDepth 100000 in
set_option maxHeartbeats 4000000 in
theorem v_X2_helperIsBasic (l : Launch) (G : sG) (S : sS) {oc od : Nat} {n hw : Int} {d : dT} (hI : cX G S 0 0 0) (hdq : dcs G S oc od) (hDR : Hd (DRc S oc n hw d)) : Met l yX2_helperIsBasic (.code yX2_helperIsBasic cX2_helperIsBasic 1 (some .boolean) :: tb) (rmk 2 0 0) (sPc G 294 S [.ref (G.2.2.1 + 135)]) (sQi G 294 (fun r u => u = S ∧ (0 ≤ r ∧ r ≤ 1 ∧ (r = 1 ↔ rOf d 0 ≠ 0)))) 0 0 (sF G) := by
  refine sEnter (by decide) (Nat.le_of_ble_eq_true rfl) ?_
  intro p e s m args below meth c Cx hr hlk hnm hW ls hl
  have Cx : sC G p m c cX2_helperIsBasic 1 s args RX2 := Cx
  obtain ⟨hx, hb, hml, hown, hts⟩ := id Cx.1
  have hL : sL G [] := sL_nil
  have hl : lv_has ls 1 [(0, .ref (G.2.2.1 + 135))] := hl
  have hW0 := hW
  obtain ⟨hoc, hod, hcd, hec, hed⟩ := id hdq
  have hd13 := hDR.2.2.2.2.1; have hd14 := hDR.2.2.2.2.2.1; have hd15 := hDR.2.2.2.2.2.2.1; have hd16 := hDR.2.2.2.2.2.2.2; have hm40 : 0 ≤ S.1 135 14 ∧ S.1 135 14 ≤ 40 := hI.fi 135 14 2 (by decide) rfl; have hp13 : 0 ≤ S.1 135 15 ∧ S.1 135 15 ≤ 13 := hI.fi 135 15 2 (by decide) rfl
  refine lv_aload_n hx hb dX2_helperIsBasic_0 rfl (lv_at hl 0 rfl) ?_
  refine lv_iconst (v := iv 0) hx hb dX2_helperIsBasic_1 (by decide) ?_
  refine sBi (sV (As := [.int (iv 0)]) (rest := []) (k := 135) Cx (v_X2_rowOf l G S (k := 0) (oc := oc) (od := od) (n := n) (hw := hw) (d := d) hI ⟨hoc, hod, (neD hcd), hec, hed⟩ hDR (by omega)) (c_X2_128 Cx rfl rfl (rmk_ok (by omega) (by decide))) hW (by decide) rfl rfl rfl hl.1 rfl (Nat.le_of_ble_eq_true rfl) dX2_helperIsBasic_2 ⟨Nat.le_of_ble_eq_true rfl, Nat.le_of_ble_eq_true rfl⟩) hL (fun r_3 u_1 H locs k_2 hW hL => ?_)
  obtain ⟨eu_1, xu_1⟩ := k_2
  rw [eu_1] at hW
  refine r_if_le (tgt := 12) hx hb ⟨(by omega), (by omega)⟩ dX2_helperIsBasic_5 (by decide) (fun c_4 => ?_) (fun c_4 => ?_)
  · refine lv_iconst (v := iv 0) hx hb dX2_helperIsBasic_12 (by decide) ?_
    exact sZret Cx hr hlk hW hL (by omega) ⟨rfl, (by omega)⟩ dX2_helperIsBasic_13
  · refine lv_iconst (v := iv 1) hx hb dX2_helperIsBasic_8 (by decide) ?_
    refine lv_goto (tgt := 13) hx hb dX2_helperIsBasic_9 (by decide) ?_
    exact sZret Cx hr hlk hW hL (by omega) ⟨rfl, (by omega)⟩ dX2_helperIsBasic_13

set_option maxRecDepth 100000 in
set_option maxHeartbeats 4000000 in
theorem v_X2_number (l : Launch) (G : sG) (S : sS) {oc od : Nat} {n hw : Int} {d : dT} {v : Nat} {i j : Int} (hI : cX G S 0 0 0) (hdq : dcs G S oc od) (hDR : Hd (DRc S oc n hw d)) (hv : tau v = .inl 0) (hi : -1 ≤ i ∧ i ≤ d.2.2.2.2.1) (hiw : i = -1 → hw = 1) (hj : 0 ≤ j ∧ j ≤ d.2.2.2.2.2) : Met l yX2_number (.code yX2_number cX2_number 4 none :: tb) (rmk 3 0 0) (sPc G 294 S [.ref (G.2.2.1 + 135), .int (iv i), .int (iv j), .ref (G.2.2.1 + v)]) (sQv G 294 (fun u => cX G u 0 0 0 ∧ Fr S u (pB v) ∧ (u.1 v 1 ≤ 6 ∧ Hd (bv u v = d.2.1 i j ∧ bs u v)))) 0 0 (sF G) := by
  refine sEnter (by decide) (Nat.le_of_ble_eq_true rfl) ?_
  intro p e s m args below meth c Cx hr hlk hnm hW ls hl
  have Cx : sC G p m c cX2_number 4 s args RX2 := Cx
  obtain ⟨hx, hb, hml, hown, hts⟩ := id Cx.1
  have hL : sL G [] := sL_nil
  have hl : lv_has ls 4 [(0, .ref (G.2.2.1 + 135)), (1, .int (iv i)), (2, .int (iv j)), (3, .ref (G.2.2.1 + v))] := hl
  have hW0 := hW
  obtain ⟨hoc, hod, hcd, hec, hed⟩ := id hdq
  have hd13 := hDR.2.2.2.2.1; have hd14 := hDR.2.2.2.2.2.1; have hd15 := hDR.2.2.2.2.2.2.1; have hd16 := hDR.2.2.2.2.2.2.2; have hm40 : 0 ≤ S.1 135 14 ∧ S.1 135 14 ≤ 40 := hI.fi 135 14 2 (by decide) rfl; have hp13 : 0 ≤ S.1 135 15 ∧ S.1 135 15 ≤ 13 := hI.fi 135 15 2 (by decide) rfl
  refine lv_aload_n hx hb dX2_number_0 rfl (lv_at hl 3 rfl) ?_
  refine lv_aload_n hx hb dX2_number_1 rfl (lv_at hl 0 rfl) ?_
  refine g_X2_13 Cx hW (k := 135) (by decide) rfl (v := .ref (G.2.2.1 + oc)) hec dX2_number_2 ?_
  refine lv_iload_n hx hb dX2_number_5 rfl (lv_at hl 1 rfl) ?_
  refine lv_iload_n hx hb dX2_number_6 rfl (lv_at hl 2 rfl) ?_
  refine sBi (sSt (As := [.int (iv i), .int (iv j)]) (rest := [.ref (G.2.2.1 + oc), .ref (G.2.2.1 + v)]) Cx (s_X2_at l G S (i := i) (j := j) (by omega) (by omega)) (c_X2_77 Cx rfl rfl (rmk_ok (by omega) (by decide))) hW rfl hl.1 rfl (Nat.le_of_ble_eq_true rfl) dX2_number_7 ⟨Nat.le_of_ble_eq_true rfl, Nat.le_of_ble_eq_true rfl⟩) hL (fun r_3 u_1 H locs k_2 hW hL => ?_)
  obtain ⟨eu_1, xu_1⟩ := k_2
  rw [eu_1] at hW
  refine sBv (sV (As := [.ref (G.2.2.1 + oc), .int (iv r_3)]) (rest := []) (k := v) Cx (b_X0_load l G S (o := v) (k := oc) (a := r_3) (N := 4816) hI hv (dic_a hoc) (by omega)) (c_X2_106 Cx rfl rfl (rmk_ok (by omega) (by decide))) hW (big_l hv) hv rfl rfl hl.1 rfl (Nat.le_of_ble_eq_true rfl) dX2_number_10 ⟨Nat.le_of_ble_eq_true rfl, Nat.le_of_ble_eq_true rfl⟩) hL (fun u_4 H locs k_5 hW hL => ?_)
  obtain ⟨iu_4, fu_4, xu_4⟩ := k_5
  have F_6 := (Fr.rf : Fr S S (pB v)).trans fu_4
  have yu_4 : u_4.1 v 1 ≤ 6 := by have e := xu_4.1; rw [dic_L hoc] at e; exact e
  have bv_7 : bv u_4 v = nv (S.2.1 oc) r_3 := xu_4.2.2.2.2.2.2.2.1
  have q_8 : 0 ≤ u_4.1 v 1 ∧ u_4.1 v 1 ≤ 32 := iu_4.fi v 1 0 (big_lt hv) hv
  exact sVret Cx hr hlk hW hL ⟨iu_4, F_6, ⟨by omega, ((show bv u_4 v = nv (S.2.1 oc) r_3 from bv_7)).trans (show nv (S.2.1 oc) r_3 = d.2.1 i j by rw [show r_3 = (i + 2) * 112 + j * 8 by omega]; exact hDR.2.1 i j (by omega) (by omega) (by omega) (by omega) (by omega)), (show Hd (bs u_4 v) from xu_4.2.2.2.2.2.2.2.2)⟩⟩ dX2_number_13

set_option maxRecDepth 100000 in
set_option maxHeartbeats 4000000 in
theorem v_X2_denominator (l : Launch) (G : sG) (S : sS) {oc od : Nat} {n hw : Int} {d : dT} {v : Nat} (hI : cX G S 0 0 0) (hdq : dcs G S oc od) (hDR : Hd (DRc S oc n hw d)) (hv : tau v = .inl 0) : Met l yX2_denominator (.code yX2_denominator cX2_denominator 2 none :: tb) (rmk 3 0 0) (sPc G 294 S [.ref (G.2.2.1 + 135), .ref (G.2.2.1 + v)]) (sQv G 294 (fun u => cX G u 0 0 0 ∧ Fr S u (pB v) ∧ (u.1 v 1 ≤ 6 ∧ 0 ≤ u.1 v 2 ∧ (0 < u.1 v 2 → 1 ≤ u.1 v 1) ∧ Hd (bv u v = d.1 ∧ bs u v) ∧ (0 < d.1 → 0 < u.1 v 2)))) 0 0 (sF G) := by
  refine sEnter (by decide) (Nat.le_of_ble_eq_true rfl) ?_
  intro p e s m args below meth c Cx hr hlk hnm hW ls hl
  have Cx : sC G p m c cX2_denominator 2 s args RX2 := Cx
  obtain ⟨hx, hb, hml, hown, hts⟩ := id Cx.1
  have hL : sL G [] := sL_nil
  have hl : lv_has ls 2 [(0, .ref (G.2.2.1 + 135)), (1, .ref (G.2.2.1 + v))] := hl
  have hW0 := hW
  obtain ⟨hoc, hod, hcd, hec, hed⟩ := id hdq
  have hd13 := hDR.2.2.2.2.1; have hd14 := hDR.2.2.2.2.2.1; have hd15 := hDR.2.2.2.2.2.2.1; have hd16 := hDR.2.2.2.2.2.2.2; have hm40 : 0 ≤ S.1 135 14 ∧ S.1 135 14 ≤ 40 := hI.fi 135 14 2 (by decide) rfl; have hp13 : 0 ≤ S.1 135 15 ∧ S.1 135 15 ≤ 13 := hI.fi 135 15 2 (by decide) rfl
  refine lv_aload_n hx hb dX2_denominator_0 rfl (lv_at hl 1 rfl) ?_
  refine lv_aload_n hx hb dX2_denominator_1 rfl (lv_at hl 0 rfl) ?_
  refine g_X2_13 Cx hW (k := 135) (by decide) rfl (v := .ref (G.2.2.1 + oc)) hec dX2_denominator_2 ?_
  refine lv_bipush (v := iv (-2)) hx hb dX2_denominator_5 (by decide) ?_
  refine lv_iconst (v := iv 0) hx hb dX2_denominator_7 (by decide) ?_
  refine sBi (sSt (As := [.int (iv ((-2))), .int (iv 0)]) (rest := [.ref (G.2.2.1 + oc), .ref (G.2.2.1 + v)]) Cx (s_X2_at l G S (i := (-2)) (j := 0) (by omega) (by omega)) (c_X2_77 Cx rfl rfl (rmk_ok (by omega) (by decide))) hW rfl hl.1 rfl (Nat.le_of_ble_eq_true rfl) dX2_denominator_8 ⟨Nat.le_of_ble_eq_true rfl, Nat.le_of_ble_eq_true rfl⟩) hL (fun r_3 u_1 H locs k_2 hW hL => ?_)
  obtain ⟨eu_1, xu_1⟩ := k_2
  rw [eu_1] at hW
  refine sBv (sV (As := [.ref (G.2.2.1 + oc), .int (iv r_3)]) (rest := []) (k := v) Cx (b_X0_load l G S (o := v) (k := oc) (a := r_3) (N := 4816) hI hv (dic_a hoc) (by omega)) (c_X2_106 Cx rfl rfl (rmk_ok (by omega) (by decide))) hW (big_l hv) hv rfl rfl hl.1 rfl (Nat.le_of_ble_eq_true rfl) dX2_denominator_11 ⟨Nat.le_of_ble_eq_true rfl, Nat.le_of_ble_eq_true rfl⟩) hL (fun u_4 H locs k_5 hW hL => ?_)
  obtain ⟨iu_4, fu_4, xu_4⟩ := k_5
  have F_6 := (Fr.rf : Fr S S (pB v)).trans fu_4
  have yu_4 : u_4.1 v 1 ≤ 6 := by have e := xu_4.1; rw [dic_L hoc] at e; exact e
  have bv_7 : bv u_4 v = nv (S.2.1 oc) r_3 := xu_4.2.2.2.2.2.2.2.1
  have q_8 : 0 ≤ u_4.1 v 1 ∧ u_4.1 v 1 ≤ 32 := iu_4.fi v 1 0 (big_lt hv) hv
  have q_9 : (-1) ≤ u_4.1 v 2 ∧ u_4.1 v 2 ≤ 1 := iu_4.fi v 2 0 (big_lt hv) hv
  exact sVret Cx hr hlk hW hL ⟨iu_4, F_6, (by have e0 : r_3 = 0 := (by omega); have hd00 := dicD hI hoc; have eb : bv u_4 v = d.1 := ((show bv u_4 v = nv (S.2.1 oc) r_3 from bv_7)).trans (by rw [e0]; exact hDR.1); rw [e0] at xu_4; exact ⟨by omega, by omega, by omega, ⟨eb, (show Hd (bs u_4 v) from xu_4.2.2.2.2.2.2.2.2)⟩, fun q => bv_sg (iu_4.fi v 2 0 (big_lt hv) hv) (VR_0 iu_4 hv) (by rw [eb]; exact q)⟩)⟩ dX2_denominator_14

set_option maxRecDepth 100000 in
set_option maxHeartbeats 4000000 in
theorem v_X2_multiplier (l : Launch) (G : sG) (S : sS) {oc od : Nat} {n hw : Int} {d : dT} {v : Nat} {i k : Int} (hI : cX G S 0 0 0) (hdq : dcs G S oc od) (hDR : Hd (DRc S oc n hw d)) (hv : tau v = .inl 0) (hi : -1 ≤ i ∧ i ≤ d.2.2.2.2.1) (hiw : i = -1 → hw = 1) (hk : -2147483648 ≤ k ∧ k ≤ 2147483647) : Met l yX2_multiplier (.code yX2_multiplier cX2_multiplier 5 none :: tb) (rmk 4 0 0) (sPc G 294 S [.ref (G.2.2.1 + 135), .int (iv i), .int (iv k), .ref (G.2.2.1 + v)]) (sQv G 294 (fun u => cX G u 0 0 0 ∧ Fr S u (pB v) ∧ (u.1 v 1 ≤ 6 ∧ Hd (bv u v = mlt d i k ∧ bs u v)))) 0 0 (sF G) := by
  refine sEnter (by decide) (Nat.le_of_ble_eq_true rfl) ?_
  intro p e s m args below meth c Cx hr hlk hnm hW ls hl
  have Cx : sC G p m c cX2_multiplier 5 s args RX2 := Cx
  obtain ⟨hx, hb, hml, hown, hts⟩ := id Cx.1
  have hL : sL G [] := sL_nil
  have hl : lv_has ls 5 [(0, .ref (G.2.2.1 + 135)), (1, .int (iv i)), (2, .int (iv k)), (3, .ref (G.2.2.1 + v))] := hl
  have hW0 := hW
  obtain ⟨hoc, hod, hcd, hec, hed⟩ := id hdq
  have hd13 := hDR.2.2.2.2.1; have hd14 := hDR.2.2.2.2.2.1; have hd15 := hDR.2.2.2.2.2.2.1; have hd16 := hDR.2.2.2.2.2.2.2; have hm40 : 0 ≤ S.1 135 14 ∧ S.1 135 14 ≤ 40 := hI.fi 135 14 2 (by decide) rfl; have hp13 : 0 ≤ S.1 135 15 ∧ S.1 135 15 ≤ 13 := hI.fi 135 15 2 (by decide) rfl
  refine lv_aload_n hx hb dX2_multiplier_0 rfl (lv_at hl 0 rfl) ?_
  refine lv_iload_n hx hb dX2_multiplier_1 rfl (lv_at hl 2 rfl) ?_
  refine sBi (sV (As := [.int (iv k)]) (rest := []) (k := 135) Cx (v_X2_placeOf l G S (k := k) (oc := oc) (od := od) (n := n) (hw := hw) (d := d) hI ⟨hoc, hod, (neD hcd), hec, hed⟩ hDR (by omega)) (c_X2_118 Cx rfl rfl (rmk_ok (by omega) (by decide))) hW (by decide) rfl rfl rfl hl.1 rfl (Nat.le_of_ble_eq_true rfl) dX2_multiplier_2 ⟨Nat.le_of_ble_eq_true rfl, Nat.le_of_ble_eq_true rfl⟩) hL (fun r_3 u_1 H locs k_2 hW hL => ?_)
  obtain ⟨eu_1, xu_1⟩ := k_2
  rw [eu_1] at hW
  refine lv_istore (lv' := [(4, .int (iv r_3)), (0, .ref (G.2.2.1 + 135)), (1, .int (iv i)), (2, .int (iv k)), (3, .ref (G.2.2.1 + v))]) hx hb dX2_multiplier_5 hl (by decide) rfl (fun ls hl => ?_)
  refine lv_iload hx hb dX2_multiplier_7 (lv_at hl 0 rfl) ?_
  refine r_if_le (tgt := 29) hx hb ⟨(by omega), (by omega)⟩ dX2_multiplier_9 (by decide) (fun c_4 => ?_) (fun c_4 => ?_)
  · refine lv_iload_n hx hb dX2_multiplier_29 rfl (lv_at hl 2 rfl) ?_
    refine lv_iconst (v := iv 1) hx hb dX2_multiplier_30 (by decide) ?_
    refine r_icmp_lt (tgt := 52) hx hb ⟨(by omega), (by omega)⟩ ⟨(by omega), (by omega)⟩ dX2_multiplier_31 (by decide) (fun c_5 => ?_) (fun c_5 => ?_)
    · refine lv_aload_n hx hb dX2_multiplier_52 rfl (lv_at hl 4 rfl) ?_
      refine lv_lconst (v := jv 0) hx hb dX2_multiplier_53 (by decide) ?_
      refine sBv (sV (As := [.long (jv 0)]) (rest := []) (k := v) Cx (b_X0_put l G S (o := v) (v := 0) hI hv (by omega)) (c_X2_124 Cx rfl rfl (rmk_ok (by omega) (by decide))) hW (big_l hv) hv rfl rfl hl.1 rfl (Nat.le_of_ble_eq_true rfl) dX2_multiplier_54 ⟨Nat.le_of_ble_eq_true rfl, Nat.le_of_ble_eq_true rfl⟩) hL (fun u_6 H locs k_7 hW hL => ?_)
      obtain ⟨iu_6, fu_6, xu_6⟩ := k_7
      have F_8 := (Fr.rf : Fr S S (pB v)).trans fu_6
      have bv_9 : bv u_6 v = 0 := (xu_6.2.2.2.2.2 (by decide) (by decide)).1
      have q_10 : 0 ≤ u_6.1 v 1 ∧ u_6.1 v 1 ≤ 32 := iu_6.fi v 1 0 (big_lt hv) hv
      exact sVret Cx hr hlk hW hL ⟨iu_6, F_8, ⟨by omega, ((show bv u_6 v = 0 from bv_9)).trans (show (0 : Int) = mlt d i k by unfold mlt; rw [cif_f (by omega), cif_f (fun q => by have e := hDR.2.2.1 i q.1 (by omega); omega)]), (show Hd (bs u_6 v) from (xu_6.2.2.2.2.2 (by decide) (by decide)).2)⟩⟩ dX2_multiplier_57
    · refine lv_aload_n hx hb dX2_multiplier_34 rfl (lv_at hl 1 rfl) ?_
      refine g_X2_20 Cx hW (k := 135) (by decide) rfl (v := .ref (G.2.2.1 + 138)) (rf_135_2 hI) dX2_multiplier_35 ?_
      refine lv_iload_n hx hb dX2_multiplier_38 rfl (lv_at hl 2 rfl) ?_
      refine rIald Cx hW (k := 138) (by decide) rfl (by decide) (by omega) (by omega) dX2_multiplier_39 ?_
      have q_11 : (-2147483648) ≤ S.2.1 138 i ∧ S.2.1 138 i ≤ 2147483647 := hI.ai 138 i (by decide)
      refine r_i (b := S.2.1 138 i) rfl ?_
      refine lv_iload_n hx hb dX2_multiplier_40 rfl (lv_at hl 3 rfl) ?_
      refine r_icmp_ne (tgt := 52) hx hb ⟨(by omega), (by omega)⟩ ⟨(by omega), (by omega)⟩ dX2_multiplier_41 (by decide) (fun c_12 => ?_) (fun c_12 => ?_)
      · refine lv_aload_n hx hb dX2_multiplier_52 rfl (lv_at hl 4 rfl) ?_
        refine lv_lconst (v := jv 0) hx hb dX2_multiplier_53 (by decide) ?_
        refine sBv (sV (As := [.long (jv 0)]) (rest := []) (k := v) Cx (b_X0_put l G S (o := v) (v := 0) hI hv (by omega)) (c_X2_124 Cx rfl rfl (rmk_ok (by omega) (by decide))) hW (big_l hv) hv rfl rfl hl.1 rfl (Nat.le_of_ble_eq_true rfl) dX2_multiplier_54 ⟨Nat.le_of_ble_eq_true rfl, Nat.le_of_ble_eq_true rfl⟩) hL (fun u_13 H locs k_14 hW hL => ?_)
        obtain ⟨iu_13, fu_13, xu_13⟩ := k_14
        have F_15 := (Fr.rf : Fr S S (pB v)).trans fu_13
        have bv_16 : bv u_13 v = 0 := (xu_13.2.2.2.2.2 (by decide) (by decide)).1
        have q_17 : 0 ≤ u_13.1 v 1 ∧ u_13.1 v 1 ≤ 32 := iu_13.fi v 1 0 (big_lt hv) hv
        exact sVret Cx hr hlk hW hL ⟨iu_13, F_15, ⟨by omega, ((show bv u_13 v = 0 from bv_16)).trans (show (0 : Int) = mlt d i k by unfold mlt; rw [cif_f (by omega), cif_f (fun q => by have e := hDR.2.2.1 i q.1 (by omega); omega)]), (show Hd (bs u_13 v) from (xu_13.2.2.2.2.2 (by decide) (by decide)).2)⟩⟩ dX2_multiplier_57
      · refine lv_aload_n hx hb dX2_multiplier_44 rfl (lv_at hl 1 rfl) ?_
        refine lv_aload_n hx hb dX2_multiplier_45 rfl (lv_at hl 4 rfl) ?_
        refine sBv (sV (As := [.ref (G.2.2.1 + v)]) (rest := []) (k := 135) Cx (v_X2_denominator l G S (v := v) (oc := oc) (od := od) (n := n) (hw := hw) (d := d) hI ⟨hoc, hod, (neD hcd), hec, hed⟩ hDR hv) (c_X2_121 Cx rfl rfl (rmk_ok (by omega) (by decide))) hW (by decide) rfl rfl rfl hl.1 rfl (Nat.le_of_ble_eq_true rfl) dX2_multiplier_46 ⟨Nat.le_of_ble_eq_true rfl, Nat.le_of_ble_eq_true rfl⟩) hL (fun u_18 H locs k_19 hW hL => ?_)
        obtain ⟨iu_18, fu_18, xu_18⟩ := k_19
        have F_20 := (Fr.rf : Fr S S (pB v)).trans fu_18
        have bv_21 : bv u_18 v = d.1 := xu_18.2.2.2.1.1
        refine lv_goto (tgt := 57) hx hb dX2_multiplier_49 (by decide) ?_
        have q_22 : 0 ≤ u_18.1 v 1 ∧ u_18.1 v 1 ≤ 32 := iu_18.fi v 1 0 (big_lt hv) hv
        exact sVret Cx hr hlk hW hL ⟨iu_18, F_20, ⟨by omega, ((show bv u_18 v = d.1 from bv_21)).trans (show _ = mlt d i k by unfold mlt; rw [cif_f (by omega), cif_t ⟨by omega, by have e := hDR.2.2.1 i (by omega) (by omega); omega⟩]), (show Hd (bs u_18 v) from xu_18.2.2.2.1.2)⟩⟩ dX2_multiplier_57
  · refine lv_aload_n hx hb dX2_multiplier_12 rfl (lv_at hl 4 rfl) ?_
    refine lv_aload_n hx hb dX2_multiplier_13 rfl (lv_at hl 1 rfl) ?_
    refine g_X2_13 Cx hW (k := 135) (by decide) rfl (v := .ref (G.2.2.1 + oc)) hec dX2_multiplier_14 ?_
    refine lv_iload_n hx hb dX2_multiplier_17 rfl (lv_at hl 2 rfl) ?_
    refine lv_iload hx hb dX2_multiplier_18 (lv_at hl 0 rfl) ?_
    refine sBi (sSt (As := [.int (iv i), .int (iv r_3)]) (rest := [.ref (G.2.2.1 + oc), .ref (G.2.2.1 + v)]) Cx (s_X2_at l G S (i := i) (j := r_3) (by omega) (by omega)) (c_X2_77 Cx rfl rfl (rmk_ok (by omega) (by decide))) hW rfl hl.1 rfl (Nat.le_of_ble_eq_true rfl) dX2_multiplier_20 ⟨Nat.le_of_ble_eq_true rfl, Nat.le_of_ble_eq_true rfl⟩) hL (fun r_25 u_23 H locs k_24 hW hL => ?_)
    obtain ⟨eu_23, xu_23⟩ := k_24
    rw [eu_23] at hW
    refine sBv (sV (As := [.ref (G.2.2.1 + oc), .int (iv r_25)]) (rest := []) (k := v) Cx (b_X0_load l G S (o := v) (k := oc) (a := r_25) (N := 4816) hI hv (dic_a hoc) (by omega)) (c_X2_106 Cx rfl rfl (rmk_ok (by omega) (by decide))) hW (big_l hv) hv rfl rfl hl.1 rfl (Nat.le_of_ble_eq_true rfl) dX2_multiplier_23 ⟨Nat.le_of_ble_eq_true rfl, Nat.le_of_ble_eq_true rfl⟩) hL (fun u_26 H locs k_27 hW hL => ?_)
    obtain ⟨iu_26, fu_26, xu_26⟩ := k_27
    have F_28 := (Fr.rf : Fr S S (pB v)).trans fu_26
    have yu_26 : u_26.1 v 1 ≤ 6 := by have e := xu_26.1; rw [dic_L hoc] at e; exact e
    have bv_29 : bv u_26 v = nv (S.2.1 oc) r_25 := xu_26.2.2.2.2.2.2.2.1
    refine lv_goto (tgt := 57) hx hb dX2_multiplier_26 (by decide) ?_
    have q_30 : 0 ≤ u_26.1 v 1 ∧ u_26.1 v 1 ≤ 32 := iu_26.fi v 1 0 (big_lt hv) hv
    exact sVret Cx hr hlk hW hL ⟨iu_26, F_28, ⟨by omega, ((show bv u_26 v = nv (S.2.1 oc) r_25 from bv_29)).trans (show _ = mlt d i k by unfold mlt; have e1 : r_3 = pOf d k := (by omega); rw [cif_t (by omega), ← e1]; exact (show nv (S.2.1 oc) r_25 = d.2.1 i r_3 by rw [show r_25 = (i + 2) * 112 + r_3 * 8 by omega]; exact hDR.2.1 i r_3 (by omega) (by omega) (by omega) (by omega) (by omega))), (show Hd (bs u_26 v) from xu_26.2.2.2.2.2.2.2.2)⟩⟩ dX2_multiplier_57

set_option maxRecDepth 100000 in
set_option maxHeartbeats 4000000 in
theorem v_X2_pointNumber (l : Launch) (G : sG) (S : sS) {oc od : Nat} {n hw : Int} {d : dT} {v : Nat} {k : Int} (hI : cX G S 0 0 0) (hdq : dcs G S oc od) (hDR : Hd (DRc S oc n hw d)) (hv : tau v = .inl 0) (hk : -2147483648 ≤ k ∧ k ≤ 2147483647) : Met l yX2_pointNumber (.code yX2_pointNumber cX2_pointNumber 4 none :: tb) (rmk 3 0 0) (sPc G 294 S [.ref (G.2.2.1 + 135), .int (iv k), .ref (G.2.2.1 + v)]) (sQv G 294 (fun u => cX G u 0 0 0 ∧ Fr S u (pB v) ∧ (u.1 v 1 ≤ 6 ∧ Hd (bv u v = ptB d k ∧ bs u v)))) 0 0 (sF G) := by
  refine sEnter (by decide) (Nat.le_of_ble_eq_true rfl) ?_
  intro p e s m args below meth c Cx hr hlk hnm hW ls hl
  have Cx : sC G p m c cX2_pointNumber 4 s args RX2 := Cx
  obtain ⟨hx, hb, hml, hown, hts⟩ := id Cx.1
  have hL : sL G [] := sL_nil
  have hl : lv_has ls 4 [(0, .ref (G.2.2.1 + 135)), (1, .int (iv k)), (2, .ref (G.2.2.1 + v))] := hl
  have hW0 := hW
  obtain ⟨hoc, hod, hcd, hec, hed⟩ := id hdq
  have hd13 := hDR.2.2.2.2.1; have hd14 := hDR.2.2.2.2.2.1; have hd15 := hDR.2.2.2.2.2.2.1; have hd16 := hDR.2.2.2.2.2.2.2; have hm40 : 0 ≤ S.1 135 14 ∧ S.1 135 14 ≤ 40 := hI.fi 135 14 2 (by decide) rfl; have hp13 : 0 ≤ S.1 135 15 ∧ S.1 135 15 ≤ 13 := hI.fi 135 15 2 (by decide) rfl
  refine lv_aload_n hx hb dX2_pointNumber_0 rfl (lv_at hl 0 rfl) ?_
  refine lv_iload_n hx hb dX2_pointNumber_1 rfl (lv_at hl 1 rfl) ?_
  refine sBi (sV (As := [.int (iv k)]) (rest := []) (k := 135) Cx (v_X2_rowOf l G S (k := k) (oc := oc) (od := od) (n := n) (hw := hw) (d := d) hI ⟨hoc, hod, (neD hcd), hec, hed⟩ hDR (by omega)) (c_X2_128 Cx rfl rfl (rmk_ok (by omega) (by decide))) hW (by decide) rfl rfl rfl hl.1 rfl (Nat.le_of_ble_eq_true rfl) dX2_pointNumber_2 ⟨Nat.le_of_ble_eq_true rfl, Nat.le_of_ble_eq_true rfl⟩) hL (fun r_3 u_1 H locs k_2 hW hL => ?_)
  obtain ⟨eu_1, xu_1⟩ := k_2
  rw [eu_1] at hW
  refine lv_istore_n (lv' := [(3, .int (iv r_3)), (0, .ref (G.2.2.1 + 135)), (1, .int (iv k)), (2, .ref (G.2.2.1 + v))]) hx hb dX2_pointNumber_5 rfl hl (by decide) rfl (fun ls hl => ?_)
  refine lv_iload_n hx hb dX2_pointNumber_6 rfl (lv_at hl 0 rfl) ?_
  refine r_if_le (tgt := 26) hx hb ⟨(by omega), (by omega)⟩ dX2_pointNumber_7 (by decide) (fun c_4 => ?_) (fun c_4 => ?_)
  · refine lv_aload_n hx hb dX2_pointNumber_26 rfl (lv_at hl 3 rfl) ?_
    refine lv_lconst (v := jv 0) hx hb dX2_pointNumber_27 (by decide) ?_
    refine sBv (sV (As := [.long (jv 0)]) (rest := []) (k := v) Cx (b_X0_put l G S (o := v) (v := 0) hI hv (by omega)) (c_X2_124 Cx rfl rfl (rmk_ok (by omega) (by decide))) hW (big_l hv) hv rfl rfl hl.1 rfl (Nat.le_of_ble_eq_true rfl) dX2_pointNumber_28 ⟨Nat.le_of_ble_eq_true rfl, Nat.le_of_ble_eq_true rfl⟩) hL (fun u_5 H locs k_6 hW hL => ?_)
    obtain ⟨iu_5, fu_5, xu_5⟩ := k_6
    have F_7 := (Fr.rf : Fr S S (pB v)).trans fu_5
    have bv_8 : bv u_5 v = 0 := (xu_5.2.2.2.2.2 (by decide) (by decide)).1
    have q_9 : 0 ≤ u_5.1 v 1 ∧ u_5.1 v 1 ≤ 32 := iu_5.fi v 1 0 (big_lt hv) hv
    exact sVret Cx hr hlk hW hL ⟨iu_5, F_7, ⟨by omega, ((show bv u_5 v = 0 from bv_8)).trans (show (0 : Int) = ptB d k by unfold ptB; rw [cif_f (by omega)]), (show Hd (bs u_5 v) from (xu_5.2.2.2.2.2 (by decide) (by decide)).2)⟩⟩ dX2_pointNumber_31
  · refine lv_aload_n hx hb dX2_pointNumber_10 rfl (lv_at hl 3 rfl) ?_
    refine lv_aload_n hx hb dX2_pointNumber_11 rfl (lv_at hl 1 rfl) ?_
    refine g_X2_13 Cx hW (k := 135) (by decide) rfl (v := .ref (G.2.2.1 + oc)) hec dX2_pointNumber_12 ?_
    refine lv_iload_n hx hb dX2_pointNumber_15 rfl (lv_at hl 0 rfl) ?_
    refine lv_iconst (v := iv 0) hx hb dX2_pointNumber_16 (by decide) ?_
    refine sBi (sSt (As := [.int (iv r_3), .int (iv 0)]) (rest := [.ref (G.2.2.1 + oc), .ref (G.2.2.1 + v)]) Cx (s_X2_at l G S (i := r_3) (j := 0) (by omega) (by omega)) (c_X2_77 Cx rfl rfl (rmk_ok (by omega) (by decide))) hW rfl hl.1 rfl (Nat.le_of_ble_eq_true rfl) dX2_pointNumber_17 ⟨Nat.le_of_ble_eq_true rfl, Nat.le_of_ble_eq_true rfl⟩) hL (fun r_12 u_10 H locs k_11 hW hL => ?_)
    obtain ⟨eu_10, xu_10⟩ := k_11
    rw [eu_10] at hW
    refine sBv (sV (As := [.ref (G.2.2.1 + oc), .int (iv r_12)]) (rest := []) (k := v) Cx (b_X0_load l G S (o := v) (k := oc) (a := r_12) (N := 4816) hI hv (dic_a hoc) (by omega)) (c_X2_106 Cx rfl rfl (rmk_ok (by omega) (by decide))) hW (big_l hv) hv rfl rfl hl.1 rfl (Nat.le_of_ble_eq_true rfl) dX2_pointNumber_20 ⟨Nat.le_of_ble_eq_true rfl, Nat.le_of_ble_eq_true rfl⟩) hL (fun u_13 H locs k_14 hW hL => ?_)
    obtain ⟨iu_13, fu_13, xu_13⟩ := k_14
    have F_15 := (Fr.rf : Fr S S (pB v)).trans fu_13
    have yu_13 : u_13.1 v 1 ≤ 6 := by have e := xu_13.1; rw [dic_L hoc] at e; exact e
    have bv_16 : bv u_13 v = nv (S.2.1 oc) r_12 := xu_13.2.2.2.2.2.2.2.1
    refine lv_goto (tgt := 31) hx hb dX2_pointNumber_23 (by decide) ?_
    have q_17 : 0 ≤ u_13.1 v 1 ∧ u_13.1 v 1 ≤ 32 := iu_13.fi v 1 0 (big_lt hv) hv
    exact sVret Cx hr hlk hW hL ⟨iu_13, F_15, ⟨by omega, ((show bv u_13 v = nv (S.2.1 oc) r_12 from bv_16)).trans (show _ = ptB d k by unfold ptB; have e1 : r_3 = rOf d k := (by omega); rw [cif_t (by omega), ← e1]; exact (show nv (S.2.1 oc) r_12 = d.2.1 r_3 0 by rw [show r_12 = (r_3 + 2) * 112 + 0 * 8 by omega]; exact hDR.2.1 r_3 0 (by omega) (by omega) (by omega) (by omega) (by omega))), (show Hd (bs u_13 v) from xu_13.2.2.2.2.2.2.2.2)⟩⟩ dX2_pointNumber_31

set_option maxRecDepth 100000 in
set_option maxHeartbeats 4000000 in
theorem v_X2_isSmall (l : Launch) (G : sG) (S : sS) {oc od : Nat} {a : Int} (hI : cX G S 0 0 0) (hdq : dcs G S oc od) (ha : a % 8 = 0 ∧ 0 ≤ a ∧ a + 7 < 4816) : Met l yX2_isSmall (.code yX2_isSmall cX2_isSmall 2 (some .boolean) :: tb) (rmk 1 0 0) (sPc G 294 S [.ref (G.2.2.1 + 135), .int (iv a)]) (sQi G 294 (fun r u => u = S ∧ (0 ≤ r ∧ r ≤ 1 ∧ (r = 1 ↔ -1 ≤ S.2.1 oc a ∧ S.2.1 oc a ≤ 1)))) 0 0 (sF G) := by
  refine sEnter (by decide) (Nat.le_of_ble_eq_true rfl) ?_
  intro p e s m args below meth c Cx hr hlk hnm hW ls hl
  have Cx : sC G p m c cX2_isSmall 2 s args RX2 := Cx
  obtain ⟨hx, hb, hml, hown, hts⟩ := id Cx.1
  have hL : sL G [] := sL_nil
  have hl : lv_has ls 2 [(0, .ref (G.2.2.1 + 135)), (1, .int (iv a))] := hl
  have hW0 := hW
  obtain ⟨hoc, hod, hcd, hec, hed⟩ := id hdq
  refine lv_aload_n hx hb dX2_isSmall_0 rfl (lv_at hl 0 rfl) ?_
  refine g_X2_13 Cx hW (k := 135) (by decide) rfl (v := .ref (G.2.2.1 + oc)) hec dX2_isSmall_1 ?_
  refine lv_iload_n hx hb dX2_isSmall_4 rfl (lv_at hl 1 rfl) ?_
  refine rIald Cx hW (k := oc) (dic_l hoc) (dic_t hoc) (by decide) (by omega) (by omega) dX2_isSmall_5 ?_
  have q_1 : (-2147483648) ≤ S.2.1 oc a ∧ S.2.1 oc a ≤ 2147483647 := sla_r (dic_a hoc) hI a 
  refine r_i (b := S.2.1 oc a) rfl ?_
  refine lv_iconst (v := iv (-1)) hx hb dX2_isSmall_6 (by decide) ?_
  refine r_icmp_lt (tgt := 24) hx hb ⟨(by omega), (by omega)⟩ ⟨(by omega), (by omega)⟩ dX2_isSmall_7 (by decide) (fun c_2 => ?_) (fun c_2 => ?_)
  · refine lv_iconst (v := iv 0) hx hb dX2_isSmall_24 (by decide) ?_
    exact sZret Cx hr hlk hW hL (by omega) ⟨rfl, (by omega)⟩ dX2_isSmall_25
  · refine lv_aload_n hx hb dX2_isSmall_10 rfl (lv_at hl 0 rfl) ?_
    refine g_X2_13 Cx hW (k := 135) (by decide) rfl (v := .ref (G.2.2.1 + oc)) hec dX2_isSmall_11 ?_
    refine lv_iload_n hx hb dX2_isSmall_14 rfl (lv_at hl 1 rfl) ?_
    refine rIald Cx hW (k := oc) (dic_l hoc) (dic_t hoc) (by decide) (by omega) (by omega) dX2_isSmall_15 ?_
    refine r_i (b := S.2.1 oc a) rfl ?_
    refine lv_iconst (v := iv 1) hx hb dX2_isSmall_16 (by decide) ?_
    refine r_icmp_gt (tgt := 24) hx hb ⟨(by omega), (by omega)⟩ ⟨(by omega), (by omega)⟩ dX2_isSmall_17 (by decide) (fun c_3 => ?_) (fun c_3 => ?_)
    · refine lv_iconst (v := iv 0) hx hb dX2_isSmall_24 (by decide) ?_
      exact sZret Cx hr hlk hW hL (by omega) ⟨rfl, (by omega)⟩ dX2_isSmall_25
    · refine lv_iconst (v := iv 1) hx hb dX2_isSmall_20 (by decide) ?_
      refine lv_goto (tgt := 25) hx hb dX2_isSmall_21 (by decide) ?_
      exact sZret Cx hr hlk hW hL (by omega) ⟨rfl, (by omega)⟩ dX2_isSmall_25

set_option maxRecDepth 100000 in
set_option maxHeartbeats 4000000 in
theorem v_X2_small (l : Launch) (G : sG) (S : sS) {oc od : Nat} {a : Int} (hI : cX G S 0 0 0) (hdq : dcs G S oc od) (ha : a % 8 = 0 ∧ 0 ≤ a ∧ a + 7 < 4816) : Met l yX2_small (.code yX2_small cX2_small 2 (some .long) :: tb) (rmk 1 0 0) (sPc G 294 S [.ref (G.2.2.1 + 135), .int (iv a)]) (sQl G 294 (fun r u => u = S ∧ (-5999999994 ≤ r ∧ r ≤ 5999999994 ∧ (-1 ≤ S.2.1 oc a → S.2.1 oc a ≤ 1 → -999999999 ≤ r ∧ r ≤ 999999999) ∧ (-1 ≤ S.2.1 oc a → S.2.1 oc a ≤ 1 → r = nv (S.2.1 oc) a)))) 0 0 (sF G) := by
  refine sEnter (by decide) (Nat.le_of_ble_eq_true rfl) ?_
  intro p e s m args below meth c Cx hr hlk hnm hW ls hl
  have Cx : sC G p m c cX2_small 2 s args RX2 := Cx
  obtain ⟨hx, hb, hml, hown, hts⟩ := id Cx.1
  have hL : sL G [] := sL_nil
  have hl : lv_has ls 2 [(0, .ref (G.2.2.1 + 135)), (1, .int (iv a))] := hl
  have hW0 := hW
  obtain ⟨hoc, hod, hcd, hec, hed⟩ := id hdq
  have hsl := dicS hI hoc ha
  have hsh := hsl.1
  have hsm := hsl.2.1 (a + 1) (by omega) (by omega)
  refine lv_aload_n hx hb dX2_small_0 rfl (lv_at hl 0 rfl) ?_
  refine g_X2_13 Cx hW (k := 135) (by decide) rfl (v := .ref (G.2.2.1 + oc)) hec dX2_small_1 ?_
  refine lv_iload_n hx hb dX2_small_4 rfl (lv_at hl 1 rfl) ?_
  refine rIald Cx hW (k := oc) (dic_l hoc) (dic_t hoc) (by decide) (by omega) (by omega) dX2_small_5 ?_
  have q_1 : (-2147483648) ≤ S.2.1 oc a ∧ S.2.1 oc a ≤ 2147483647 := sla_r (dic_a hoc) hI a 
  refine r_i (b := S.2.1 oc a) rfl ?_
  refine r_i2l hx hb ⟨(by omega), (by omega)⟩ dX2_small_6 ?_
  refine lv_aload_n hx hb dX2_small_7 rfl (lv_at hl 0 rfl) ?_
  refine g_X2_13 Cx hW (k := 135) (by decide) rfl (v := .ref (G.2.2.1 + oc)) hec dX2_small_8 ?_
  refine lv_iload_n hx hb dX2_small_11 rfl (lv_at hl 1 rfl) ?_
  refine lv_iconst (v := iv 1) hx hb dX2_small_12 (by decide) ?_
  refine r_iadd hx hb dX2_small_13 ?_
  refine rIald Cx hW (k := oc) (dic_l hoc) (dic_t hoc) (by decide) (by omega) (by omega) dX2_small_14 ?_
  have q_2 : (-2147483648) ≤ S.2.1 oc (a + 1) ∧ S.2.1 oc (a + 1) ≤ 2147483647 := sla_r (dic_a hoc) hI (a + 1) 
  refine r_i (b := S.2.1 oc (a + 1)) rfl ?_
  refine r_i2l hx hb ⟨(by omega), (by omega)⟩ dX2_small_15 ?_
  refine r_lmul hx hb dX2_small_16 ?_
  obtain ⟨zz, ezz⟩ : ∃ z : Int, z = (S.2.1 oc a) * (S.2.1 oc (a + 1)) := ⟨_, rfl⟩
  refine r_j (b := zz) ezz.symm ?_
  have hzz : -(6 * 999999999) ≤ zz ∧ zz ≤ 6 * 999999999 := by rw [ezz]; exact mulB (by omega) (by omega)
  have hz1 : -1 ≤ S.2.1 oc a → S.2.1 oc a ≤ 1 → -999999999 ≤ zz ∧ zz ≤ 999999999 := fun q1 q2 => by rw [ezz]; exact mulT ⟨q1, q2⟩ (by omega)
  exact sLret Cx hr hlk hW hL ⟨rfl, ⟨by omega, by omega, hz1, fun q1 q2 => by rw [ezz]; exact nv_sml ⟨q1, q2⟩⟩⟩ dX2_small_17

set_option maxRecDepth 100000 in
set_option maxHeartbeats 4000000 in
theorem v_X2_compareProducts (l : Launch) (G : sG) (S : sS) {oc od : Nat} {a b1 c1 d1 : Int} (hI : cX G S 0 0 0) (hdq : dcs G S oc od) (ha : a % 8 = 0 ∧ 0 ≤ a ∧ a + 7 < 4816) (hb1 : b1 % 8 = 0 ∧ 0 ≤ b1 ∧ b1 + 7 < 4816) (hc1 : c1 % 8 = 0 ∧ 0 ≤ c1 ∧ c1 + 7 < 4816) (hd1 : d1 % 8 = 0 ∧ 0 ≤ d1 ∧ d1 + 7 < 4816) : Met l yX2_compareProducts (.code yX2_compareProducts cX2_compareProducts 5 (some .int) :: tb) (rmk 4 0 0) (sPc G 294 S [.ref (G.2.2.1 + 135), .int (iv a), .int (iv b1), .int (iv c1), .int (iv d1)]) (sQi G 294 (fun r u => cX G u 0 0 0 ∧ Fr S u pGr ∧ (-1 ≤ r ∧ r ≤ 1 ∧ (r < 0 ↔ nv (S.2.1 oc) a * nv (S.2.1 oc) b1 < nv (S.2.1 oc) c1 * nv (S.2.1 oc) d1) ∧ (r = 0 ↔ nv (S.2.1 oc) a * nv (S.2.1 oc) b1 = nv (S.2.1 oc) c1 * nv (S.2.1 oc) d1)))) 0 0 (sF G) := by
  refine sEnter (by decide) (Nat.le_of_ble_eq_true rfl) ?_
  intro p e s m args below meth c Cx hr hlk hnm hW ls hl
  have Cx : sC G p m c cX2_compareProducts 5 s args RX2 := Cx
  obtain ⟨hx, hb, hml, hown, hts⟩ := id Cx.1
  have hL : sL G [] := sL_nil
  have hl : lv_has ls 5 [(0, .ref (G.2.2.1 + 135)), (1, .int (iv a)), (2, .int (iv b1)), (3, .int (iv c1)), (4, .int (iv d1))] := hl
  have hW0 := hW
  obtain ⟨hoc, hod, hcd, hec, hed⟩ := id hdq
  refine lv_aload_n hx hb dX2_compareProducts_0 rfl (lv_at hl 0 rfl) ?_
  refine lv_iload_n hx hb dX2_compareProducts_1 rfl (lv_at hl 1 rfl) ?_
  refine sBi (sV (As := [.int (iv a)]) (rest := []) (k := 135) Cx (v_X2_isSmall l G S (a := a) (oc := oc) (od := od) hI ⟨hoc, hod, (neD hcd), hec, hed⟩ (by omega)) (c_X2_167 Cx rfl rfl (rmk_ok (by omega) (by decide))) hW (by decide) rfl rfl rfl hl.1 rfl (Nat.le_of_ble_eq_true rfl) dX2_compareProducts_2 ⟨Nat.le_of_ble_eq_true rfl, Nat.le_of_ble_eq_true rfl⟩) hL (fun r_3 u_1 H locs k_2 hW hL => ?_)
  obtain ⟨eu_1, xu_1⟩ := k_2
  rw [eu_1] at hW
  refine r_if_eq (tgt := 60) hx hb ⟨(by omega), (by omega)⟩ dX2_compareProducts_5 (by decide) (fun c_4 => ?_) (fun c_4 => ?_)
  · refine lv_aload_n hx hb dX2_compareProducts_60 rfl (lv_at hl 0 rfl) ?_
    refine g_X2_38 Cx hW (k := 135) (by decide) rfl (v := .ref (G.2.2.1 + 145)) (rf_135_7 hI) dX2_compareProducts_61 ?_
    refine lv_aload_n hx hb dX2_compareProducts_64 rfl (lv_at hl 0 rfl) ?_
    refine g_X2_13 Cx hW (k := 135) (by decide) rfl (v := .ref (G.2.2.1 + oc)) hec dX2_compareProducts_65 ?_
    refine lv_iload_n hx hb dX2_compareProducts_68 rfl (lv_at hl 1 rfl) ?_
    refine sBv (sV (As := [.ref (G.2.2.1 + oc), .int (iv a)]) (rest := []) (k := 145) Cx (b_X0_load l G S (o := 145) (k := oc) (a := a) (N := 4816) hI rfl (dic_a hoc) (by omega)) (c_X2_106 Cx rfl rfl (rmk_ok (by omega) (by decide))) hW (by decide) rfl rfl rfl hl.1 rfl (Nat.le_of_ble_eq_true rfl) dX2_compareProducts_69 ⟨Nat.le_of_ble_eq_true rfl, Nat.le_of_ble_eq_true rfl⟩) hL (fun u_5 H locs k_6 hW hL => ?_)
    obtain ⟨iu_5, fu_5, xu_5⟩ := k_6
    have F_7 := (Fr.rf : Fr S S pGr).trans (fu_5.to (pB_sub rfl rfl))
    have yu_5 : u_5.1 145 1 ≤ 6 := by have e := xu_5.1; rw [dic_L hoc] at e; exact e
    have bv_8 : bv u_5 145 = nv (S.2.1 oc) a := xu_5.2.2.2.2.2.2.2.1
    replace xu_5 : Hd _ := xu_5
    refine lv_aload_n hx hb dX2_compareProducts_72 rfl (lv_at hl 0 rfl) ?_
    refine g_X2_41 Cx hW (k := 135) (by decide) rfl (v := .ref (G.2.2.1 + 147)) (rf_135_8 iu_5) dX2_compareProducts_73 ?_
    refine lv_aload_n hx hb dX2_compareProducts_76 rfl (lv_at hl 0 rfl) ?_
    refine g_X2_13 Cx hW (k := 135) (by decide) rfl (v := .ref (G.2.2.1 + oc)) (((fu_5 135 rfl).2.2.2 0).trans hec) dX2_compareProducts_77 ?_
    refine lv_iload_n hx hb dX2_compareProducts_80 rfl (lv_at hl 2 rfl) ?_
    refine sBv (sV (As := [.ref (G.2.2.1 + oc), .int (iv b1)]) (rest := []) (k := 147) Cx (b_X0_load l G u_5 (o := 147) (k := oc) (a := b1) (N := 4816) iu_5 rfl (dic_a hoc) (by omega)) (c_X2_106 Cx rfl rfl (rmk_ok (by omega) (by decide))) hW (by decide) rfl rfl rfl hl.1 rfl (Nat.le_of_ble_eq_true rfl) dX2_compareProducts_81 ⟨Nat.le_of_ble_eq_true rfl, Nat.le_of_ble_eq_true rfl⟩) hL (fun u_9 H locs k_10 hW hL => ?_)
    obtain ⟨iu_9, fu_9, xu_9⟩ := k_10
    have F_11 := F_7.trans (fu_9.to (pB_sub rfl rfl))
    have yu_9 : u_9.1 147 1 ≤ 6 := by have e := xu_9.1; rw [dic_L hoc] at e; exact e
    have bv_12 : bv u_9 147 = nv (u_5.2.1 oc) b1 := xu_9.2.2.2.2.2.2.2.1
    replace xu_9 : Hd _ := xu_9
    refine lv_aload_n hx hb dX2_compareProducts_84 rfl (lv_at hl 0 rfl) ?_
    refine g_X2_44 Cx hW (k := 135) (by decide) rfl (v := .ref (G.2.2.1 + 149)) (rf_135_9 iu_9) dX2_compareProducts_85 ?_
    refine lv_aload_n hx hb dX2_compareProducts_88 rfl (lv_at hl 0 rfl) ?_
    refine g_X2_38 Cx hW (k := 135) (by decide) rfl (v := .ref (G.2.2.1 + 145)) (rf_135_7 iu_9) dX2_compareProducts_89 ?_
    refine lv_aload_n hx hb dX2_compareProducts_92 rfl (lv_at hl 0 rfl) ?_
    refine g_X2_41 Cx hW (k := 135) (by decide) rfl (v := .ref (G.2.2.1 + 147)) (rf_135_8 iu_9) dX2_compareProducts_93 ?_
    have q_13 : 0 ≤ u_5.1 145 1 ∧ u_5.1 145 1 ≤ 32 := iu_5.fi 145 1 0 (by decide) rfl
    have lk_14 : u_9.1 145 1 = u_5.1 145 1 := (fu_9 145 rfl).1 1
    have q_15 : 0 ≤ u_9.1 147 1 ∧ u_9.1 147 1 ≤ 32 := iu_9.fi 147 1 0 (by decide) rfl
    refine sBv (sV (As := [.ref (G.2.2.1 + 145), .ref (G.2.2.1 + 147)]) (rest := []) (k := 149) Cx (b_X0_product l G u_9 (o := 149) (a := 145) (b := 147) iu_9 rfl rfl rfl (show (149 : Nat) ≠ 145 by decide) (show (149 : Nat) ≠ 147 by decide)) (c_X2_176 Cx rfl rfl (rmk_ok (by omega) (by decide))) hW (by decide) rfl rfl rfl hl.1 rfl (Nat.le_of_ble_eq_true rfl) dX2_compareProducts_96 ⟨Nat.le_of_ble_eq_true rfl, Nat.le_of_ble_eq_true rfl⟩) hL (fun u_16 H locs k_17 hW hL => ?_)
    obtain ⟨iu_16, fu_16, xu_16⟩ := k_17
    have F_18 := F_11.trans (fu_16.to (pB_sub rfl rfl))
    have bv_19 : bv u_16 149 = (nv (S.2.1 oc) a) * (nv (u_5.2.1 oc) b1) := (by have e : bv u_16 149 = _ := xu_16.2.1 (by omega); rw [(show bv u_9 145 = nv (S.2.1 oc) a from (bv_fr fu_9 rfl rfl).trans (bv_8)), (show bv u_9 147 = nv (u_5.2.1 oc) b1 from bv_12)] at e; exact e)
    refine lv_aload_n hx hb dX2_compareProducts_99 rfl (lv_at hl 0 rfl) ?_
    refine g_X2_38 Cx hW (k := 135) (by decide) rfl (v := .ref (G.2.2.1 + 145)) (rf_135_7 iu_16) dX2_compareProducts_100 ?_
    refine lv_aload_n hx hb dX2_compareProducts_103 rfl (lv_at hl 0 rfl) ?_
    refine g_X2_13 Cx hW (k := 135) (by decide) rfl (v := .ref (G.2.2.1 + oc)) ((((fu_16 135 rfl).2.2.2 0).trans (((fu_9 135 rfl).2.2.2 0).trans ((fu_5 135 rfl).2.2.2 0))).trans hec) dX2_compareProducts_104 ?_
    refine lv_iload_n hx hb dX2_compareProducts_107 rfl (lv_at hl 3 rfl) ?_
    refine sBv (sV (As := [.ref (G.2.2.1 + oc), .int (iv c1)]) (rest := []) (k := 145) Cx (b_X0_load l G u_16 (o := 145) (k := oc) (a := c1) (N := 4816) iu_16 rfl (dic_a hoc) (by omega)) (c_X2_106 Cx rfl rfl (rmk_ok (by omega) (by decide))) hW (by decide) rfl rfl rfl hl.1 rfl (Nat.le_of_ble_eq_true rfl) dX2_compareProducts_108 ⟨Nat.le_of_ble_eq_true rfl, Nat.le_of_ble_eq_true rfl⟩) hL (fun u_20 H locs k_21 hW hL => ?_)
    obtain ⟨iu_20, fu_20, xu_20⟩ := k_21
    have F_22 := F_18.trans (fu_20.to (pB_sub rfl rfl))
    have yu_20 : u_20.1 145 1 ≤ 6 := by have e := xu_20.1; rw [dic_L hoc] at e; exact e
    have bv_23 : bv u_20 145 = nv (u_16.2.1 oc) c1 := xu_20.2.2.2.2.2.2.2.1
    replace xu_20 : Hd _ := xu_20
    refine lv_aload_n hx hb dX2_compareProducts_111 rfl (lv_at hl 0 rfl) ?_
    refine g_X2_41 Cx hW (k := 135) (by decide) rfl (v := .ref (G.2.2.1 + 147)) (rf_135_8 iu_20) dX2_compareProducts_112 ?_
    refine lv_aload_n hx hb dX2_compareProducts_115 rfl (lv_at hl 0 rfl) ?_
    refine g_X2_13 Cx hW (k := 135) (by decide) rfl (v := .ref (G.2.2.1 + oc)) ((((fu_20 135 rfl).2.2.2 0).trans (((fu_16 135 rfl).2.2.2 0).trans (((fu_9 135 rfl).2.2.2 0).trans ((fu_5 135 rfl).2.2.2 0)))).trans hec) dX2_compareProducts_116 ?_
    refine lv_iload hx hb dX2_compareProducts_119 (lv_at hl 4 rfl) ?_
    refine sBv (sV (As := [.ref (G.2.2.1 + oc), .int (iv d1)]) (rest := []) (k := 147) Cx (b_X0_load l G u_20 (o := 147) (k := oc) (a := d1) (N := 4816) iu_20 rfl (dic_a hoc) (by omega)) (c_X2_106 Cx rfl rfl (rmk_ok (by omega) (by decide))) hW (by decide) rfl rfl rfl hl.1 rfl (Nat.le_of_ble_eq_true rfl) dX2_compareProducts_121 ⟨Nat.le_of_ble_eq_true rfl, Nat.le_of_ble_eq_true rfl⟩) hL (fun u_24 H locs k_25 hW hL => ?_)
    obtain ⟨iu_24, fu_24, xu_24⟩ := k_25
    have F_26 := F_22.trans (fu_24.to (pB_sub rfl rfl))
    have yu_24 : u_24.1 147 1 ≤ 6 := by have e := xu_24.1; rw [dic_L hoc] at e; exact e
    have bv_27 : bv u_24 147 = nv (u_20.2.1 oc) d1 := xu_24.2.2.2.2.2.2.2.1
    replace xu_24 : Hd _ := xu_24
    refine lv_aload_n hx hb dX2_compareProducts_124 rfl (lv_at hl 0 rfl) ?_
    refine g_X2_47 Cx hW (k := 135) (by decide) rfl (v := .ref (G.2.2.1 + 151)) (rf_135_10 iu_24) dX2_compareProducts_125 ?_
    refine lv_aload_n hx hb dX2_compareProducts_128 rfl (lv_at hl 0 rfl) ?_
    refine g_X2_38 Cx hW (k := 135) (by decide) rfl (v := .ref (G.2.2.1 + 145)) (rf_135_7 iu_24) dX2_compareProducts_129 ?_
    refine lv_aload_n hx hb dX2_compareProducts_132 rfl (lv_at hl 0 rfl) ?_
    refine g_X2_41 Cx hW (k := 135) (by decide) rfl (v := .ref (G.2.2.1 + 147)) (rf_135_8 iu_24) dX2_compareProducts_133 ?_
    have q_28 : 0 ≤ u_20.1 145 1 ∧ u_20.1 145 1 ≤ 32 := iu_20.fi 145 1 0 (by decide) rfl
    have lk_29 : u_24.1 145 1 = u_20.1 145 1 := (fu_24 145 rfl).1 1
    have q_30 : 0 ≤ u_24.1 147 1 ∧ u_24.1 147 1 ≤ 32 := iu_24.fi 147 1 0 (by decide) rfl
    refine sBv (sV (As := [.ref (G.2.2.1 + 145), .ref (G.2.2.1 + 147)]) (rest := []) (k := 151) Cx (b_X0_product l G u_24 (o := 151) (a := 145) (b := 147) iu_24 rfl rfl rfl (show (151 : Nat) ≠ 145 by decide) (show (151 : Nat) ≠ 147 by decide)) (c_X2_176 Cx rfl rfl (rmk_ok (by omega) (by decide))) hW (by decide) rfl rfl rfl hl.1 rfl (Nat.le_of_ble_eq_true rfl) dX2_compareProducts_136 ⟨Nat.le_of_ble_eq_true rfl, Nat.le_of_ble_eq_true rfl⟩) hL (fun u_31 H locs k_32 hW hL => ?_)
    obtain ⟨iu_31, fu_31, xu_31⟩ := k_32
    have F_33 := F_26.trans (fu_31.to (pB_sub rfl rfl))
    have bv_34 : bv u_31 151 = (nv (u_16.2.1 oc) c1) * (nv (u_20.2.1 oc) d1) := (by have e : bv u_31 151 = _ := xu_31.2.1 (by omega); rw [(show bv u_24 145 = nv (u_16.2.1 oc) c1 from (bv_fr fu_24 rfl rfl).trans (bv_23)), (show bv u_24 147 = nv (u_20.2.1 oc) d1 from bv_27)] at e; exact e)
    refine lv_aload_n hx hb dX2_compareProducts_139 rfl (lv_at hl 0 rfl) ?_
    refine g_X2_44 Cx hW (k := 135) (by decide) rfl (v := .ref (G.2.2.1 + 149)) (rf_135_9 iu_31) dX2_compareProducts_140 ?_
    refine lv_aload_n hx hb dX2_compareProducts_143 rfl (lv_at hl 0 rfl) ?_
    refine g_X2_47 Cx hW (k := 135) (by decide) rfl (v := .ref (G.2.2.1 + 151)) (rf_135_10 iu_31) dX2_compareProducts_144 ?_
    refine sBi (sV (As := [.ref (G.2.2.1 + 151)]) (rest := []) (k := 149) Cx (b_X0_compareWith l G u_31 (o := 149) (a := 151) iu_31 rfl rfl (show Hd (bs u_31 149) from (bs_fr fu_31 rfl (bs_fr fu_24 rfl (bs_fr fu_20 rfl xu_16.2.2)))) (show Hd (bs u_31 151) from xu_31.2.2)) (c_X2_180 Cx rfl rfl (rmk_ok (by omega) (by decide))) hW (by decide) rfl rfl rfl hl.1 rfl (Nat.le_of_ble_eq_true rfl) dX2_compareProducts_147 ⟨Nat.le_of_ble_eq_true rfl, Nat.le_of_ble_eq_true rfl⟩) hL (fun r_37 u_35 H locs k_36 hW hL => ?_)
    obtain ⟨eu_35, xu_35⟩ := k_36
    rw [eu_35] at hW
    exact sIret Cx hr hlk hW hL ⟨iu_31, F_33, (by have y := xu_35.2; have h1 := (show bv u_31 149 = (nv (S.2.1 oc) a) * (nv (u_5.2.1 oc) b1) from (bv_fr fu_31 rfl rfl).trans ((bv_fr fu_24 rfl rfl).trans ((bv_fr fu_20 rfl rfl).trans (bv_19)))); have h2 := (show bv u_31 151 = (nv (u_16.2.1 oc) c1) * (nv (u_20.2.1 oc) d1) from bv_34); (try rw [show u_5.2.1 oc = S.2.1 oc from funext fun x => (fu_5 oc (pB_no (tau_ne (dic_t hoc) (rfl : tau 145 = .inl 0) (fun h => by cases h)) (ac_ne (dic_c hoc) (rfl : acode 146 = 1) (by decide)))).2.1 x] at h1); (try rw [show u_5.2.1 oc = S.2.1 oc from funext fun x => (fu_5 oc (pB_no (tau_ne (dic_t hoc) (rfl : tau 145 = .inl 0) (fun h => by cases h)) (ac_ne (dic_c hoc) (rfl : acode 146 = 1) (by decide)))).2.1 x] at h2); (try rw [show u_16.2.1 oc = S.2.1 oc from funext fun x => ((fu_16 oc (pB_no (tau_ne (dic_t hoc) (rfl : tau 149 = .inl 0) (fun h => by cases h)) (ac_ne (dic_c hoc) (rfl : acode 150 = 1) (by decide)))).2.1 x).trans (((fu_9 oc (pB_no (tau_ne (dic_t hoc) (rfl : tau 147 = .inl 0) (fun h => by cases h)) (ac_ne (dic_c hoc) (rfl : acode 148 = 1) (by decide)))).2.1 x).trans ((fu_5 oc (pB_no (tau_ne (dic_t hoc) (rfl : tau 145 = .inl 0) (fun h => by cases h)) (ac_ne (dic_c hoc) (rfl : acode 146 = 1) (by decide)))).2.1 x))] at h1); (try rw [show u_16.2.1 oc = S.2.1 oc from funext fun x => ((fu_16 oc (pB_no (tau_ne (dic_t hoc) (rfl : tau 149 = .inl 0) (fun h => by cases h)) (ac_ne (dic_c hoc) (rfl : acode 150 = 1) (by decide)))).2.1 x).trans (((fu_9 oc (pB_no (tau_ne (dic_t hoc) (rfl : tau 147 = .inl 0) (fun h => by cases h)) (ac_ne (dic_c hoc) (rfl : acode 148 = 1) (by decide)))).2.1 x).trans ((fu_5 oc (pB_no (tau_ne (dic_t hoc) (rfl : tau 145 = .inl 0) (fun h => by cases h)) (ac_ne (dic_c hoc) (rfl : acode 146 = 1) (by decide)))).2.1 x))] at h2); (try rw [show u_20.2.1 oc = S.2.1 oc from funext fun x => ((fu_20 oc (pB_no (tau_ne (dic_t hoc) (rfl : tau 145 = .inl 0) (fun h => by cases h)) (ac_ne (dic_c hoc) (rfl : acode 146 = 1) (by decide)))).2.1 x).trans (((fu_16 oc (pB_no (tau_ne (dic_t hoc) (rfl : tau 149 = .inl 0) (fun h => by cases h)) (ac_ne (dic_c hoc) (rfl : acode 150 = 1) (by decide)))).2.1 x).trans (((fu_9 oc (pB_no (tau_ne (dic_t hoc) (rfl : tau 147 = .inl 0) (fun h => by cases h)) (ac_ne (dic_c hoc) (rfl : acode 148 = 1) (by decide)))).2.1 x).trans ((fu_5 oc (pB_no (tau_ne (dic_t hoc) (rfl : tau 145 = .inl 0) (fun h => by cases h)) (ac_ne (dic_c hoc) (rfl : acode 146 = 1) (by decide)))).2.1 x)))] at h1); (try rw [show u_20.2.1 oc = S.2.1 oc from funext fun x => ((fu_20 oc (pB_no (tau_ne (dic_t hoc) (rfl : tau 145 = .inl 0) (fun h => by cases h)) (ac_ne (dic_c hoc) (rfl : acode 146 = 1) (by decide)))).2.1 x).trans (((fu_16 oc (pB_no (tau_ne (dic_t hoc) (rfl : tau 149 = .inl 0) (fun h => by cases h)) (ac_ne (dic_c hoc) (rfl : acode 150 = 1) (by decide)))).2.1 x).trans (((fu_9 oc (pB_no (tau_ne (dic_t hoc) (rfl : tau 147 = .inl 0) (fun h => by cases h)) (ac_ne (dic_c hoc) (rfl : acode 148 = 1) (by decide)))).2.1 x).trans ((fu_5 oc (pB_no (tau_ne (dic_t hoc) (rfl : tau 145 = .inl 0) (fun h => by cases h)) (ac_ne (dic_c hoc) (rfl : acode 146 = 1) (by decide)))).2.1 x)))] at h2); rw [h1, h2] at y; exact cmp_b xu_35.1 y)⟩ dX2_compareProducts_150
  · refine lv_aload_n hx hb dX2_compareProducts_8 rfl (lv_at hl 0 rfl) ?_
    refine lv_iload_n hx hb dX2_compareProducts_9 rfl (lv_at hl 2 rfl) ?_
    refine sBi (sV (As := [.int (iv b1)]) (rest := []) (k := 135) Cx (v_X2_isSmall l G S (a := b1) (oc := oc) (od := od) hI ⟨hoc, hod, (neD hcd), hec, hed⟩ (by omega)) (c_X2_167 Cx rfl rfl (rmk_ok (by omega) (by decide))) hW (by decide) rfl rfl rfl hl.1 rfl (Nat.le_of_ble_eq_true rfl) dX2_compareProducts_10 ⟨Nat.le_of_ble_eq_true rfl, Nat.le_of_ble_eq_true rfl⟩) hL (fun r_40 u_38 H locs k_39 hW hL => ?_)
    obtain ⟨eu_38, xu_38⟩ := k_39
    rw [eu_38] at hW
    refine r_if_eq (tgt := 60) hx hb ⟨(by omega), (by omega)⟩ dX2_compareProducts_13 (by decide) (fun c_41 => ?_) (fun c_41 => ?_)
    · refine lv_aload_n hx hb dX2_compareProducts_60 rfl (lv_at hl 0 rfl) ?_
      refine g_X2_38 Cx hW (k := 135) (by decide) rfl (v := .ref (G.2.2.1 + 145)) (rf_135_7 hI) dX2_compareProducts_61 ?_
      refine lv_aload_n hx hb dX2_compareProducts_64 rfl (lv_at hl 0 rfl) ?_
      refine g_X2_13 Cx hW (k := 135) (by decide) rfl (v := .ref (G.2.2.1 + oc)) hec dX2_compareProducts_65 ?_
      refine lv_iload_n hx hb dX2_compareProducts_68 rfl (lv_at hl 1 rfl) ?_
      refine sBv (sV (As := [.ref (G.2.2.1 + oc), .int (iv a)]) (rest := []) (k := 145) Cx (b_X0_load l G S (o := 145) (k := oc) (a := a) (N := 4816) hI rfl (dic_a hoc) (by omega)) (c_X2_106 Cx rfl rfl (rmk_ok (by omega) (by decide))) hW (by decide) rfl rfl rfl hl.1 rfl (Nat.le_of_ble_eq_true rfl) dX2_compareProducts_69 ⟨Nat.le_of_ble_eq_true rfl, Nat.le_of_ble_eq_true rfl⟩) hL (fun u_42 H locs k_43 hW hL => ?_)
      obtain ⟨iu_42, fu_42, xu_42⟩ := k_43
      have F_44 := (Fr.rf : Fr S S pGr).trans (fu_42.to (pB_sub rfl rfl))
      have yu_42 : u_42.1 145 1 ≤ 6 := by have e := xu_42.1; rw [dic_L hoc] at e; exact e
      have bv_45 : bv u_42 145 = nv (S.2.1 oc) a := xu_42.2.2.2.2.2.2.2.1
      replace xu_42 : Hd _ := xu_42
      refine lv_aload_n hx hb dX2_compareProducts_72 rfl (lv_at hl 0 rfl) ?_
      refine g_X2_41 Cx hW (k := 135) (by decide) rfl (v := .ref (G.2.2.1 + 147)) (rf_135_8 iu_42) dX2_compareProducts_73 ?_
      refine lv_aload_n hx hb dX2_compareProducts_76 rfl (lv_at hl 0 rfl) ?_
      refine g_X2_13 Cx hW (k := 135) (by decide) rfl (v := .ref (G.2.2.1 + oc)) (((fu_42 135 rfl).2.2.2 0).trans hec) dX2_compareProducts_77 ?_
      refine lv_iload_n hx hb dX2_compareProducts_80 rfl (lv_at hl 2 rfl) ?_
      refine sBv (sV (As := [.ref (G.2.2.1 + oc), .int (iv b1)]) (rest := []) (k := 147) Cx (b_X0_load l G u_42 (o := 147) (k := oc) (a := b1) (N := 4816) iu_42 rfl (dic_a hoc) (by omega)) (c_X2_106 Cx rfl rfl (rmk_ok (by omega) (by decide))) hW (by decide) rfl rfl rfl hl.1 rfl (Nat.le_of_ble_eq_true rfl) dX2_compareProducts_81 ⟨Nat.le_of_ble_eq_true rfl, Nat.le_of_ble_eq_true rfl⟩) hL (fun u_46 H locs k_47 hW hL => ?_)
      obtain ⟨iu_46, fu_46, xu_46⟩ := k_47
      have F_48 := F_44.trans (fu_46.to (pB_sub rfl rfl))
      have yu_46 : u_46.1 147 1 ≤ 6 := by have e := xu_46.1; rw [dic_L hoc] at e; exact e
      have bv_49 : bv u_46 147 = nv (u_42.2.1 oc) b1 := xu_46.2.2.2.2.2.2.2.1
      replace xu_46 : Hd _ := xu_46
      refine lv_aload_n hx hb dX2_compareProducts_84 rfl (lv_at hl 0 rfl) ?_
      refine g_X2_44 Cx hW (k := 135) (by decide) rfl (v := .ref (G.2.2.1 + 149)) (rf_135_9 iu_46) dX2_compareProducts_85 ?_
      refine lv_aload_n hx hb dX2_compareProducts_88 rfl (lv_at hl 0 rfl) ?_
      refine g_X2_38 Cx hW (k := 135) (by decide) rfl (v := .ref (G.2.2.1 + 145)) (rf_135_7 iu_46) dX2_compareProducts_89 ?_
      refine lv_aload_n hx hb dX2_compareProducts_92 rfl (lv_at hl 0 rfl) ?_
      refine g_X2_41 Cx hW (k := 135) (by decide) rfl (v := .ref (G.2.2.1 + 147)) (rf_135_8 iu_46) dX2_compareProducts_93 ?_
      have q_50 : 0 ≤ u_42.1 145 1 ∧ u_42.1 145 1 ≤ 32 := iu_42.fi 145 1 0 (by decide) rfl
      have lk_51 : u_46.1 145 1 = u_42.1 145 1 := (fu_46 145 rfl).1 1
      have q_52 : 0 ≤ u_46.1 147 1 ∧ u_46.1 147 1 ≤ 32 := iu_46.fi 147 1 0 (by decide) rfl
      refine sBv (sV (As := [.ref (G.2.2.1 + 145), .ref (G.2.2.1 + 147)]) (rest := []) (k := 149) Cx (b_X0_product l G u_46 (o := 149) (a := 145) (b := 147) iu_46 rfl rfl rfl (show (149 : Nat) ≠ 145 by decide) (show (149 : Nat) ≠ 147 by decide)) (c_X2_176 Cx rfl rfl (rmk_ok (by omega) (by decide))) hW (by decide) rfl rfl rfl hl.1 rfl (Nat.le_of_ble_eq_true rfl) dX2_compareProducts_96 ⟨Nat.le_of_ble_eq_true rfl, Nat.le_of_ble_eq_true rfl⟩) hL (fun u_53 H locs k_54 hW hL => ?_)
      obtain ⟨iu_53, fu_53, xu_53⟩ := k_54
      have F_55 := F_48.trans (fu_53.to (pB_sub rfl rfl))
      have bv_56 : bv u_53 149 = (nv (S.2.1 oc) a) * (nv (u_42.2.1 oc) b1) := (by have e : bv u_53 149 = _ := xu_53.2.1 (by omega); rw [(show bv u_46 145 = nv (S.2.1 oc) a from (bv_fr fu_46 rfl rfl).trans (bv_45)), (show bv u_46 147 = nv (u_42.2.1 oc) b1 from bv_49)] at e; exact e)
      refine lv_aload_n hx hb dX2_compareProducts_99 rfl (lv_at hl 0 rfl) ?_
      refine g_X2_38 Cx hW (k := 135) (by decide) rfl (v := .ref (G.2.2.1 + 145)) (rf_135_7 iu_53) dX2_compareProducts_100 ?_
      refine lv_aload_n hx hb dX2_compareProducts_103 rfl (lv_at hl 0 rfl) ?_
      refine g_X2_13 Cx hW (k := 135) (by decide) rfl (v := .ref (G.2.2.1 + oc)) ((((fu_53 135 rfl).2.2.2 0).trans (((fu_46 135 rfl).2.2.2 0).trans ((fu_42 135 rfl).2.2.2 0))).trans hec) dX2_compareProducts_104 ?_
      refine lv_iload_n hx hb dX2_compareProducts_107 rfl (lv_at hl 3 rfl) ?_
      refine sBv (sV (As := [.ref (G.2.2.1 + oc), .int (iv c1)]) (rest := []) (k := 145) Cx (b_X0_load l G u_53 (o := 145) (k := oc) (a := c1) (N := 4816) iu_53 rfl (dic_a hoc) (by omega)) (c_X2_106 Cx rfl rfl (rmk_ok (by omega) (by decide))) hW (by decide) rfl rfl rfl hl.1 rfl (Nat.le_of_ble_eq_true rfl) dX2_compareProducts_108 ⟨Nat.le_of_ble_eq_true rfl, Nat.le_of_ble_eq_true rfl⟩) hL (fun u_57 H locs k_58 hW hL => ?_)
      obtain ⟨iu_57, fu_57, xu_57⟩ := k_58
      have F_59 := F_55.trans (fu_57.to (pB_sub rfl rfl))
      have yu_57 : u_57.1 145 1 ≤ 6 := by have e := xu_57.1; rw [dic_L hoc] at e; exact e
      have bv_60 : bv u_57 145 = nv (u_53.2.1 oc) c1 := xu_57.2.2.2.2.2.2.2.1
      replace xu_57 : Hd _ := xu_57
      refine lv_aload_n hx hb dX2_compareProducts_111 rfl (lv_at hl 0 rfl) ?_
      refine g_X2_41 Cx hW (k := 135) (by decide) rfl (v := .ref (G.2.2.1 + 147)) (rf_135_8 iu_57) dX2_compareProducts_112 ?_
      refine lv_aload_n hx hb dX2_compareProducts_115 rfl (lv_at hl 0 rfl) ?_
      refine g_X2_13 Cx hW (k := 135) (by decide) rfl (v := .ref (G.2.2.1 + oc)) ((((fu_57 135 rfl).2.2.2 0).trans (((fu_53 135 rfl).2.2.2 0).trans (((fu_46 135 rfl).2.2.2 0).trans ((fu_42 135 rfl).2.2.2 0)))).trans hec) dX2_compareProducts_116 ?_
      refine lv_iload hx hb dX2_compareProducts_119 (lv_at hl 4 rfl) ?_
      refine sBv (sV (As := [.ref (G.2.2.1 + oc), .int (iv d1)]) (rest := []) (k := 147) Cx (b_X0_load l G u_57 (o := 147) (k := oc) (a := d1) (N := 4816) iu_57 rfl (dic_a hoc) (by omega)) (c_X2_106 Cx rfl rfl (rmk_ok (by omega) (by decide))) hW (by decide) rfl rfl rfl hl.1 rfl (Nat.le_of_ble_eq_true rfl) dX2_compareProducts_121 ⟨Nat.le_of_ble_eq_true rfl, Nat.le_of_ble_eq_true rfl⟩) hL (fun u_61 H locs k_62 hW hL => ?_)
      obtain ⟨iu_61, fu_61, xu_61⟩ := k_62
      have F_63 := F_59.trans (fu_61.to (pB_sub rfl rfl))
      have yu_61 : u_61.1 147 1 ≤ 6 := by have e := xu_61.1; rw [dic_L hoc] at e; exact e
      have bv_64 : bv u_61 147 = nv (u_57.2.1 oc) d1 := xu_61.2.2.2.2.2.2.2.1
      replace xu_61 : Hd _ := xu_61
      refine lv_aload_n hx hb dX2_compareProducts_124 rfl (lv_at hl 0 rfl) ?_
      refine g_X2_47 Cx hW (k := 135) (by decide) rfl (v := .ref (G.2.2.1 + 151)) (rf_135_10 iu_61) dX2_compareProducts_125 ?_
      refine lv_aload_n hx hb dX2_compareProducts_128 rfl (lv_at hl 0 rfl) ?_
      refine g_X2_38 Cx hW (k := 135) (by decide) rfl (v := .ref (G.2.2.1 + 145)) (rf_135_7 iu_61) dX2_compareProducts_129 ?_
      refine lv_aload_n hx hb dX2_compareProducts_132 rfl (lv_at hl 0 rfl) ?_
      refine g_X2_41 Cx hW (k := 135) (by decide) rfl (v := .ref (G.2.2.1 + 147)) (rf_135_8 iu_61) dX2_compareProducts_133 ?_
      have q_65 : 0 ≤ u_57.1 145 1 ∧ u_57.1 145 1 ≤ 32 := iu_57.fi 145 1 0 (by decide) rfl
      have lk_66 : u_61.1 145 1 = u_57.1 145 1 := (fu_61 145 rfl).1 1
      have q_67 : 0 ≤ u_61.1 147 1 ∧ u_61.1 147 1 ≤ 32 := iu_61.fi 147 1 0 (by decide) rfl
      refine sBv (sV (As := [.ref (G.2.2.1 + 145), .ref (G.2.2.1 + 147)]) (rest := []) (k := 151) Cx (b_X0_product l G u_61 (o := 151) (a := 145) (b := 147) iu_61 rfl rfl rfl (show (151 : Nat) ≠ 145 by decide) (show (151 : Nat) ≠ 147 by decide)) (c_X2_176 Cx rfl rfl (rmk_ok (by omega) (by decide))) hW (by decide) rfl rfl rfl hl.1 rfl (Nat.le_of_ble_eq_true rfl) dX2_compareProducts_136 ⟨Nat.le_of_ble_eq_true rfl, Nat.le_of_ble_eq_true rfl⟩) hL (fun u_68 H locs k_69 hW hL => ?_)
      obtain ⟨iu_68, fu_68, xu_68⟩ := k_69
      have F_70 := F_63.trans (fu_68.to (pB_sub rfl rfl))
      have bv_71 : bv u_68 151 = (nv (u_53.2.1 oc) c1) * (nv (u_57.2.1 oc) d1) := (by have e : bv u_68 151 = _ := xu_68.2.1 (by omega); rw [(show bv u_61 145 = nv (u_53.2.1 oc) c1 from (bv_fr fu_61 rfl rfl).trans (bv_60)), (show bv u_61 147 = nv (u_57.2.1 oc) d1 from bv_64)] at e; exact e)
      refine lv_aload_n hx hb dX2_compareProducts_139 rfl (lv_at hl 0 rfl) ?_
      refine g_X2_44 Cx hW (k := 135) (by decide) rfl (v := .ref (G.2.2.1 + 149)) (rf_135_9 iu_68) dX2_compareProducts_140 ?_
      refine lv_aload_n hx hb dX2_compareProducts_143 rfl (lv_at hl 0 rfl) ?_
      refine g_X2_47 Cx hW (k := 135) (by decide) rfl (v := .ref (G.2.2.1 + 151)) (rf_135_10 iu_68) dX2_compareProducts_144 ?_
      refine sBi (sV (As := [.ref (G.2.2.1 + 151)]) (rest := []) (k := 149) Cx (b_X0_compareWith l G u_68 (o := 149) (a := 151) iu_68 rfl rfl (show Hd (bs u_68 149) from (bs_fr fu_68 rfl (bs_fr fu_61 rfl (bs_fr fu_57 rfl xu_53.2.2)))) (show Hd (bs u_68 151) from xu_68.2.2)) (c_X2_180 Cx rfl rfl (rmk_ok (by omega) (by decide))) hW (by decide) rfl rfl rfl hl.1 rfl (Nat.le_of_ble_eq_true rfl) dX2_compareProducts_147 ⟨Nat.le_of_ble_eq_true rfl, Nat.le_of_ble_eq_true rfl⟩) hL (fun r_74 u_72 H locs k_73 hW hL => ?_)
      obtain ⟨eu_72, xu_72⟩ := k_73
      rw [eu_72] at hW
      exact sIret Cx hr hlk hW hL ⟨iu_68, F_70, (by have y := xu_72.2; have h1 := (show bv u_68 149 = (nv (S.2.1 oc) a) * (nv (u_42.2.1 oc) b1) from (bv_fr fu_68 rfl rfl).trans ((bv_fr fu_61 rfl rfl).trans ((bv_fr fu_57 rfl rfl).trans (bv_56)))); have h2 := (show bv u_68 151 = (nv (u_53.2.1 oc) c1) * (nv (u_57.2.1 oc) d1) from bv_71); (try rw [show u_42.2.1 oc = S.2.1 oc from funext fun x => (fu_42 oc (pB_no (tau_ne (dic_t hoc) (rfl : tau 145 = .inl 0) (fun h => by cases h)) (ac_ne (dic_c hoc) (rfl : acode 146 = 1) (by decide)))).2.1 x] at h1); (try rw [show u_42.2.1 oc = S.2.1 oc from funext fun x => (fu_42 oc (pB_no (tau_ne (dic_t hoc) (rfl : tau 145 = .inl 0) (fun h => by cases h)) (ac_ne (dic_c hoc) (rfl : acode 146 = 1) (by decide)))).2.1 x] at h2); (try rw [show u_53.2.1 oc = S.2.1 oc from funext fun x => ((fu_53 oc (pB_no (tau_ne (dic_t hoc) (rfl : tau 149 = .inl 0) (fun h => by cases h)) (ac_ne (dic_c hoc) (rfl : acode 150 = 1) (by decide)))).2.1 x).trans (((fu_46 oc (pB_no (tau_ne (dic_t hoc) (rfl : tau 147 = .inl 0) (fun h => by cases h)) (ac_ne (dic_c hoc) (rfl : acode 148 = 1) (by decide)))).2.1 x).trans ((fu_42 oc (pB_no (tau_ne (dic_t hoc) (rfl : tau 145 = .inl 0) (fun h => by cases h)) (ac_ne (dic_c hoc) (rfl : acode 146 = 1) (by decide)))).2.1 x))] at h1); (try rw [show u_53.2.1 oc = S.2.1 oc from funext fun x => ((fu_53 oc (pB_no (tau_ne (dic_t hoc) (rfl : tau 149 = .inl 0) (fun h => by cases h)) (ac_ne (dic_c hoc) (rfl : acode 150 = 1) (by decide)))).2.1 x).trans (((fu_46 oc (pB_no (tau_ne (dic_t hoc) (rfl : tau 147 = .inl 0) (fun h => by cases h)) (ac_ne (dic_c hoc) (rfl : acode 148 = 1) (by decide)))).2.1 x).trans ((fu_42 oc (pB_no (tau_ne (dic_t hoc) (rfl : tau 145 = .inl 0) (fun h => by cases h)) (ac_ne (dic_c hoc) (rfl : acode 146 = 1) (by decide)))).2.1 x))] at h2); (try rw [show u_57.2.1 oc = S.2.1 oc from funext fun x => ((fu_57 oc (pB_no (tau_ne (dic_t hoc) (rfl : tau 145 = .inl 0) (fun h => by cases h)) (ac_ne (dic_c hoc) (rfl : acode 146 = 1) (by decide)))).2.1 x).trans (((fu_53 oc (pB_no (tau_ne (dic_t hoc) (rfl : tau 149 = .inl 0) (fun h => by cases h)) (ac_ne (dic_c hoc) (rfl : acode 150 = 1) (by decide)))).2.1 x).trans (((fu_46 oc (pB_no (tau_ne (dic_t hoc) (rfl : tau 147 = .inl 0) (fun h => by cases h)) (ac_ne (dic_c hoc) (rfl : acode 148 = 1) (by decide)))).2.1 x).trans ((fu_42 oc (pB_no (tau_ne (dic_t hoc) (rfl : tau 145 = .inl 0) (fun h => by cases h)) (ac_ne (dic_c hoc) (rfl : acode 146 = 1) (by decide)))).2.1 x)))] at h1); (try rw [show u_57.2.1 oc = S.2.1 oc from funext fun x => ((fu_57 oc (pB_no (tau_ne (dic_t hoc) (rfl : tau 145 = .inl 0) (fun h => by cases h)) (ac_ne (dic_c hoc) (rfl : acode 146 = 1) (by decide)))).2.1 x).trans (((fu_53 oc (pB_no (tau_ne (dic_t hoc) (rfl : tau 149 = .inl 0) (fun h => by cases h)) (ac_ne (dic_c hoc) (rfl : acode 150 = 1) (by decide)))).2.1 x).trans (((fu_46 oc (pB_no (tau_ne (dic_t hoc) (rfl : tau 147 = .inl 0) (fun h => by cases h)) (ac_ne (dic_c hoc) (rfl : acode 148 = 1) (by decide)))).2.1 x).trans ((fu_42 oc (pB_no (tau_ne (dic_t hoc) (rfl : tau 145 = .inl 0) (fun h => by cases h)) (ac_ne (dic_c hoc) (rfl : acode 146 = 1) (by decide)))).2.1 x)))] at h2); rw [h1, h2] at y; exact cmp_b xu_72.1 y)⟩ dX2_compareProducts_150
    · refine lv_aload_n hx hb dX2_compareProducts_16 rfl (lv_at hl 0 rfl) ?_
      refine lv_iload_n hx hb dX2_compareProducts_17 rfl (lv_at hl 3 rfl) ?_
      refine sBi (sV (As := [.int (iv c1)]) (rest := []) (k := 135) Cx (v_X2_isSmall l G S (a := c1) (oc := oc) (od := od) hI ⟨hoc, hod, (neD hcd), hec, hed⟩ (by omega)) (c_X2_167 Cx rfl rfl (rmk_ok (by omega) (by decide))) hW (by decide) rfl rfl rfl hl.1 rfl (Nat.le_of_ble_eq_true rfl) dX2_compareProducts_18 ⟨Nat.le_of_ble_eq_true rfl, Nat.le_of_ble_eq_true rfl⟩) hL (fun r_77 u_75 H locs k_76 hW hL => ?_)
      obtain ⟨eu_75, xu_75⟩ := k_76
      rw [eu_75] at hW
      refine r_if_eq (tgt := 60) hx hb ⟨(by omega), (by omega)⟩ dX2_compareProducts_21 (by decide) (fun c_78 => ?_) (fun c_78 => ?_)
      · refine lv_aload_n hx hb dX2_compareProducts_60 rfl (lv_at hl 0 rfl) ?_
        refine g_X2_38 Cx hW (k := 135) (by decide) rfl (v := .ref (G.2.2.1 + 145)) (rf_135_7 hI) dX2_compareProducts_61 ?_
        refine lv_aload_n hx hb dX2_compareProducts_64 rfl (lv_at hl 0 rfl) ?_
        refine g_X2_13 Cx hW (k := 135) (by decide) rfl (v := .ref (G.2.2.1 + oc)) hec dX2_compareProducts_65 ?_
        refine lv_iload_n hx hb dX2_compareProducts_68 rfl (lv_at hl 1 rfl) ?_
        refine sBv (sV (As := [.ref (G.2.2.1 + oc), .int (iv a)]) (rest := []) (k := 145) Cx (b_X0_load l G S (o := 145) (k := oc) (a := a) (N := 4816) hI rfl (dic_a hoc) (by omega)) (c_X2_106 Cx rfl rfl (rmk_ok (by omega) (by decide))) hW (by decide) rfl rfl rfl hl.1 rfl (Nat.le_of_ble_eq_true rfl) dX2_compareProducts_69 ⟨Nat.le_of_ble_eq_true rfl, Nat.le_of_ble_eq_true rfl⟩) hL (fun u_79 H locs k_80 hW hL => ?_)
        obtain ⟨iu_79, fu_79, xu_79⟩ := k_80
        have F_81 := (Fr.rf : Fr S S pGr).trans (fu_79.to (pB_sub rfl rfl))
        have yu_79 : u_79.1 145 1 ≤ 6 := by have e := xu_79.1; rw [dic_L hoc] at e; exact e
        have bv_82 : bv u_79 145 = nv (S.2.1 oc) a := xu_79.2.2.2.2.2.2.2.1
        replace xu_79 : Hd _ := xu_79
        refine lv_aload_n hx hb dX2_compareProducts_72 rfl (lv_at hl 0 rfl) ?_
        refine g_X2_41 Cx hW (k := 135) (by decide) rfl (v := .ref (G.2.2.1 + 147)) (rf_135_8 iu_79) dX2_compareProducts_73 ?_
        refine lv_aload_n hx hb dX2_compareProducts_76 rfl (lv_at hl 0 rfl) ?_
        refine g_X2_13 Cx hW (k := 135) (by decide) rfl (v := .ref (G.2.2.1 + oc)) (((fu_79 135 rfl).2.2.2 0).trans hec) dX2_compareProducts_77 ?_
        refine lv_iload_n hx hb dX2_compareProducts_80 rfl (lv_at hl 2 rfl) ?_
        refine sBv (sV (As := [.ref (G.2.2.1 + oc), .int (iv b1)]) (rest := []) (k := 147) Cx (b_X0_load l G u_79 (o := 147) (k := oc) (a := b1) (N := 4816) iu_79 rfl (dic_a hoc) (by omega)) (c_X2_106 Cx rfl rfl (rmk_ok (by omega) (by decide))) hW (by decide) rfl rfl rfl hl.1 rfl (Nat.le_of_ble_eq_true rfl) dX2_compareProducts_81 ⟨Nat.le_of_ble_eq_true rfl, Nat.le_of_ble_eq_true rfl⟩) hL (fun u_83 H locs k_84 hW hL => ?_)
        obtain ⟨iu_83, fu_83, xu_83⟩ := k_84
        have F_85 := F_81.trans (fu_83.to (pB_sub rfl rfl))
        have yu_83 : u_83.1 147 1 ≤ 6 := by have e := xu_83.1; rw [dic_L hoc] at e; exact e
        have bv_86 : bv u_83 147 = nv (u_79.2.1 oc) b1 := xu_83.2.2.2.2.2.2.2.1
        replace xu_83 : Hd _ := xu_83
        refine lv_aload_n hx hb dX2_compareProducts_84 rfl (lv_at hl 0 rfl) ?_
        refine g_X2_44 Cx hW (k := 135) (by decide) rfl (v := .ref (G.2.2.1 + 149)) (rf_135_9 iu_83) dX2_compareProducts_85 ?_
        refine lv_aload_n hx hb dX2_compareProducts_88 rfl (lv_at hl 0 rfl) ?_
        refine g_X2_38 Cx hW (k := 135) (by decide) rfl (v := .ref (G.2.2.1 + 145)) (rf_135_7 iu_83) dX2_compareProducts_89 ?_
        refine lv_aload_n hx hb dX2_compareProducts_92 rfl (lv_at hl 0 rfl) ?_
        refine g_X2_41 Cx hW (k := 135) (by decide) rfl (v := .ref (G.2.2.1 + 147)) (rf_135_8 iu_83) dX2_compareProducts_93 ?_
        have q_87 : 0 ≤ u_79.1 145 1 ∧ u_79.1 145 1 ≤ 32 := iu_79.fi 145 1 0 (by decide) rfl
        have lk_88 : u_83.1 145 1 = u_79.1 145 1 := (fu_83 145 rfl).1 1
        have q_89 : 0 ≤ u_83.1 147 1 ∧ u_83.1 147 1 ≤ 32 := iu_83.fi 147 1 0 (by decide) rfl
        refine sBv (sV (As := [.ref (G.2.2.1 + 145), .ref (G.2.2.1 + 147)]) (rest := []) (k := 149) Cx (b_X0_product l G u_83 (o := 149) (a := 145) (b := 147) iu_83 rfl rfl rfl (show (149 : Nat) ≠ 145 by decide) (show (149 : Nat) ≠ 147 by decide)) (c_X2_176 Cx rfl rfl (rmk_ok (by omega) (by decide))) hW (by decide) rfl rfl rfl hl.1 rfl (Nat.le_of_ble_eq_true rfl) dX2_compareProducts_96 ⟨Nat.le_of_ble_eq_true rfl, Nat.le_of_ble_eq_true rfl⟩) hL (fun u_90 H locs k_91 hW hL => ?_)
        obtain ⟨iu_90, fu_90, xu_90⟩ := k_91
        have F_92 := F_85.trans (fu_90.to (pB_sub rfl rfl))
        have bv_93 : bv u_90 149 = (nv (S.2.1 oc) a) * (nv (u_79.2.1 oc) b1) := (by have e : bv u_90 149 = _ := xu_90.2.1 (by omega); rw [(show bv u_83 145 = nv (S.2.1 oc) a from (bv_fr fu_83 rfl rfl).trans (bv_82)), (show bv u_83 147 = nv (u_79.2.1 oc) b1 from bv_86)] at e; exact e)
        refine lv_aload_n hx hb dX2_compareProducts_99 rfl (lv_at hl 0 rfl) ?_
        refine g_X2_38 Cx hW (k := 135) (by decide) rfl (v := .ref (G.2.2.1 + 145)) (rf_135_7 iu_90) dX2_compareProducts_100 ?_
        refine lv_aload_n hx hb dX2_compareProducts_103 rfl (lv_at hl 0 rfl) ?_
        refine g_X2_13 Cx hW (k := 135) (by decide) rfl (v := .ref (G.2.2.1 + oc)) ((((fu_90 135 rfl).2.2.2 0).trans (((fu_83 135 rfl).2.2.2 0).trans ((fu_79 135 rfl).2.2.2 0))).trans hec) dX2_compareProducts_104 ?_
        refine lv_iload_n hx hb dX2_compareProducts_107 rfl (lv_at hl 3 rfl) ?_
        refine sBv (sV (As := [.ref (G.2.2.1 + oc), .int (iv c1)]) (rest := []) (k := 145) Cx (b_X0_load l G u_90 (o := 145) (k := oc) (a := c1) (N := 4816) iu_90 rfl (dic_a hoc) (by omega)) (c_X2_106 Cx rfl rfl (rmk_ok (by omega) (by decide))) hW (by decide) rfl rfl rfl hl.1 rfl (Nat.le_of_ble_eq_true rfl) dX2_compareProducts_108 ⟨Nat.le_of_ble_eq_true rfl, Nat.le_of_ble_eq_true rfl⟩) hL (fun u_94 H locs k_95 hW hL => ?_)
        obtain ⟨iu_94, fu_94, xu_94⟩ := k_95
        have F_96 := F_92.trans (fu_94.to (pB_sub rfl rfl))
        have yu_94 : u_94.1 145 1 ≤ 6 := by have e := xu_94.1; rw [dic_L hoc] at e; exact e
        have bv_97 : bv u_94 145 = nv (u_90.2.1 oc) c1 := xu_94.2.2.2.2.2.2.2.1
        replace xu_94 : Hd _ := xu_94
        refine lv_aload_n hx hb dX2_compareProducts_111 rfl (lv_at hl 0 rfl) ?_
        refine g_X2_41 Cx hW (k := 135) (by decide) rfl (v := .ref (G.2.2.1 + 147)) (rf_135_8 iu_94) dX2_compareProducts_112 ?_
        refine lv_aload_n hx hb dX2_compareProducts_115 rfl (lv_at hl 0 rfl) ?_
        refine g_X2_13 Cx hW (k := 135) (by decide) rfl (v := .ref (G.2.2.1 + oc)) ((((fu_94 135 rfl).2.2.2 0).trans (((fu_90 135 rfl).2.2.2 0).trans (((fu_83 135 rfl).2.2.2 0).trans ((fu_79 135 rfl).2.2.2 0)))).trans hec) dX2_compareProducts_116 ?_
        refine lv_iload hx hb dX2_compareProducts_119 (lv_at hl 4 rfl) ?_
        refine sBv (sV (As := [.ref (G.2.2.1 + oc), .int (iv d1)]) (rest := []) (k := 147) Cx (b_X0_load l G u_94 (o := 147) (k := oc) (a := d1) (N := 4816) iu_94 rfl (dic_a hoc) (by omega)) (c_X2_106 Cx rfl rfl (rmk_ok (by omega) (by decide))) hW (by decide) rfl rfl rfl hl.1 rfl (Nat.le_of_ble_eq_true rfl) dX2_compareProducts_121 ⟨Nat.le_of_ble_eq_true rfl, Nat.le_of_ble_eq_true rfl⟩) hL (fun u_98 H locs k_99 hW hL => ?_)
        obtain ⟨iu_98, fu_98, xu_98⟩ := k_99
        have F_100 := F_96.trans (fu_98.to (pB_sub rfl rfl))
        have yu_98 : u_98.1 147 1 ≤ 6 := by have e := xu_98.1; rw [dic_L hoc] at e; exact e
        have bv_101 : bv u_98 147 = nv (u_94.2.1 oc) d1 := xu_98.2.2.2.2.2.2.2.1
        replace xu_98 : Hd _ := xu_98
        refine lv_aload_n hx hb dX2_compareProducts_124 rfl (lv_at hl 0 rfl) ?_
        refine g_X2_47 Cx hW (k := 135) (by decide) rfl (v := .ref (G.2.2.1 + 151)) (rf_135_10 iu_98) dX2_compareProducts_125 ?_
        refine lv_aload_n hx hb dX2_compareProducts_128 rfl (lv_at hl 0 rfl) ?_
        refine g_X2_38 Cx hW (k := 135) (by decide) rfl (v := .ref (G.2.2.1 + 145)) (rf_135_7 iu_98) dX2_compareProducts_129 ?_
        refine lv_aload_n hx hb dX2_compareProducts_132 rfl (lv_at hl 0 rfl) ?_
        refine g_X2_41 Cx hW (k := 135) (by decide) rfl (v := .ref (G.2.2.1 + 147)) (rf_135_8 iu_98) dX2_compareProducts_133 ?_
        have q_102 : 0 ≤ u_94.1 145 1 ∧ u_94.1 145 1 ≤ 32 := iu_94.fi 145 1 0 (by decide) rfl
        have lk_103 : u_98.1 145 1 = u_94.1 145 1 := (fu_98 145 rfl).1 1
        have q_104 : 0 ≤ u_98.1 147 1 ∧ u_98.1 147 1 ≤ 32 := iu_98.fi 147 1 0 (by decide) rfl
        refine sBv (sV (As := [.ref (G.2.2.1 + 145), .ref (G.2.2.1 + 147)]) (rest := []) (k := 151) Cx (b_X0_product l G u_98 (o := 151) (a := 145) (b := 147) iu_98 rfl rfl rfl (show (151 : Nat) ≠ 145 by decide) (show (151 : Nat) ≠ 147 by decide)) (c_X2_176 Cx rfl rfl (rmk_ok (by omega) (by decide))) hW (by decide) rfl rfl rfl hl.1 rfl (Nat.le_of_ble_eq_true rfl) dX2_compareProducts_136 ⟨Nat.le_of_ble_eq_true rfl, Nat.le_of_ble_eq_true rfl⟩) hL (fun u_105 H locs k_106 hW hL => ?_)
        obtain ⟨iu_105, fu_105, xu_105⟩ := k_106
        have F_107 := F_100.trans (fu_105.to (pB_sub rfl rfl))
        have bv_108 : bv u_105 151 = (nv (u_90.2.1 oc) c1) * (nv (u_94.2.1 oc) d1) := (by have e : bv u_105 151 = _ := xu_105.2.1 (by omega); rw [(show bv u_98 145 = nv (u_90.2.1 oc) c1 from (bv_fr fu_98 rfl rfl).trans (bv_97)), (show bv u_98 147 = nv (u_94.2.1 oc) d1 from bv_101)] at e; exact e)
        refine lv_aload_n hx hb dX2_compareProducts_139 rfl (lv_at hl 0 rfl) ?_
        refine g_X2_44 Cx hW (k := 135) (by decide) rfl (v := .ref (G.2.2.1 + 149)) (rf_135_9 iu_105) dX2_compareProducts_140 ?_
        refine lv_aload_n hx hb dX2_compareProducts_143 rfl (lv_at hl 0 rfl) ?_
        refine g_X2_47 Cx hW (k := 135) (by decide) rfl (v := .ref (G.2.2.1 + 151)) (rf_135_10 iu_105) dX2_compareProducts_144 ?_
        refine sBi (sV (As := [.ref (G.2.2.1 + 151)]) (rest := []) (k := 149) Cx (b_X0_compareWith l G u_105 (o := 149) (a := 151) iu_105 rfl rfl (show Hd (bs u_105 149) from (bs_fr fu_105 rfl (bs_fr fu_98 rfl (bs_fr fu_94 rfl xu_90.2.2)))) (show Hd (bs u_105 151) from xu_105.2.2)) (c_X2_180 Cx rfl rfl (rmk_ok (by omega) (by decide))) hW (by decide) rfl rfl rfl hl.1 rfl (Nat.le_of_ble_eq_true rfl) dX2_compareProducts_147 ⟨Nat.le_of_ble_eq_true rfl, Nat.le_of_ble_eq_true rfl⟩) hL (fun r_111 u_109 H locs k_110 hW hL => ?_)
        obtain ⟨eu_109, xu_109⟩ := k_110
        rw [eu_109] at hW
        exact sIret Cx hr hlk hW hL ⟨iu_105, F_107, (by have y := xu_109.2; have h1 := (show bv u_105 149 = (nv (S.2.1 oc) a) * (nv (u_79.2.1 oc) b1) from (bv_fr fu_105 rfl rfl).trans ((bv_fr fu_98 rfl rfl).trans ((bv_fr fu_94 rfl rfl).trans (bv_93)))); have h2 := (show bv u_105 151 = (nv (u_90.2.1 oc) c1) * (nv (u_94.2.1 oc) d1) from bv_108); (try rw [show u_79.2.1 oc = S.2.1 oc from funext fun x => (fu_79 oc (pB_no (tau_ne (dic_t hoc) (rfl : tau 145 = .inl 0) (fun h => by cases h)) (ac_ne (dic_c hoc) (rfl : acode 146 = 1) (by decide)))).2.1 x] at h1); (try rw [show u_79.2.1 oc = S.2.1 oc from funext fun x => (fu_79 oc (pB_no (tau_ne (dic_t hoc) (rfl : tau 145 = .inl 0) (fun h => by cases h)) (ac_ne (dic_c hoc) (rfl : acode 146 = 1) (by decide)))).2.1 x] at h2); (try rw [show u_90.2.1 oc = S.2.1 oc from funext fun x => ((fu_90 oc (pB_no (tau_ne (dic_t hoc) (rfl : tau 149 = .inl 0) (fun h => by cases h)) (ac_ne (dic_c hoc) (rfl : acode 150 = 1) (by decide)))).2.1 x).trans (((fu_83 oc (pB_no (tau_ne (dic_t hoc) (rfl : tau 147 = .inl 0) (fun h => by cases h)) (ac_ne (dic_c hoc) (rfl : acode 148 = 1) (by decide)))).2.1 x).trans ((fu_79 oc (pB_no (tau_ne (dic_t hoc) (rfl : tau 145 = .inl 0) (fun h => by cases h)) (ac_ne (dic_c hoc) (rfl : acode 146 = 1) (by decide)))).2.1 x))] at h1); (try rw [show u_90.2.1 oc = S.2.1 oc from funext fun x => ((fu_90 oc (pB_no (tau_ne (dic_t hoc) (rfl : tau 149 = .inl 0) (fun h => by cases h)) (ac_ne (dic_c hoc) (rfl : acode 150 = 1) (by decide)))).2.1 x).trans (((fu_83 oc (pB_no (tau_ne (dic_t hoc) (rfl : tau 147 = .inl 0) (fun h => by cases h)) (ac_ne (dic_c hoc) (rfl : acode 148 = 1) (by decide)))).2.1 x).trans ((fu_79 oc (pB_no (tau_ne (dic_t hoc) (rfl : tau 145 = .inl 0) (fun h => by cases h)) (ac_ne (dic_c hoc) (rfl : acode 146 = 1) (by decide)))).2.1 x))] at h2); (try rw [show u_94.2.1 oc = S.2.1 oc from funext fun x => ((fu_94 oc (pB_no (tau_ne (dic_t hoc) (rfl : tau 145 = .inl 0) (fun h => by cases h)) (ac_ne (dic_c hoc) (rfl : acode 146 = 1) (by decide)))).2.1 x).trans (((fu_90 oc (pB_no (tau_ne (dic_t hoc) (rfl : tau 149 = .inl 0) (fun h => by cases h)) (ac_ne (dic_c hoc) (rfl : acode 150 = 1) (by decide)))).2.1 x).trans (((fu_83 oc (pB_no (tau_ne (dic_t hoc) (rfl : tau 147 = .inl 0) (fun h => by cases h)) (ac_ne (dic_c hoc) (rfl : acode 148 = 1) (by decide)))).2.1 x).trans ((fu_79 oc (pB_no (tau_ne (dic_t hoc) (rfl : tau 145 = .inl 0) (fun h => by cases h)) (ac_ne (dic_c hoc) (rfl : acode 146 = 1) (by decide)))).2.1 x)))] at h1); (try rw [show u_94.2.1 oc = S.2.1 oc from funext fun x => ((fu_94 oc (pB_no (tau_ne (dic_t hoc) (rfl : tau 145 = .inl 0) (fun h => by cases h)) (ac_ne (dic_c hoc) (rfl : acode 146 = 1) (by decide)))).2.1 x).trans (((fu_90 oc (pB_no (tau_ne (dic_t hoc) (rfl : tau 149 = .inl 0) (fun h => by cases h)) (ac_ne (dic_c hoc) (rfl : acode 150 = 1) (by decide)))).2.1 x).trans (((fu_83 oc (pB_no (tau_ne (dic_t hoc) (rfl : tau 147 = .inl 0) (fun h => by cases h)) (ac_ne (dic_c hoc) (rfl : acode 148 = 1) (by decide)))).2.1 x).trans ((fu_79 oc (pB_no (tau_ne (dic_t hoc) (rfl : tau 145 = .inl 0) (fun h => by cases h)) (ac_ne (dic_c hoc) (rfl : acode 146 = 1) (by decide)))).2.1 x)))] at h2); rw [h1, h2] at y; exact cmp_b xu_109.1 y)⟩ dX2_compareProducts_150
      · refine lv_aload_n hx hb dX2_compareProducts_24 rfl (lv_at hl 0 rfl) ?_
        refine lv_iload hx hb dX2_compareProducts_25 (lv_at hl 4 rfl) ?_
        refine sBi (sV (As := [.int (iv d1)]) (rest := []) (k := 135) Cx (v_X2_isSmall l G S (a := d1) (oc := oc) (od := od) hI ⟨hoc, hod, (neD hcd), hec, hed⟩ (by omega)) (c_X2_167 Cx rfl rfl (rmk_ok (by omega) (by decide))) hW (by decide) rfl rfl rfl hl.1 rfl (Nat.le_of_ble_eq_true rfl) dX2_compareProducts_27 ⟨Nat.le_of_ble_eq_true rfl, Nat.le_of_ble_eq_true rfl⟩) hL (fun r_114 u_112 H locs k_113 hW hL => ?_)
        obtain ⟨eu_112, xu_112⟩ := k_113
        rw [eu_112] at hW
        refine r_if_eq (tgt := 60) hx hb ⟨(by omega), (by omega)⟩ dX2_compareProducts_30 (by decide) (fun c_115 => ?_) (fun c_115 => ?_)
        · refine lv_aload_n hx hb dX2_compareProducts_60 rfl (lv_at hl 0 rfl) ?_
          refine g_X2_38 Cx hW (k := 135) (by decide) rfl (v := .ref (G.2.2.1 + 145)) (rf_135_7 hI) dX2_compareProducts_61 ?_
          refine lv_aload_n hx hb dX2_compareProducts_64 rfl (lv_at hl 0 rfl) ?_
          refine g_X2_13 Cx hW (k := 135) (by decide) rfl (v := .ref (G.2.2.1 + oc)) hec dX2_compareProducts_65 ?_
          refine lv_iload_n hx hb dX2_compareProducts_68 rfl (lv_at hl 1 rfl) ?_
          refine sBv (sV (As := [.ref (G.2.2.1 + oc), .int (iv a)]) (rest := []) (k := 145) Cx (b_X0_load l G S (o := 145) (k := oc) (a := a) (N := 4816) hI rfl (dic_a hoc) (by omega)) (c_X2_106 Cx rfl rfl (rmk_ok (by omega) (by decide))) hW (by decide) rfl rfl rfl hl.1 rfl (Nat.le_of_ble_eq_true rfl) dX2_compareProducts_69 ⟨Nat.le_of_ble_eq_true rfl, Nat.le_of_ble_eq_true rfl⟩) hL (fun u_116 H locs k_117 hW hL => ?_)
          obtain ⟨iu_116, fu_116, xu_116⟩ := k_117
          have F_118 := (Fr.rf : Fr S S pGr).trans (fu_116.to (pB_sub rfl rfl))
          have yu_116 : u_116.1 145 1 ≤ 6 := by have e := xu_116.1; rw [dic_L hoc] at e; exact e
          have bv_119 : bv u_116 145 = nv (S.2.1 oc) a := xu_116.2.2.2.2.2.2.2.1
          replace xu_116 : Hd _ := xu_116
          refine lv_aload_n hx hb dX2_compareProducts_72 rfl (lv_at hl 0 rfl) ?_
          refine g_X2_41 Cx hW (k := 135) (by decide) rfl (v := .ref (G.2.2.1 + 147)) (rf_135_8 iu_116) dX2_compareProducts_73 ?_
          refine lv_aload_n hx hb dX2_compareProducts_76 rfl (lv_at hl 0 rfl) ?_
          refine g_X2_13 Cx hW (k := 135) (by decide) rfl (v := .ref (G.2.2.1 + oc)) (((fu_116 135 rfl).2.2.2 0).trans hec) dX2_compareProducts_77 ?_
          refine lv_iload_n hx hb dX2_compareProducts_80 rfl (lv_at hl 2 rfl) ?_
          refine sBv (sV (As := [.ref (G.2.2.1 + oc), .int (iv b1)]) (rest := []) (k := 147) Cx (b_X0_load l G u_116 (o := 147) (k := oc) (a := b1) (N := 4816) iu_116 rfl (dic_a hoc) (by omega)) (c_X2_106 Cx rfl rfl (rmk_ok (by omega) (by decide))) hW (by decide) rfl rfl rfl hl.1 rfl (Nat.le_of_ble_eq_true rfl) dX2_compareProducts_81 ⟨Nat.le_of_ble_eq_true rfl, Nat.le_of_ble_eq_true rfl⟩) hL (fun u_120 H locs k_121 hW hL => ?_)
          obtain ⟨iu_120, fu_120, xu_120⟩ := k_121
          have F_122 := F_118.trans (fu_120.to (pB_sub rfl rfl))
          have yu_120 : u_120.1 147 1 ≤ 6 := by have e := xu_120.1; rw [dic_L hoc] at e; exact e
          have bv_123 : bv u_120 147 = nv (u_116.2.1 oc) b1 := xu_120.2.2.2.2.2.2.2.1
          replace xu_120 : Hd _ := xu_120
          refine lv_aload_n hx hb dX2_compareProducts_84 rfl (lv_at hl 0 rfl) ?_
          refine g_X2_44 Cx hW (k := 135) (by decide) rfl (v := .ref (G.2.2.1 + 149)) (rf_135_9 iu_120) dX2_compareProducts_85 ?_
          refine lv_aload_n hx hb dX2_compareProducts_88 rfl (lv_at hl 0 rfl) ?_
          refine g_X2_38 Cx hW (k := 135) (by decide) rfl (v := .ref (G.2.2.1 + 145)) (rf_135_7 iu_120) dX2_compareProducts_89 ?_
          refine lv_aload_n hx hb dX2_compareProducts_92 rfl (lv_at hl 0 rfl) ?_
          refine g_X2_41 Cx hW (k := 135) (by decide) rfl (v := .ref (G.2.2.1 + 147)) (rf_135_8 iu_120) dX2_compareProducts_93 ?_
          have q_124 : 0 ≤ u_116.1 145 1 ∧ u_116.1 145 1 ≤ 32 := iu_116.fi 145 1 0 (by decide) rfl
          have lk_125 : u_120.1 145 1 = u_116.1 145 1 := (fu_120 145 rfl).1 1
          have q_126 : 0 ≤ u_120.1 147 1 ∧ u_120.1 147 1 ≤ 32 := iu_120.fi 147 1 0 (by decide) rfl
          refine sBv (sV (As := [.ref (G.2.2.1 + 145), .ref (G.2.2.1 + 147)]) (rest := []) (k := 149) Cx (b_X0_product l G u_120 (o := 149) (a := 145) (b := 147) iu_120 rfl rfl rfl (show (149 : Nat) ≠ 145 by decide) (show (149 : Nat) ≠ 147 by decide)) (c_X2_176 Cx rfl rfl (rmk_ok (by omega) (by decide))) hW (by decide) rfl rfl rfl hl.1 rfl (Nat.le_of_ble_eq_true rfl) dX2_compareProducts_96 ⟨Nat.le_of_ble_eq_true rfl, Nat.le_of_ble_eq_true rfl⟩) hL (fun u_127 H locs k_128 hW hL => ?_)
          obtain ⟨iu_127, fu_127, xu_127⟩ := k_128
          have F_129 := F_122.trans (fu_127.to (pB_sub rfl rfl))
          have bv_130 : bv u_127 149 = (nv (S.2.1 oc) a) * (nv (u_116.2.1 oc) b1) := (by have e : bv u_127 149 = _ := xu_127.2.1 (by omega); rw [(show bv u_120 145 = nv (S.2.1 oc) a from (bv_fr fu_120 rfl rfl).trans (bv_119)), (show bv u_120 147 = nv (u_116.2.1 oc) b1 from bv_123)] at e; exact e)
          refine lv_aload_n hx hb dX2_compareProducts_99 rfl (lv_at hl 0 rfl) ?_
          refine g_X2_38 Cx hW (k := 135) (by decide) rfl (v := .ref (G.2.2.1 + 145)) (rf_135_7 iu_127) dX2_compareProducts_100 ?_
          refine lv_aload_n hx hb dX2_compareProducts_103 rfl (lv_at hl 0 rfl) ?_
          refine g_X2_13 Cx hW (k := 135) (by decide) rfl (v := .ref (G.2.2.1 + oc)) ((((fu_127 135 rfl).2.2.2 0).trans (((fu_120 135 rfl).2.2.2 0).trans ((fu_116 135 rfl).2.2.2 0))).trans hec) dX2_compareProducts_104 ?_
          refine lv_iload_n hx hb dX2_compareProducts_107 rfl (lv_at hl 3 rfl) ?_
          refine sBv (sV (As := [.ref (G.2.2.1 + oc), .int (iv c1)]) (rest := []) (k := 145) Cx (b_X0_load l G u_127 (o := 145) (k := oc) (a := c1) (N := 4816) iu_127 rfl (dic_a hoc) (by omega)) (c_X2_106 Cx rfl rfl (rmk_ok (by omega) (by decide))) hW (by decide) rfl rfl rfl hl.1 rfl (Nat.le_of_ble_eq_true rfl) dX2_compareProducts_108 ⟨Nat.le_of_ble_eq_true rfl, Nat.le_of_ble_eq_true rfl⟩) hL (fun u_131 H locs k_132 hW hL => ?_)
          obtain ⟨iu_131, fu_131, xu_131⟩ := k_132
          have F_133 := F_129.trans (fu_131.to (pB_sub rfl rfl))
          have yu_131 : u_131.1 145 1 ≤ 6 := by have e := xu_131.1; rw [dic_L hoc] at e; exact e
          have bv_134 : bv u_131 145 = nv (u_127.2.1 oc) c1 := xu_131.2.2.2.2.2.2.2.1
          replace xu_131 : Hd _ := xu_131
          refine lv_aload_n hx hb dX2_compareProducts_111 rfl (lv_at hl 0 rfl) ?_
          refine g_X2_41 Cx hW (k := 135) (by decide) rfl (v := .ref (G.2.2.1 + 147)) (rf_135_8 iu_131) dX2_compareProducts_112 ?_
          refine lv_aload_n hx hb dX2_compareProducts_115 rfl (lv_at hl 0 rfl) ?_
          refine g_X2_13 Cx hW (k := 135) (by decide) rfl (v := .ref (G.2.2.1 + oc)) ((((fu_131 135 rfl).2.2.2 0).trans (((fu_127 135 rfl).2.2.2 0).trans (((fu_120 135 rfl).2.2.2 0).trans ((fu_116 135 rfl).2.2.2 0)))).trans hec) dX2_compareProducts_116 ?_
          refine lv_iload hx hb dX2_compareProducts_119 (lv_at hl 4 rfl) ?_
          refine sBv (sV (As := [.ref (G.2.2.1 + oc), .int (iv d1)]) (rest := []) (k := 147) Cx (b_X0_load l G u_131 (o := 147) (k := oc) (a := d1) (N := 4816) iu_131 rfl (dic_a hoc) (by omega)) (c_X2_106 Cx rfl rfl (rmk_ok (by omega) (by decide))) hW (by decide) rfl rfl rfl hl.1 rfl (Nat.le_of_ble_eq_true rfl) dX2_compareProducts_121 ⟨Nat.le_of_ble_eq_true rfl, Nat.le_of_ble_eq_true rfl⟩) hL (fun u_135 H locs k_136 hW hL => ?_)
          obtain ⟨iu_135, fu_135, xu_135⟩ := k_136
          have F_137 := F_133.trans (fu_135.to (pB_sub rfl rfl))
          have yu_135 : u_135.1 147 1 ≤ 6 := by have e := xu_135.1; rw [dic_L hoc] at e; exact e
          have bv_138 : bv u_135 147 = nv (u_131.2.1 oc) d1 := xu_135.2.2.2.2.2.2.2.1
          replace xu_135 : Hd _ := xu_135
          refine lv_aload_n hx hb dX2_compareProducts_124 rfl (lv_at hl 0 rfl) ?_
          refine g_X2_47 Cx hW (k := 135) (by decide) rfl (v := .ref (G.2.2.1 + 151)) (rf_135_10 iu_135) dX2_compareProducts_125 ?_
          refine lv_aload_n hx hb dX2_compareProducts_128 rfl (lv_at hl 0 rfl) ?_
          refine g_X2_38 Cx hW (k := 135) (by decide) rfl (v := .ref (G.2.2.1 + 145)) (rf_135_7 iu_135) dX2_compareProducts_129 ?_
          refine lv_aload_n hx hb dX2_compareProducts_132 rfl (lv_at hl 0 rfl) ?_
          refine g_X2_41 Cx hW (k := 135) (by decide) rfl (v := .ref (G.2.2.1 + 147)) (rf_135_8 iu_135) dX2_compareProducts_133 ?_
          have q_139 : 0 ≤ u_131.1 145 1 ∧ u_131.1 145 1 ≤ 32 := iu_131.fi 145 1 0 (by decide) rfl
          have lk_140 : u_135.1 145 1 = u_131.1 145 1 := (fu_135 145 rfl).1 1
          have q_141 : 0 ≤ u_135.1 147 1 ∧ u_135.1 147 1 ≤ 32 := iu_135.fi 147 1 0 (by decide) rfl
          refine sBv (sV (As := [.ref (G.2.2.1 + 145), .ref (G.2.2.1 + 147)]) (rest := []) (k := 151) Cx (b_X0_product l G u_135 (o := 151) (a := 145) (b := 147) iu_135 rfl rfl rfl (show (151 : Nat) ≠ 145 by decide) (show (151 : Nat) ≠ 147 by decide)) (c_X2_176 Cx rfl rfl (rmk_ok (by omega) (by decide))) hW (by decide) rfl rfl rfl hl.1 rfl (Nat.le_of_ble_eq_true rfl) dX2_compareProducts_136 ⟨Nat.le_of_ble_eq_true rfl, Nat.le_of_ble_eq_true rfl⟩) hL (fun u_142 H locs k_143 hW hL => ?_)
          obtain ⟨iu_142, fu_142, xu_142⟩ := k_143
          have F_144 := F_137.trans (fu_142.to (pB_sub rfl rfl))
          have bv_145 : bv u_142 151 = (nv (u_127.2.1 oc) c1) * (nv (u_131.2.1 oc) d1) := (by have e : bv u_142 151 = _ := xu_142.2.1 (by omega); rw [(show bv u_135 145 = nv (u_127.2.1 oc) c1 from (bv_fr fu_135 rfl rfl).trans (bv_134)), (show bv u_135 147 = nv (u_131.2.1 oc) d1 from bv_138)] at e; exact e)
          refine lv_aload_n hx hb dX2_compareProducts_139 rfl (lv_at hl 0 rfl) ?_
          refine g_X2_44 Cx hW (k := 135) (by decide) rfl (v := .ref (G.2.2.1 + 149)) (rf_135_9 iu_142) dX2_compareProducts_140 ?_
          refine lv_aload_n hx hb dX2_compareProducts_143 rfl (lv_at hl 0 rfl) ?_
          refine g_X2_47 Cx hW (k := 135) (by decide) rfl (v := .ref (G.2.2.1 + 151)) (rf_135_10 iu_142) dX2_compareProducts_144 ?_
          refine sBi (sV (As := [.ref (G.2.2.1 + 151)]) (rest := []) (k := 149) Cx (b_X0_compareWith l G u_142 (o := 149) (a := 151) iu_142 rfl rfl (show Hd (bs u_142 149) from (bs_fr fu_142 rfl (bs_fr fu_135 rfl (bs_fr fu_131 rfl xu_127.2.2)))) (show Hd (bs u_142 151) from xu_142.2.2)) (c_X2_180 Cx rfl rfl (rmk_ok (by omega) (by decide))) hW (by decide) rfl rfl rfl hl.1 rfl (Nat.le_of_ble_eq_true rfl) dX2_compareProducts_147 ⟨Nat.le_of_ble_eq_true rfl, Nat.le_of_ble_eq_true rfl⟩) hL (fun r_148 u_146 H locs k_147 hW hL => ?_)
          obtain ⟨eu_146, xu_146⟩ := k_147
          rw [eu_146] at hW
          exact sIret Cx hr hlk hW hL ⟨iu_142, F_144, (by have y := xu_146.2; have h1 := (show bv u_142 149 = (nv (S.2.1 oc) a) * (nv (u_116.2.1 oc) b1) from (bv_fr fu_142 rfl rfl).trans ((bv_fr fu_135 rfl rfl).trans ((bv_fr fu_131 rfl rfl).trans (bv_130)))); have h2 := (show bv u_142 151 = (nv (u_127.2.1 oc) c1) * (nv (u_131.2.1 oc) d1) from bv_145); (try rw [show u_116.2.1 oc = S.2.1 oc from funext fun x => (fu_116 oc (pB_no (tau_ne (dic_t hoc) (rfl : tau 145 = .inl 0) (fun h => by cases h)) (ac_ne (dic_c hoc) (rfl : acode 146 = 1) (by decide)))).2.1 x] at h1); (try rw [show u_116.2.1 oc = S.2.1 oc from funext fun x => (fu_116 oc (pB_no (tau_ne (dic_t hoc) (rfl : tau 145 = .inl 0) (fun h => by cases h)) (ac_ne (dic_c hoc) (rfl : acode 146 = 1) (by decide)))).2.1 x] at h2); (try rw [show u_127.2.1 oc = S.2.1 oc from funext fun x => ((fu_127 oc (pB_no (tau_ne (dic_t hoc) (rfl : tau 149 = .inl 0) (fun h => by cases h)) (ac_ne (dic_c hoc) (rfl : acode 150 = 1) (by decide)))).2.1 x).trans (((fu_120 oc (pB_no (tau_ne (dic_t hoc) (rfl : tau 147 = .inl 0) (fun h => by cases h)) (ac_ne (dic_c hoc) (rfl : acode 148 = 1) (by decide)))).2.1 x).trans ((fu_116 oc (pB_no (tau_ne (dic_t hoc) (rfl : tau 145 = .inl 0) (fun h => by cases h)) (ac_ne (dic_c hoc) (rfl : acode 146 = 1) (by decide)))).2.1 x))] at h1); (try rw [show u_127.2.1 oc = S.2.1 oc from funext fun x => ((fu_127 oc (pB_no (tau_ne (dic_t hoc) (rfl : tau 149 = .inl 0) (fun h => by cases h)) (ac_ne (dic_c hoc) (rfl : acode 150 = 1) (by decide)))).2.1 x).trans (((fu_120 oc (pB_no (tau_ne (dic_t hoc) (rfl : tau 147 = .inl 0) (fun h => by cases h)) (ac_ne (dic_c hoc) (rfl : acode 148 = 1) (by decide)))).2.1 x).trans ((fu_116 oc (pB_no (tau_ne (dic_t hoc) (rfl : tau 145 = .inl 0) (fun h => by cases h)) (ac_ne (dic_c hoc) (rfl : acode 146 = 1) (by decide)))).2.1 x))] at h2); (try rw [show u_131.2.1 oc = S.2.1 oc from funext fun x => ((fu_131 oc (pB_no (tau_ne (dic_t hoc) (rfl : tau 145 = .inl 0) (fun h => by cases h)) (ac_ne (dic_c hoc) (rfl : acode 146 = 1) (by decide)))).2.1 x).trans (((fu_127 oc (pB_no (tau_ne (dic_t hoc) (rfl : tau 149 = .inl 0) (fun h => by cases h)) (ac_ne (dic_c hoc) (rfl : acode 150 = 1) (by decide)))).2.1 x).trans (((fu_120 oc (pB_no (tau_ne (dic_t hoc) (rfl : tau 147 = .inl 0) (fun h => by cases h)) (ac_ne (dic_c hoc) (rfl : acode 148 = 1) (by decide)))).2.1 x).trans ((fu_116 oc (pB_no (tau_ne (dic_t hoc) (rfl : tau 145 = .inl 0) (fun h => by cases h)) (ac_ne (dic_c hoc) (rfl : acode 146 = 1) (by decide)))).2.1 x)))] at h1); (try rw [show u_131.2.1 oc = S.2.1 oc from funext fun x => ((fu_131 oc (pB_no (tau_ne (dic_t hoc) (rfl : tau 145 = .inl 0) (fun h => by cases h)) (ac_ne (dic_c hoc) (rfl : acode 146 = 1) (by decide)))).2.1 x).trans (((fu_127 oc (pB_no (tau_ne (dic_t hoc) (rfl : tau 149 = .inl 0) (fun h => by cases h)) (ac_ne (dic_c hoc) (rfl : acode 150 = 1) (by decide)))).2.1 x).trans (((fu_120 oc (pB_no (tau_ne (dic_t hoc) (rfl : tau 147 = .inl 0) (fun h => by cases h)) (ac_ne (dic_c hoc) (rfl : acode 148 = 1) (by decide)))).2.1 x).trans ((fu_116 oc (pB_no (tau_ne (dic_t hoc) (rfl : tau 145 = .inl 0) (fun h => by cases h)) (ac_ne (dic_c hoc) (rfl : acode 146 = 1) (by decide)))).2.1 x)))] at h2); rw [h1, h2] at y; exact cmp_b xu_146.1 y)⟩ dX2_compareProducts_150
        · refine lv_aload_n hx hb dX2_compareProducts_33 rfl (lv_at hl 0 rfl) ?_
          refine lv_iload_n hx hb dX2_compareProducts_34 rfl (lv_at hl 1 rfl) ?_
          refine sBl (sV (As := [.int (iv a)]) (rest := []) (k := 135) Cx (v_X2_small l G S (a := a) (oc := oc) (od := od) hI ⟨hoc, hod, (neD hcd), hec, hed⟩ (by omega)) (c_X2_150 Cx rfl rfl (rmk_ok (by omega) (by decide))) hW (by decide) rfl rfl rfl hl.1 rfl (Nat.le_of_ble_eq_true rfl) dX2_compareProducts_35 ⟨Nat.le_of_ble_eq_true rfl, Nat.le_of_ble_eq_true rfl⟩) hL (fun r_151 u_149 H locs k_150 hW hL => ?_)
          obtain ⟨eu_149, xu_149⟩ := k_150
          rw [eu_149] at hW
          replace xu_149 := And.intro (xu_149.2.2.1 (by omega) (by omega)) (xu_149.2.2.2 (by omega) (by omega))
          refine lv_aload_n hx hb dX2_compareProducts_38 rfl (lv_at hl 0 rfl) ?_
          refine lv_iload_n hx hb dX2_compareProducts_39 rfl (lv_at hl 2 rfl) ?_
          refine sBl (sV (As := [.int (iv b1)]) (rest := [.long (jv r_151)]) (k := 135) Cx (v_X2_small l G S (a := b1) (oc := oc) (od := od) hI ⟨hoc, hod, (neD hcd), hec, hed⟩ (by omega)) (c_X2_150 Cx rfl rfl (rmk_ok (by omega) (by decide))) hW (by decide) rfl rfl rfl hl.1 rfl (Nat.le_of_ble_eq_true rfl) dX2_compareProducts_40 ⟨Nat.le_of_ble_eq_true rfl, Nat.le_of_ble_eq_true rfl⟩) hL (fun r_154 u_152 H locs k_153 hW hL => ?_)
          obtain ⟨eu_152, xu_152⟩ := k_153
          rw [eu_152] at hW
          replace xu_152 := And.intro (xu_152.2.2.1 (by omega) (by omega)) (xu_152.2.2.2 (by omega) (by omega))
          refine r_lmul hx hb dX2_compareProducts_43 ?_
          obtain ⟨p1, ep1⟩ : ∃ z : Int, z = r_151 * r_154 := ⟨_, rfl⟩
          refine r_j (b := p1) ep1.symm ?_
          have hp1 : -(999999999 * 999999999) ≤ p1 ∧ p1 ≤ 999999999 * 999999999 := by rw [ep1]; exact mulB (by omega) (by omega)
          refine lv_aload_n hx hb dX2_compareProducts_44 rfl (lv_at hl 0 rfl) ?_
          refine lv_iload_n hx hb dX2_compareProducts_45 rfl (lv_at hl 3 rfl) ?_
          refine sBl (sV (As := [.int (iv c1)]) (rest := [.long (jv p1)]) (k := 135) Cx (v_X2_small l G S (a := c1) (oc := oc) (od := od) hI ⟨hoc, hod, (neD hcd), hec, hed⟩ (by omega)) (c_X2_150 Cx rfl rfl (rmk_ok (by omega) (by decide))) hW (by decide) rfl rfl rfl hl.1 rfl (Nat.le_of_ble_eq_true rfl) dX2_compareProducts_46 ⟨Nat.le_of_ble_eq_true rfl, Nat.le_of_ble_eq_true rfl⟩) hL (fun r_157 u_155 H locs k_156 hW hL => ?_)
          obtain ⟨eu_155, xu_155⟩ := k_156
          rw [eu_155] at hW
          replace xu_155 := And.intro (xu_155.2.2.1 (by omega) (by omega)) (xu_155.2.2.2 (by omega) (by omega))
          refine lv_aload_n hx hb dX2_compareProducts_49 rfl (lv_at hl 0 rfl) ?_
          refine lv_iload hx hb dX2_compareProducts_50 (lv_at hl 4 rfl) ?_
          refine sBl (sV (As := [.int (iv d1)]) (rest := [.long (jv r_157), .long (jv p1)]) (k := 135) Cx (v_X2_small l G S (a := d1) (oc := oc) (od := od) hI ⟨hoc, hod, (neD hcd), hec, hed⟩ (by omega)) (c_X2_150 Cx rfl rfl (rmk_ok (by omega) (by decide))) hW (by decide) rfl rfl rfl hl.1 rfl (Nat.le_of_ble_eq_true rfl) dX2_compareProducts_52 ⟨Nat.le_of_ble_eq_true rfl, Nat.le_of_ble_eq_true rfl⟩) hL (fun r_160 u_158 H locs k_159 hW hL => ?_)
          obtain ⟨eu_158, xu_158⟩ := k_159
          rw [eu_158] at hW
          replace xu_158 := And.intro (xu_158.2.2.1 (by omega) (by omega)) (xu_158.2.2.2 (by omega) (by omega))
          refine r_lmul hx hb dX2_compareProducts_55 ?_
          obtain ⟨p2, ep2⟩ : ∃ z : Int, z = r_157 * r_160 := ⟨_, rfl⟩
          refine r_j (b := p2) ep2.symm ?_
          have hp2 : -(999999999 * 999999999) ≤ p2 ∧ p2 ≤ 999999999 * 999999999 := by rw [ep2]; exact mulB (by omega) (by omega)
          refine sBi (sSt (As := [.long (jv p1), .long (jv p2)]) (rest := []) Cx (t_J13_compare_74951 l G S (a := p1) (b := p2) (by omega) (by omega)) (c_X2_170 Cx rfl rfl (rmk_ok (by omega) (by decide))) hW rfl hl.1 rfl (Nat.le_of_ble_eq_true rfl) dX2_compareProducts_56 ⟨Nat.le_of_ble_eq_true rfl, Nat.le_of_ble_eq_true rfl⟩) hL (fun r_163 u_161 H locs k_162 hW hL => ?_)
          obtain ⟨eu_161, xu_161⟩ := k_162
          rw [eu_161] at hW
          exact sIret Cx hr hlk hW hL ⟨hI, (Fr.rf : Fr S S pGr), (by have y := xu_161; rw [ep1, ep2, xu_149.2, xu_152.2, xu_155.2, xu_158.2] at y; exact cmp_s y)⟩ dX2_compareProducts_59

set_option maxRecDepth 100000 in
set_option maxHeartbeats 4000000 in
theorem v_X2_leavesAhead (l : Launch) (G : sG) (S : sS) {oc od : Nat} {n hw : Int} {d : dT} {i : Int} (hI : cX G S 0 0 0) (hdq : dcs G S oc od) (hDR : Hd (DRc S oc n hw d)) (hrc : (1 ≤ S.1 135 17 ∧ S.1 135 17 ≤ d.2.2.2.2.1) ∧ 1 ≤ S.1 135 18 ∧ S.1 135 18 ≤ d.2.2.2.2.2) (hi : 1 ≤ i ∧ i ≤ d.2.2.2.2.1) : Met l yX2_leavesAhead (.code yX2_leavesAhead cX2_leavesAhead 3 (some .boolean) :: tb) (rmk 5 0 0) (sPc G 294 S [.ref (G.2.2.1 + 135), .int (iv i)]) (sQi G 294 (fun r u => cX G u 0 0 0 ∧ Fr S u pGr ∧ (0 ≤ r ∧ r ≤ 1 ∧ (r = 1 ↔ ltU d (S.1 135 18) i (S.1 135 17))))) 0 0 (sF G) := by
  refine sEnter (by decide) (Nat.le_of_ble_eq_true rfl) ?_
  intro p e s m args below meth c Cx hr hlk hnm hW ls hl
  have Cx : sC G p m c cX2_leavesAhead 3 s args RX2 := Cx
  obtain ⟨hx, hb, hml, hown, hts⟩ := id Cx.1
  have hL : sL G [] := sL_nil
  have hl : lv_has ls 3 [(0, .ref (G.2.2.1 + 135)), (1, .int (iv i))] := hl
  have hW0 := hW
  obtain ⟨hoc, hod, hcd, hec, hed⟩ := id hdq
  have hd13 := hDR.2.2.2.2.1; have hd14 := hDR.2.2.2.2.2.1; have hd15 := hDR.2.2.2.2.2.2.1; have hd16 := hDR.2.2.2.2.2.2.2; have hm40 : 0 ≤ S.1 135 14 ∧ S.1 135 14 ≤ 40 := hI.fi 135 14 2 (by decide) rfl; have hp13 : 0 ≤ S.1 135 15 ∧ S.1 135 15 ≤ 13 := hI.fi 135 15 2 (by decide) rfl
  refine lv_aload_n hx hb dX2_leavesAhead_0 rfl (lv_at hl 0 rfl) ?_
  refine lv_iload_n hx hb dX2_leavesAhead_1 rfl (lv_at hl 1 rfl) ?_
  refine lv_iconst (v := iv 0) hx hb dX2_leavesAhead_2 (by decide) ?_
  refine sBi (sSt (As := [.int (iv i), .int (iv 0)]) (rest := [.ref (G.2.2.1 + 135)]) Cx (s_X2_at l G S (i := i) (j := 0) (by omega) (by omega)) (c_X2_77 Cx rfl rfl (rmk_ok (by omega) (by decide))) hW rfl hl.1 rfl (Nat.le_of_ble_eq_true rfl) dX2_leavesAhead_3 ⟨Nat.le_of_ble_eq_true rfl, Nat.le_of_ble_eq_true rfl⟩) hL (fun r_3 u_1 H locs k_2 hW hL => ?_)
  obtain ⟨eu_1, xu_1⟩ := k_2
  rw [eu_1] at hW
  refine lv_aload_n hx hb dX2_leavesAhead_6 rfl (lv_at hl 0 rfl) ?_
  have q_4 : (-1) ≤ S.1 135 17 ∧ S.1 135 17 ≤ 40 := hI.fi 135 17 2 (by decide) rfl
  refine g_X2_147 Cx hW (k := 135) (by decide) rfl (v := S.1 135 17) rfl dX2_leavesAhead_7 ?_
  refine lv_aload_n hx hb dX2_leavesAhead_10 rfl (lv_at hl 0 rfl) ?_
  have q_5 : (-1) ≤ S.1 135 18 ∧ S.1 135 18 ≤ 13 := hI.fi 135 18 2 (by decide) rfl
  refine g_X2_131 Cx hW (k := 135) (by decide) rfl (v := S.1 135 18) rfl dX2_leavesAhead_11 ?_
  refine sBi (sSt (As := [.int (iv (S.1 135 17)), .int (iv (S.1 135 18))]) (rest := [.int (iv r_3), .ref (G.2.2.1 + 135)]) Cx (s_X2_at l G S (i := S.1 135 17) (j := S.1 135 18) (by omega) (by omega)) (c_X2_77 Cx rfl rfl (rmk_ok (by omega) (by decide))) hW rfl hl.1 rfl (Nat.le_of_ble_eq_true rfl) dX2_leavesAhead_14 ⟨Nat.le_of_ble_eq_true rfl, Nat.le_of_ble_eq_true rfl⟩) hL (fun r_8 u_6 H locs k_7 hW hL => ?_)
  obtain ⟨eu_6, xu_6⟩ := k_7
  rw [eu_6] at hW
  refine lv_aload_n hx hb dX2_leavesAhead_17 rfl (lv_at hl 0 rfl) ?_
  refine g_X2_147 Cx hW (k := 135) (by decide) rfl (v := S.1 135 17) rfl dX2_leavesAhead_18 ?_
  refine lv_iconst (v := iv 0) hx hb dX2_leavesAhead_21 (by decide) ?_
  refine sBi (sSt (As := [.int (iv (S.1 135 17)), .int (iv 0)]) (rest := [.int (iv r_8), .int (iv r_3), .ref (G.2.2.1 + 135)]) Cx (s_X2_at l G S (i := S.1 135 17) (j := 0) (by omega) (by omega)) (c_X2_77 Cx rfl rfl (rmk_ok (by omega) (by decide))) hW rfl hl.1 rfl (Nat.le_of_ble_eq_true rfl) dX2_leavesAhead_22 ⟨Nat.le_of_ble_eq_true rfl, Nat.le_of_ble_eq_true rfl⟩) hL (fun r_11 u_9 H locs k_10 hW hL => ?_)
  obtain ⟨eu_9, xu_9⟩ := k_10
  rw [eu_9] at hW
  refine lv_iload_n hx hb dX2_leavesAhead_25 rfl (lv_at hl 1 rfl) ?_
  refine lv_aload_n hx hb dX2_leavesAhead_26 rfl (lv_at hl 0 rfl) ?_
  refine g_X2_131 Cx hW (k := 135) (by decide) rfl (v := S.1 135 18) rfl dX2_leavesAhead_27 ?_
  refine sBi (sSt (As := [.int (iv i), .int (iv (S.1 135 18))]) (rest := [.int (iv r_11), .int (iv r_8), .int (iv r_3), .ref (G.2.2.1 + 135)]) Cx (s_X2_at l G S (i := i) (j := S.1 135 18) (by omega) (by omega)) (c_X2_77 Cx rfl rfl (rmk_ok (by omega) (by decide))) hW rfl hl.1 rfl (Nat.le_of_ble_eq_true rfl) dX2_leavesAhead_30 ⟨Nat.le_of_ble_eq_true rfl, Nat.le_of_ble_eq_true rfl⟩) hL (fun r_14 u_12 H locs k_13 hW hL => ?_)
  obtain ⟨eu_12, xu_12⟩ := k_13
  rw [eu_12] at hW
  refine sBi (sV (As := [.int (iv r_3), .int (iv r_8), .int (iv r_11), .int (iv r_14)]) (rest := []) (k := 135) Cx (v_X2_compareProducts l G S (a := r_3) (b1 := r_8) (c1 := r_11) (d1 := r_14) (oc := oc) (od := od) hI ⟨hoc, hod, (neD hcd), hec, hed⟩ (by omega) (by omega) (by omega) (by omega)) (c_X2_160 Cx rfl rfl (rmk_ok (by omega) (by decide))) hW (by decide) rfl rfl rfl hl.1 rfl (Nat.le_of_ble_eq_true rfl) dX2_leavesAhead_33 ⟨Nat.le_of_ble_eq_true rfl, Nat.le_of_ble_eq_true rfl⟩) hL (fun r_17 u_15 H locs k_16 hW hL => ?_)
  obtain ⟨iu_15, fu_15, xu_15⟩ := k_16
  have F_18 := (Fr.rf : Fr S S pGr).trans fu_15
  refine lv_istore_n (lv' := [(2, .int (iv r_17)), (0, .ref (G.2.2.1 + 135)), (1, .int (iv i))]) hx hb dX2_leavesAhead_36 rfl hl (by decide) rfl (fun ls hl => ?_)
  refine lv_iload_n hx hb dX2_leavesAhead_37 rfl (lv_at hl 0 rfl) ?_
  refine r_if_lt (tgt := 63) hx hb ⟨(by omega), (by omega)⟩ dX2_leavesAhead_38 (by decide) (fun c_19 => ?_) (fun c_19 => ?_)
  · refine lv_iconst (v := iv 1) hx hb dX2_leavesAhead_63 (by decide) ?_
    refine lv_goto (tgt := 68) hx hb dX2_leavesAhead_64 (by decide) ?_
    exact sZret Cx hr hlk hW hL (by omega) ⟨iu_15, F_18, (by have y := xu_15.2.2; rw [(show nv (S.2.1 oc) r_3 = d.2.1 i 0 by rw [show r_3 = (i + 2) * 112 + 0 * 8 by omega]; exact hDR.2.1 i 0 (by omega) (by omega) (by omega) (by omega) (by omega)), (show nv (S.2.1 oc) r_8 = d.2.1 (S.1 135 17) (S.1 135 18) by rw [show r_8 = (S.1 135 17 + 2) * 112 + S.1 135 18 * 8 by omega]; exact hDR.2.1 (S.1 135 17) (S.1 135 18) (by omega) (by omega) (by omega) (by omega) (by omega)), (show nv (S.2.1 oc) r_11 = d.2.1 (S.1 135 17) 0 by rw [show r_11 = (S.1 135 17 + 2) * 112 + 0 * 8 by omega]; exact hDR.2.1 (S.1 135 17) 0 (by omega) (by omega) (by omega) (by omega) (by omega)), (show nv (S.2.1 oc) r_14 = d.2.1 i (S.1 135 18) by rw [show r_14 = (i + 2) * 112 + S.1 135 18 * 8 by omega]; exact hDR.2.1 i (S.1 135 18) (by omega) (by omega) (by omega) (by omega) (by omega))] at y; have e1 := hDR.2.2.1 i (by omega) (by omega); have e2 := hDR.2.2.1 (S.1 135 17) (by omega) (by omega); refine ⟨by omega, by omega, ?_⟩; unfold ltU; omega)⟩ dX2_leavesAhead_68
  · refine lv_iload_n hx hb dX2_leavesAhead_41 rfl (lv_at hl 0 rfl) ?_
    refine r_if_ne (tgt := 67) hx hb ⟨(by omega), (by omega)⟩ dX2_leavesAhead_42 (by decide) (fun c_20 => ?_) (fun c_20 => ?_)
    · refine lv_iconst (v := iv 0) hx hb dX2_leavesAhead_67 (by decide) ?_
      exact sZret Cx hr hlk hW hL (by omega) ⟨iu_15, F_18, (by have y := xu_15.2.2; rw [(show nv (S.2.1 oc) r_3 = d.2.1 i 0 by rw [show r_3 = (i + 2) * 112 + 0 * 8 by omega]; exact hDR.2.1 i 0 (by omega) (by omega) (by omega) (by omega) (by omega)), (show nv (S.2.1 oc) r_8 = d.2.1 (S.1 135 17) (S.1 135 18) by rw [show r_8 = (S.1 135 17 + 2) * 112 + S.1 135 18 * 8 by omega]; exact hDR.2.1 (S.1 135 17) (S.1 135 18) (by omega) (by omega) (by omega) (by omega) (by omega)), (show nv (S.2.1 oc) r_11 = d.2.1 (S.1 135 17) 0 by rw [show r_11 = (S.1 135 17 + 2) * 112 + 0 * 8 by omega]; exact hDR.2.1 (S.1 135 17) 0 (by omega) (by omega) (by omega) (by omega) (by omega)), (show nv (S.2.1 oc) r_14 = d.2.1 i (S.1 135 18) by rw [show r_14 = (i + 2) * 112 + S.1 135 18 * 8 by omega]; exact hDR.2.1 i (S.1 135 18) (by omega) (by omega) (by omega) (by omega) (by omega))] at y; have e1 := hDR.2.2.1 i (by omega) (by omega); have e2 := hDR.2.2.1 (S.1 135 17) (by omega) (by omega); refine ⟨by omega, by omega, ?_⟩; unfold ltU; omega)⟩ dX2_leavesAhead_68
    · refine lv_aload_n hx hb dX2_leavesAhead_45 rfl (lv_at hl 1 rfl) ?_
      refine g_X2_20 Cx hW (k := 135) (by decide) rfl (v := .ref (G.2.2.1 + 138)) (rf_135_2 iu_15) dX2_leavesAhead_46 ?_
      refine lv_iload_n hx hb dX2_leavesAhead_49 rfl (lv_at hl 2 rfl) ?_
      refine rIald Cx hW (k := 138) (by decide) rfl (by decide) (by omega) (by omega) dX2_leavesAhead_50 ?_
      have q_21 : (-2147483648) ≤ S.2.1 138 i ∧ S.2.1 138 i ≤ 2147483647 := hI.ai 138 i (by decide)
      refine r_i (b := S.2.1 138 i) ((fu_15 138 rfl).2.1 i) ?_
      refine lv_aload_n hx hb dX2_leavesAhead_51 rfl (lv_at hl 1 rfl) ?_
      refine g_X2_20 Cx hW (k := 135) (by decide) rfl (v := .ref (G.2.2.1 + 138)) (rf_135_2 iu_15) dX2_leavesAhead_52 ?_
      refine lv_aload_n hx hb dX2_leavesAhead_55 rfl (lv_at hl 1 rfl) ?_
      refine g_X2_147 Cx hW (k := 135) (by decide) rfl (v := S.1 135 17) ((fu_15 135 rfl).1 17) dX2_leavesAhead_56 ?_
      refine rIald Cx hW (k := 138) (by decide) rfl (by decide) (by omega) (by omega) dX2_leavesAhead_59 ?_
      have q_22 : (-2147483648) ≤ S.2.1 138 (S.1 135 17) ∧ S.2.1 138 (S.1 135 17) ≤ 2147483647 := hI.ai 138 (S.1 135 17) (by decide)
      refine r_i (b := S.2.1 138 (S.1 135 17)) ((fu_15 138 rfl).2.1 (S.1 135 17)) ?_
      refine r_icmp_ge (tgt := 67) hx hb ⟨(by omega), (by omega)⟩ ⟨(by omega), (by omega)⟩ dX2_leavesAhead_60 (by decide) (fun c_23 => ?_) (fun c_23 => ?_)
      · refine lv_iconst (v := iv 0) hx hb dX2_leavesAhead_67 (by decide) ?_
        exact sZret Cx hr hlk hW hL (by omega) ⟨iu_15, F_18, (by have y := xu_15.2.2; rw [(show nv (S.2.1 oc) r_3 = d.2.1 i 0 by rw [show r_3 = (i + 2) * 112 + 0 * 8 by omega]; exact hDR.2.1 i 0 (by omega) (by omega) (by omega) (by omega) (by omega)), (show nv (S.2.1 oc) r_8 = d.2.1 (S.1 135 17) (S.1 135 18) by rw [show r_8 = (S.1 135 17 + 2) * 112 + S.1 135 18 * 8 by omega]; exact hDR.2.1 (S.1 135 17) (S.1 135 18) (by omega) (by omega) (by omega) (by omega) (by omega)), (show nv (S.2.1 oc) r_11 = d.2.1 (S.1 135 17) 0 by rw [show r_11 = (S.1 135 17 + 2) * 112 + 0 * 8 by omega]; exact hDR.2.1 (S.1 135 17) 0 (by omega) (by omega) (by omega) (by omega) (by omega)), (show nv (S.2.1 oc) r_14 = d.2.1 i (S.1 135 18) by rw [show r_14 = (i + 2) * 112 + S.1 135 18 * 8 by omega]; exact hDR.2.1 i (S.1 135 18) (by omega) (by omega) (by omega) (by omega) (by omega))] at y; have e1 := hDR.2.2.1 i (by omega) (by omega); have e2 := hDR.2.2.1 (S.1 135 17) (by omega) (by omega); refine ⟨by omega, by omega, ?_⟩; unfold ltU; omega)⟩ dX2_leavesAhead_68
      · refine lv_iconst (v := iv 1) hx hb dX2_leavesAhead_63 (by decide) ?_
        refine lv_goto (tgt := 68) hx hb dX2_leavesAhead_64 (by decide) ?_
        exact sZret Cx hr hlk hW hL (by omega) ⟨iu_15, F_18, (by have y := xu_15.2.2; rw [(show nv (S.2.1 oc) r_3 = d.2.1 i 0 by rw [show r_3 = (i + 2) * 112 + 0 * 8 by omega]; exact hDR.2.1 i 0 (by omega) (by omega) (by omega) (by omega) (by omega)), (show nv (S.2.1 oc) r_8 = d.2.1 (S.1 135 17) (S.1 135 18) by rw [show r_8 = (S.1 135 17 + 2) * 112 + S.1 135 18 * 8 by omega]; exact hDR.2.1 (S.1 135 17) (S.1 135 18) (by omega) (by omega) (by omega) (by omega) (by omega)), (show nv (S.2.1 oc) r_11 = d.2.1 (S.1 135 17) 0 by rw [show r_11 = (S.1 135 17 + 2) * 112 + 0 * 8 by omega]; exact hDR.2.1 (S.1 135 17) 0 (by omega) (by omega) (by omega) (by omega) (by omega)), (show nv (S.2.1 oc) r_14 = d.2.1 i (S.1 135 18) by rw [show r_14 = (i + 2) * 112 + S.1 135 18 * 8 by omega]; exact hDR.2.1 i (S.1 135 18) (by omega) (by omega) (by omega) (by omega) (by omega))] at y; have e1 := hDR.2.2.1 i (by omega) (by omega); have e2 := hDR.2.2.1 (S.1 135 17) (by omega) (by omega); refine ⟨by omega, by omega, ?_⟩; unfold ltU; omega)⟩ dX2_leavesAhead_68

set_option maxRecDepth 100000 in
set_option maxHeartbeats 4000000 in
theorem v_X2_entersAhead (l : Launch) (G : sG) (S : sS) {oc od : Nat} {n hw : Int} {d : dT} {j : Int} (hI : cX G S 0 0 0) (hdq : dcs G S oc od) (hDR : Hd (DRc S oc n hw d)) (hrc : (1 ≤ S.1 135 17 ∧ S.1 135 17 ≤ d.2.2.2.2.1) ∧ 1 ≤ S.1 135 18 ∧ S.1 135 18 ≤ d.2.2.2.2.2) (hj : 1 ≤ j ∧ j ≤ d.2.2.2.2.2) : Met l yX2_entersAhead (.code yX2_entersAhead cX2_entersAhead 3 (some .boolean) :: tb) (rmk 5 0 0) (sPc G 294 S [.ref (G.2.2.1 + 135), .int (iv j)]) (sQi G 294 (fun r u => cX G u 0 0 0 ∧ Fr S u pGr ∧ (0 ≤ r ∧ r ≤ 1 ∧ (r = 1 ↔ ltD d (S.1 135 17) j (S.1 135 18))))) 0 0 (sF G) := by
  refine sEnter (by decide) (Nat.le_of_ble_eq_true rfl) ?_
  intro p e s m args below meth c Cx hr hlk hnm hW ls hl
  have Cx : sC G p m c cX2_entersAhead 3 s args RX2 := Cx
  obtain ⟨hx, hb, hml, hown, hts⟩ := id Cx.1
  have hL : sL G [] := sL_nil
  have hl : lv_has ls 3 [(0, .ref (G.2.2.1 + 135)), (1, .int (iv j))] := hl
  have hW0 := hW
  obtain ⟨hoc, hod, hcd, hec, hed⟩ := id hdq
  have hd13 := hDR.2.2.2.2.1; have hd14 := hDR.2.2.2.2.2.1; have hd15 := hDR.2.2.2.2.2.2.1; have hd16 := hDR.2.2.2.2.2.2.2; have hm40 : 0 ≤ S.1 135 14 ∧ S.1 135 14 ≤ 40 := hI.fi 135 14 2 (by decide) rfl; have hp13 : 0 ≤ S.1 135 15 ∧ S.1 135 15 ≤ 13 := hI.fi 135 15 2 (by decide) rfl
  refine lv_aload_n hx hb dX2_entersAhead_0 rfl (lv_at hl 0 rfl) ?_
  refine lv_iconst (v := iv 0) hx hb dX2_entersAhead_1 (by decide) ?_
  refine lv_aload_n hx hb dX2_entersAhead_2 rfl (lv_at hl 0 rfl) ?_
  have q_1 : (-1) ≤ S.1 135 18 ∧ S.1 135 18 ≤ 13 := hI.fi 135 18 2 (by decide) rfl
  refine g_X2_131 Cx hW (k := 135) (by decide) rfl (v := S.1 135 18) rfl dX2_entersAhead_3 ?_
  refine sBi (sSt (As := [.int (iv 0), .int (iv (S.1 135 18))]) (rest := [.ref (G.2.2.1 + 135)]) Cx (s_X2_at l G S (i := 0) (j := S.1 135 18) (by omega) (by omega)) (c_X2_77 Cx rfl rfl (rmk_ok (by omega) (by decide))) hW rfl hl.1 rfl (Nat.le_of_ble_eq_true rfl) dX2_entersAhead_6 ⟨Nat.le_of_ble_eq_true rfl, Nat.le_of_ble_eq_true rfl⟩) hL (fun r_4 u_2 H locs k_3 hW hL => ?_)
  obtain ⟨eu_2, xu_2⟩ := k_3
  rw [eu_2] at hW
  refine lv_aload_n hx hb dX2_entersAhead_9 rfl (lv_at hl 0 rfl) ?_
  have q_5 : (-1) ≤ S.1 135 17 ∧ S.1 135 17 ≤ 40 := hI.fi 135 17 2 (by decide) rfl
  refine g_X2_147 Cx hW (k := 135) (by decide) rfl (v := S.1 135 17) rfl dX2_entersAhead_10 ?_
  refine lv_iload_n hx hb dX2_entersAhead_13 rfl (lv_at hl 1 rfl) ?_
  refine sBi (sSt (As := [.int (iv (S.1 135 17)), .int (iv j)]) (rest := [.int (iv r_4), .ref (G.2.2.1 + 135)]) Cx (s_X2_at l G S (i := S.1 135 17) (j := j) (by omega) (by omega)) (c_X2_77 Cx rfl rfl (rmk_ok (by omega) (by decide))) hW rfl hl.1 rfl (Nat.le_of_ble_eq_true rfl) dX2_entersAhead_14 ⟨Nat.le_of_ble_eq_true rfl, Nat.le_of_ble_eq_true rfl⟩) hL (fun r_8 u_6 H locs k_7 hW hL => ?_)
  obtain ⟨eu_6, xu_6⟩ := k_7
  rw [eu_6] at hW
  refine lv_iconst (v := iv 0) hx hb dX2_entersAhead_17 (by decide) ?_
  refine lv_iload_n hx hb dX2_entersAhead_18 rfl (lv_at hl 1 rfl) ?_
  refine sBi (sSt (As := [.int (iv 0), .int (iv j)]) (rest := [.int (iv r_8), .int (iv r_4), .ref (G.2.2.1 + 135)]) Cx (s_X2_at l G S (i := 0) (j := j) (by omega) (by omega)) (c_X2_77 Cx rfl rfl (rmk_ok (by omega) (by decide))) hW rfl hl.1 rfl (Nat.le_of_ble_eq_true rfl) dX2_entersAhead_19 ⟨Nat.le_of_ble_eq_true rfl, Nat.le_of_ble_eq_true rfl⟩) hL (fun r_11 u_9 H locs k_10 hW hL => ?_)
  obtain ⟨eu_9, xu_9⟩ := k_10
  rw [eu_9] at hW
  refine lv_aload_n hx hb dX2_entersAhead_22 rfl (lv_at hl 0 rfl) ?_
  refine g_X2_147 Cx hW (k := 135) (by decide) rfl (v := S.1 135 17) rfl dX2_entersAhead_23 ?_
  refine lv_aload_n hx hb dX2_entersAhead_26 rfl (lv_at hl 0 rfl) ?_
  refine g_X2_131 Cx hW (k := 135) (by decide) rfl (v := S.1 135 18) rfl dX2_entersAhead_27 ?_
  refine sBi (sSt (As := [.int (iv (S.1 135 17)), .int (iv (S.1 135 18))]) (rest := [.int (iv r_11), .int (iv r_8), .int (iv r_4), .ref (G.2.2.1 + 135)]) Cx (s_X2_at l G S (i := S.1 135 17) (j := S.1 135 18) (by omega) (by omega)) (c_X2_77 Cx rfl rfl (rmk_ok (by omega) (by decide))) hW rfl hl.1 rfl (Nat.le_of_ble_eq_true rfl) dX2_entersAhead_30 ⟨Nat.le_of_ble_eq_true rfl, Nat.le_of_ble_eq_true rfl⟩) hL (fun r_14 u_12 H locs k_13 hW hL => ?_)
  obtain ⟨eu_12, xu_12⟩ := k_13
  rw [eu_12] at hW
  refine sBi (sV (As := [.int (iv r_4), .int (iv r_8), .int (iv r_11), .int (iv r_14)]) (rest := []) (k := 135) Cx (v_X2_compareProducts l G S (a := r_4) (b1 := r_8) (c1 := r_11) (d1 := r_14) (oc := oc) (od := od) hI ⟨hoc, hod, (neD hcd), hec, hed⟩ (by omega) (by omega) (by omega) (by omega)) (c_X2_160 Cx rfl rfl (rmk_ok (by omega) (by decide))) hW (by decide) rfl rfl rfl hl.1 rfl (Nat.le_of_ble_eq_true rfl) dX2_entersAhead_33 ⟨Nat.le_of_ble_eq_true rfl, Nat.le_of_ble_eq_true rfl⟩) hL (fun r_17 u_15 H locs k_16 hW hL => ?_)
  obtain ⟨iu_15, fu_15, xu_15⟩ := k_16
  have F_18 := (Fr.rf : Fr S S pGr).trans fu_15
  refine lv_istore_n (lv' := [(2, .int (iv r_17)), (0, .ref (G.2.2.1 + 135)), (1, .int (iv j))]) hx hb dX2_entersAhead_36 rfl hl (by decide) rfl (fun ls hl => ?_)
  refine lv_iload_n hx hb dX2_entersAhead_37 rfl (lv_at hl 0 rfl) ?_
  refine r_if_lt (tgt := 63) hx hb ⟨(by omega), (by omega)⟩ dX2_entersAhead_38 (by decide) (fun c_19 => ?_) (fun c_19 => ?_)
  · refine lv_iconst (v := iv 1) hx hb dX2_entersAhead_63 (by decide) ?_
    refine lv_goto (tgt := 68) hx hb dX2_entersAhead_64 (by decide) ?_
    exact sZret Cx hr hlk hW hL (by omega) ⟨iu_15, F_18, (by have y := xu_15.2.2; rw [(show nv (S.2.1 oc) r_4 = d.2.1 0 (S.1 135 18) by rw [show r_4 = (0 + 2) * 112 + S.1 135 18 * 8 by omega]; exact hDR.2.1 0 (S.1 135 18) (by omega) (by omega) (by omega) (by omega) (by omega)), (show nv (S.2.1 oc) r_8 = d.2.1 (S.1 135 17) j by rw [show r_8 = (S.1 135 17 + 2) * 112 + j * 8 by omega]; exact hDR.2.1 (S.1 135 17) j (by omega) (by omega) (by omega) (by omega) (by omega)), (show nv (S.2.1 oc) r_11 = d.2.1 0 j by rw [show r_11 = (0 + 2) * 112 + j * 8 by omega]; exact hDR.2.1 0 j (by omega) (by omega) (by omega) (by omega) (by omega)), (show nv (S.2.1 oc) r_14 = d.2.1 (S.1 135 17) (S.1 135 18) by rw [show r_14 = (S.1 135 17 + 2) * 112 + S.1 135 18 * 8 by omega]; exact hDR.2.1 (S.1 135 17) (S.1 135 18) (by omega) (by omega) (by omega) (by omega) (by omega))] at y; have e1 := hDR.2.2.2.1 j (by omega) (by omega); have e2 := hDR.2.2.2.1 (S.1 135 18) (by omega) (by omega); refine ⟨by omega, by omega, ?_⟩; unfold ltD; omega)⟩ dX2_entersAhead_68
  · refine lv_iload_n hx hb dX2_entersAhead_41 rfl (lv_at hl 0 rfl) ?_
    refine r_if_ne (tgt := 67) hx hb ⟨(by omega), (by omega)⟩ dX2_entersAhead_42 (by decide) (fun c_20 => ?_) (fun c_20 => ?_)
    · refine lv_iconst (v := iv 0) hx hb dX2_entersAhead_67 (by decide) ?_
      exact sZret Cx hr hlk hW hL (by omega) ⟨iu_15, F_18, (by have y := xu_15.2.2; rw [(show nv (S.2.1 oc) r_4 = d.2.1 0 (S.1 135 18) by rw [show r_4 = (0 + 2) * 112 + S.1 135 18 * 8 by omega]; exact hDR.2.1 0 (S.1 135 18) (by omega) (by omega) (by omega) (by omega) (by omega)), (show nv (S.2.1 oc) r_8 = d.2.1 (S.1 135 17) j by rw [show r_8 = (S.1 135 17 + 2) * 112 + j * 8 by omega]; exact hDR.2.1 (S.1 135 17) j (by omega) (by omega) (by omega) (by omega) (by omega)), (show nv (S.2.1 oc) r_11 = d.2.1 0 j by rw [show r_11 = (0 + 2) * 112 + j * 8 by omega]; exact hDR.2.1 0 j (by omega) (by omega) (by omega) (by omega) (by omega)), (show nv (S.2.1 oc) r_14 = d.2.1 (S.1 135 17) (S.1 135 18) by rw [show r_14 = (S.1 135 17 + 2) * 112 + S.1 135 18 * 8 by omega]; exact hDR.2.1 (S.1 135 17) (S.1 135 18) (by omega) (by omega) (by omega) (by omega) (by omega))] at y; have e1 := hDR.2.2.2.1 j (by omega) (by omega); have e2 := hDR.2.2.2.1 (S.1 135 18) (by omega) (by omega); refine ⟨by omega, by omega, ?_⟩; unfold ltD; omega)⟩ dX2_entersAhead_68
    · refine lv_aload_n hx hb dX2_entersAhead_45 rfl (lv_at hl 1 rfl) ?_
      refine g_X2_23 Cx hW (k := 135) (by decide) rfl (v := .ref (G.2.2.1 + 139)) (rf_135_3 iu_15) dX2_entersAhead_46 ?_
      refine lv_iload_n hx hb dX2_entersAhead_49 rfl (lv_at hl 2 rfl) ?_
      refine rIald Cx hW (k := 139) (by decide) rfl (by decide) (by omega) (by omega) dX2_entersAhead_50 ?_
      have q_21 : (-2147483648) ≤ S.2.1 139 j ∧ S.2.1 139 j ≤ 2147483647 := hI.ai 139 j (by decide)
      refine r_i (b := S.2.1 139 j) ((fu_15 139 rfl).2.1 j) ?_
      refine lv_aload_n hx hb dX2_entersAhead_51 rfl (lv_at hl 1 rfl) ?_
      refine g_X2_23 Cx hW (k := 135) (by decide) rfl (v := .ref (G.2.2.1 + 139)) (rf_135_3 iu_15) dX2_entersAhead_52 ?_
      refine lv_aload_n hx hb dX2_entersAhead_55 rfl (lv_at hl 1 rfl) ?_
      refine g_X2_131 Cx hW (k := 135) (by decide) rfl (v := S.1 135 18) ((fu_15 135 rfl).1 18) dX2_entersAhead_56 ?_
      refine rIald Cx hW (k := 139) (by decide) rfl (by decide) (by omega) (by omega) dX2_entersAhead_59 ?_
      have q_22 : (-2147483648) ≤ S.2.1 139 (S.1 135 18) ∧ S.2.1 139 (S.1 135 18) ≤ 2147483647 := hI.ai 139 (S.1 135 18) (by decide)
      refine r_i (b := S.2.1 139 (S.1 135 18)) ((fu_15 139 rfl).2.1 (S.1 135 18)) ?_
      refine r_icmp_ge (tgt := 67) hx hb ⟨(by omega), (by omega)⟩ ⟨(by omega), (by omega)⟩ dX2_entersAhead_60 (by decide) (fun c_23 => ?_) (fun c_23 => ?_)
      · refine lv_iconst (v := iv 0) hx hb dX2_entersAhead_67 (by decide) ?_
        exact sZret Cx hr hlk hW hL (by omega) ⟨iu_15, F_18, (by have y := xu_15.2.2; rw [(show nv (S.2.1 oc) r_4 = d.2.1 0 (S.1 135 18) by rw [show r_4 = (0 + 2) * 112 + S.1 135 18 * 8 by omega]; exact hDR.2.1 0 (S.1 135 18) (by omega) (by omega) (by omega) (by omega) (by omega)), (show nv (S.2.1 oc) r_8 = d.2.1 (S.1 135 17) j by rw [show r_8 = (S.1 135 17 + 2) * 112 + j * 8 by omega]; exact hDR.2.1 (S.1 135 17) j (by omega) (by omega) (by omega) (by omega) (by omega)), (show nv (S.2.1 oc) r_11 = d.2.1 0 j by rw [show r_11 = (0 + 2) * 112 + j * 8 by omega]; exact hDR.2.1 0 j (by omega) (by omega) (by omega) (by omega) (by omega)), (show nv (S.2.1 oc) r_14 = d.2.1 (S.1 135 17) (S.1 135 18) by rw [show r_14 = (S.1 135 17 + 2) * 112 + S.1 135 18 * 8 by omega]; exact hDR.2.1 (S.1 135 17) (S.1 135 18) (by omega) (by omega) (by omega) (by omega) (by omega))] at y; have e1 := hDR.2.2.2.1 j (by omega) (by omega); have e2 := hDR.2.2.2.1 (S.1 135 18) (by omega) (by omega); refine ⟨by omega, by omega, ?_⟩; unfold ltD; omega)⟩ dX2_entersAhead_68
      · refine lv_iconst (v := iv 1) hx hb dX2_entersAhead_63 (by decide) ?_
        refine lv_goto (tgt := 68) hx hb dX2_entersAhead_64 (by decide) ?_
        exact sZret Cx hr hlk hW hL (by omega) ⟨iu_15, F_18, (by have y := xu_15.2.2; rw [(show nv (S.2.1 oc) r_4 = d.2.1 0 (S.1 135 18) by rw [show r_4 = (0 + 2) * 112 + S.1 135 18 * 8 by omega]; exact hDR.2.1 0 (S.1 135 18) (by omega) (by omega) (by omega) (by omega) (by omega)), (show nv (S.2.1 oc) r_8 = d.2.1 (S.1 135 17) j by rw [show r_8 = (S.1 135 17 + 2) * 112 + j * 8 by omega]; exact hDR.2.1 (S.1 135 17) j (by omega) (by omega) (by omega) (by omega) (by omega)), (show nv (S.2.1 oc) r_11 = d.2.1 0 j by rw [show r_11 = (0 + 2) * 112 + j * 8 by omega]; exact hDR.2.1 0 j (by omega) (by omega) (by omega) (by omega) (by omega)), (show nv (S.2.1 oc) r_14 = d.2.1 (S.1 135 17) (S.1 135 18) by rw [show r_14 = (S.1 135 17 + 2) * 112 + S.1 135 18 * 8 by omega]; exact hDR.2.1 (S.1 135 17) (S.1 135 18) (by omega) (by omega) (by omega) (by omega) (by omega))] at y; have e1 := hDR.2.2.2.1 j (by omega) (by omega); have e2 := hDR.2.2.2.1 (S.1 135 18) (by omega) (by omega); refine ⟨by omega, by omega, ?_⟩; unfold ltD; omega)⟩ dX2_entersAhead_68

set_option maxRecDepth 100000 in
set_option maxHeartbeats 4000000 in
theorem v_X2_chooseUp (l : Launch) (G : sG) (S : sS) {oc od : Nat} {n hw : Int} {d : dT} {gl : Int} (hI : cX G S 0 0 0) (hdq : dcs G S oc od) (hDR : Hd (DRc S oc n hw d)) (hst : S.1 119 9 = 1) (hgl : -1 ≤ gl ∧ gl ≤ 0) (hgw : gl = -1 → hw = 1) : Met l yX2_chooseUp (.code yX2_chooseUp cX2_chooseUp 3 (some .int) :: tb) (rmk 6 0 0) (sPc G 294 S [.ref (G.2.2.1 + 135), .int (iv gl)]) (sQi G 294 (fun r u => cX G u 0 0 0 ∧ Fr S u pFg ∧ (0 ≤ r ∧ r ≤ 2 ∧ Hd (r = 0 → cU d gl = 0) ∧ Hd (r ≠ 0 → cU d gl ≠ 0 ∧ u.1 135 18 = cU d gl) ∧ Hd (r = 2 → rU d (cU d gl) = 0) ∧ Hd (r = 1 → rU d (cU d gl) ≠ 0 ∧ u.1 135 17 = rU d (cU d gl)) ∧ Hd (dcs G u oc od ∧ DRc u oc n hw d) ∧ u.1 135 19 = S.1 135 19))) 0 0 (sF G) := by
  refine sEnter (by decide) (Nat.le_of_ble_eq_true rfl) ?_
  intro p e s m args below meth c Cx hr hlk hnm hW ls hl
  have Cx : sC G p m c cX2_chooseUp 3 s args RX2 := Cx
  obtain ⟨hx, hb, hml, hown, hts⟩ := id Cx.1
  have hL : sL G [] := sL_nil
  have hl : lv_has ls 3 [(0, .ref (G.2.2.1 + 135)), (1, .int (iv gl))] := hl
  have hW0 := hW
  obtain ⟨hoc, hod, hcd, hec, hed⟩ := id hdq
  have hd13 := hDR.2.2.2.2.1; have hd14 := hDR.2.2.2.2.2.1; have hd15 := hDR.2.2.2.2.2.2.1; have hd16 := hDR.2.2.2.2.2.2.2; have hm40 : 0 ≤ S.1 135 14 ∧ S.1 135 14 ≤ 40 := hI.fi 135 14 2 (by decide) rfl; have hp13 : 0 ≤ S.1 135 15 ∧ S.1 135 15 ≤ 13 := hI.fi 135 15 2 (by decide) rfl
  refine lv_aload_n hx hb dX2_chooseUp_0 rfl (lv_at hl 0 rfl) ?_
  refine lv_iconst (v := iv 0) hx hb dX2_chooseUp_1 (by decide) ?_
  refine p_X2_131 Cx hW hL (k := 135) (by decide) rfl dX2_chooseUp_2 (fun H locs hW hL => ?_)
  have q_1 : 0 ≤ S.1 119 9 ∧ S.1 119 9 ≤ 6 := hI.fi 119 9 7 (by decide) rfl
  have F_2 : Fr S (uF S 135 18 0) pFg := (Fr.rf : Fr S S pFg).F rfl
  have i_3 : cX G (uF S 135 18 0) 0 0 0 := hI.column ⟨by omega, by omega⟩ (by omega)
  refine lv_iconst (v := iv 1) hx hb dX2_chooseUp_5 (by decide) ?_
  refine lv_istore_n (lv' := [(2, .int (iv 1)), (0, .ref (G.2.2.1 + 135)), (1, .int (iv gl))]) hx hb dX2_chooseUp_6 rfl hl (by decide) rfl (fun ls hl => ?_)
  have loop_7 : ∀ (fuel : Nat) (S7 : sS) (j : Int) (H : Heap) (locs : List Loc) (ls : Array Slot), (41 - j).toNat < fuel → (cX G S7 0 0 0) → (Fr S S7 pFg) → (Fr ((uF S 135 18 0)) S7 pFg) → (S7.1 135 19 = S.1 135 19) → (1 ≤ j ∧ j ≤ d.2.2.2.2.2 + 1) → (0 ≤ S7.1 135 18 ∧ S7.1 135 18 < j) → (Hd (dcs G S7 oc od ∧ DRc S7 oc n hw d)) → (Hd (S7.1 135 18 = pick (fun j => d.2.1 gl j < 0) (fun j s => d.2.2.2.1 j < d.2.2.2.1 s) (j - 1).toNat)) → sW G 294 S7 H → sL G locs → lv_has ls 3 [(2, .int (iv j)), (0, .ref (G.2.2.1 + 135)), (1, .int (iv gl))] → W p l e (rmk 6 0 0) s m args below meth c H locs 0 0 (MQ below (sQi G 294 (fun r u => cX G u 0 0 0 ∧ Fr S u pFg ∧ (0 ≤ r ∧ r ≤ 2 ∧ Hd (r = 0 → cU d gl = 0) ∧ Hd (r ≠ 0 → cU d gl ≠ 0 ∧ u.1 135 18 = cU d gl) ∧ Hd (r = 2 → rU d (cU d gl) = 0) ∧ Hd (r = 1 → rU d (cU d gl) ≠ 0 ∧ u.1 135 17 = rU d (cU d gl)) ∧ Hd (dcs G u oc od ∧ DRc u oc n hw d) ∧ u.1 135 19 = S.1 135 19))) args s 0 0 (sF G)) (F0 m 7 ls []) := by
    intro fuel
    induction fuel with
    | zero => intro S7 j H locs ls hmeas hI7 hFm7 hL7_ hk9 hj hcl hdl hpk hW hL hl; exact absurd hmeas (Nat.not_lt_zero _)
    | succ fuel ih_7 =>
      intro S7 j H locs ls hmeas hI7 hFm7 hL7_ hk9 hj hcl hdl hpk hW hL hl
      have hdl14 := hdl.2.2.2.2.2.2.1; have hdl15 := hdl.2.2.2.2.2.2.2.1
      refine lv_iload_n hx hb dX2_chooseUp_7 rfl (lv_at hl 0 rfl) ?_
      refine lv_aload_n hx hb dX2_chooseUp_8 rfl (lv_at hl 1 rfl) ?_
      have q_4 : 0 ≤ S7.1 135 15 ∧ S7.1 135 15 ≤ 13 := hI7.fi 135 15 2 (by decide) rfl
      refine g_X2_67 Cx hW (k := 135) (by decide) rfl (v := S7.1 135 15) rfl dX2_chooseUp_9 ?_
      refine r_icmp_gt (tgt := 60) hx hb ⟨(by omega), (by omega)⟩ ⟨(by omega), (by omega)⟩ dX2_chooseUp_12 (by decide) (fun c_5 => ?_) (fun c_5 => ?_)
      · refine lv_aload_n hx hb dX2_chooseUp_60 rfl (lv_at hl 1 rfl) ?_
        have q_6 : (-1) ≤ S7.1 135 18 ∧ S7.1 135 18 ≤ 13 := hI7.fi 135 18 2 (by decide) rfl
        refine g_X2_131 Cx hW (k := 135) (by decide) rfl (v := S7.1 135 18) rfl dX2_chooseUp_61 ?_
        refine r_if_ne (tgt := 69) hx hb ⟨(by omega), (by omega)⟩ dX2_chooseUp_64 (by decide) (fun c_7 => ?_) (fun c_7 => ?_)
        · refine lv_aload_n hx hb dX2_chooseUp_69 rfl (lv_at hl 1 rfl) ?_
          refine lv_iconst (v := iv 0) hx hb dX2_chooseUp_70 (by decide) ?_
          refine p_X2_147 Cx hW hL (k := 135) (by decide) rfl dX2_chooseUp_71 (fun H locs hW hL => ?_)
          have F_8 : Fr S (uF S7 135 17 0) pFg := hFm7.F rfl
          have F_9 : Fr ((uF S 135 18 0)) (uF S7 135 17 0) pFg := hL7_.F rfl
          have i_10 : cX G (uF S7 135 17 0) 0 0 0 := hI7.F rfl rfl (show (-1) ≤ 0 ∧ 0 ≤ 40 from ⟨by omega, by omega⟩)
          refine lv_iconst (v := iv 1) hx hb dX2_chooseUp_74 (by decide) ?_
          refine lv_istore_n (lv' := [(2, .int (iv 1)), (0, .ref (G.2.2.1 + 135)), (1, .int (iv gl))]) hx hb dX2_chooseUp_75 rfl hl (by decide) rfl (fun ls hl => ?_)
          have loop_76 : ∀ (fuel : Nat) (S76 : sS) (i : Int) (H : Heap) (locs : List Loc) (ls : Array Slot), (41 - i).toNat < fuel → (cX G S76 0 0 0) → (Fr S S76 pFg) → (Fr ((uF S 135 18 0)) S76 pFg) → (Fr ((uF S7 135 17 0)) S76 pFg) → (S76.1 135 19 = S.1 135 19) → (1 ≤ i ∧ i ≤ d.2.2.2.2.1 + 1) → (S76.1 135 18 = cU d gl) → (cU d gl ≠ 0) → (1 ≤ S76.1 135 18 ∧ S76.1 135 18 ≤ d.2.2.2.2.2) → (0 ≤ S76.1 135 17 ∧ S76.1 135 17 < i) → (Hd (dcs G S76 oc od ∧ DRc S76 oc n hw d)) → (Hd (S76.1 135 17 = pick (fun i => 0 < d.2.1 i (cU d gl)) (ltU d (cU d gl)) (i - 1).toNat)) → sW G 294 S76 H → sL G locs → lv_has ls 3 [(2, .int (iv i)), (0, .ref (G.2.2.1 + 135)), (1, .int (iv gl))] → W p l e (rmk 6 0 0) s m args below meth c H locs 0 0 (MQ below (sQi G 294 (fun r u => cX G u 0 0 0 ∧ Fr S u pFg ∧ (0 ≤ r ∧ r ≤ 2 ∧ Hd (r = 0 → cU d gl = 0) ∧ Hd (r ≠ 0 → cU d gl ≠ 0 ∧ u.1 135 18 = cU d gl) ∧ Hd (r = 2 → rU d (cU d gl) = 0) ∧ Hd (r = 1 → rU d (cU d gl) ≠ 0 ∧ u.1 135 17 = rU d (cU d gl)) ∧ Hd (dcs G u oc od ∧ DRc u oc n hw d) ∧ u.1 135 19 = S.1 135 19))) args s 0 0 (sF G)) (F0 m 76 ls []) := by
            intro fuel
            induction fuel with
            | zero => intro S76 i H locs ls hmeas hI76 hFm76 hFL776 hL76_ hk9 hi hcs hcn hc2 hrw hdl2 hpr hW hL hl; exact absurd hmeas (Nat.not_lt_zero _)
            | succ fuel ih_76 =>
              intro S76 i H locs ls hmeas hI76 hFm76 hFL776 hL76_ hk9 hi hcs hcn hc2 hrw hdl2 hpr hW hL hl
              have hdl214 := hdl2.2.2.2.2.2.2.1; have hdl215 := hdl2.2.2.2.2.2.2.2.1
              refine lv_iload_n hx hb dX2_chooseUp_76 rfl (lv_at hl 0 rfl) ?_
              refine lv_aload_n hx hb dX2_chooseUp_77 rfl (lv_at hl 1 rfl) ?_
              have q_11 : 0 ≤ S76.1 135 14 ∧ S76.1 135 14 ≤ 40 := hI76.fi 135 14 2 (by decide) rfl
              refine g_X2_66 Cx hW (k := 135) (by decide) rfl (v := S76.1 135 14) rfl dX2_chooseUp_78 ?_
              refine r_icmp_gt (tgt := 122) hx hb ⟨(by omega), (by omega)⟩ ⟨(by omega), (by omega)⟩ dX2_chooseUp_81 (by decide) (fun c_12 => ?_) (fun c_12 => ?_)
              · refine lv_aload_n hx hb dX2_chooseUp_122 rfl (lv_at hl 1 rfl) ?_
                have q_13 : (-1) ≤ S76.1 135 17 ∧ S76.1 135 17 ≤ 40 := hI76.fi 135 17 2 (by decide) rfl
                refine g_X2_147 Cx hW (k := 135) (by decide) rfl (v := S76.1 135 17) rfl dX2_chooseUp_123 ?_
                refine r_if_le (tgt := 133) hx hb ⟨(by omega), (by omega)⟩ dX2_chooseUp_126 (by decide) (fun c_14 => ?_) (fun c_14 => ?_)
                · refine lv_iconst (v := iv 2) hx hb dX2_chooseUp_133 (by decide) ?_
                  have q_15 : (-1) ≤ S76.1 135 18 ∧ S76.1 135 18 ≤ 13 := hI76.fi 135 18 2 (by decide) rfl
                  have q_16 : 0 ≤ S76.1 135 19 ∧ S76.1 135 19 ≤ 102220 := hI76.fi 135 19 2 (by decide) rfl
                  exact sIret Cx hr hlk hW hL ⟨hI76, hFm76, ⟨by omega, by omega, (fun q => absurd q (by omega)), (fun _ => ⟨hcn, hcs⟩), (fun _ => by have e := (show S76.1 135 17 = rU d (cU d gl) by have e := hpr; rw [show i - 1 = d.2.2.2.2.1 by omega] at e; exact e); omega), (fun q => absurd q (by omega)), hdl2, by omega⟩⟩ dX2_chooseUp_134
                · refine lv_iconst (v := iv 1) hx hb dX2_chooseUp_129 (by decide) ?_
                  refine lv_goto (tgt := 134) hx hb dX2_chooseUp_130 (by decide) ?_
                  have q_17 : (-1) ≤ S76.1 135 18 ∧ S76.1 135 18 ≤ 13 := hI76.fi 135 18 2 (by decide) rfl
                  have q_18 : 0 ≤ S76.1 135 19 ∧ S76.1 135 19 ≤ 102220 := hI76.fi 135 19 2 (by decide) rfl
                  exact sIret Cx hr hlk hW hL ⟨hI76, hFm76, ⟨by omega, by omega, (fun q => absurd q (by omega)), (fun _ => ⟨hcn, hcs⟩), (fun q => absurd q (by omega)), (fun _ => ⟨by have e := (show S76.1 135 17 = rU d (cU d gl) by have e := hpr; rw [show i - 1 = d.2.2.2.2.1 by omega] at e; exact e); omega, (show S76.1 135 17 = rU d (cU d gl) by have e := hpr; rw [show i - 1 = d.2.2.2.2.1 by omega] at e; exact e)⟩), hdl2, by omega⟩⟩ dX2_chooseUp_134
              · refine lv_aload_n hx hb dX2_chooseUp_84 rfl (lv_at hl 1 rfl) ?_
                refine lv_iload_n hx hb dX2_chooseUp_85 rfl (lv_at hl 0 rfl) ?_
                refine lv_aload_n hx hb dX2_chooseUp_86 rfl (lv_at hl 1 rfl) ?_
                have q_19 : (-1) ≤ S76.1 135 18 ∧ S76.1 135 18 ≤ 13 := hI76.fi 135 18 2 (by decide) rfl
                refine g_X2_131 Cx hW (k := 135) (by decide) rfl (v := S76.1 135 18) rfl dX2_chooseUp_87 ?_
                refine sBi (sV (As := [.int (iv i), .int (iv (S76.1 135 18))]) (rest := []) (k := 135) Cx (v_X2_sign l G S76 (i := i) (j := S76.1 135 18) (oc := oc) (od := od) (n := n) (hw := hw) (d := d) hI76 ⟨hoc, hod, (neD hcd), hdl2.1.2.2.2.1, hdl2.1.2.2.2.2⟩ hdl2.2 (by omega) (by omega) (by omega)) (c_X2_95 Cx rfl rfl (rmk_ok (by omega) (by decide))) hW (by decide) rfl rfl rfl hl.1 rfl (Nat.le_of_ble_eq_true rfl) dX2_chooseUp_90 ⟨Nat.le_of_ble_eq_true rfl, Nat.le_of_ble_eq_true rfl⟩) hL (fun r_22 u_20 H locs k_21 hW hL => ?_)
                obtain ⟨eu_20, xu_20⟩ := k_21
                rw [eu_20] at hW
                refine r_if_le (tgt := 116) hx hb ⟨(by omega), (by omega)⟩ dX2_chooseUp_93 (by decide) (fun c_23 => ?_) (fun c_23 => ?_)
                · refine lv_iinc (v := iv (i + 1)) (lv' := [(2, .int (iv (i + 1))), (0, .ref (G.2.2.1 + 135)), (1, .int (iv gl))]) hx hb dX2_chooseUp_116 hl (k := 0) rfl ((Int32.ofInt_add _ _).symm) (by decide) rfl (fun ls hl => ?_)
                  refine lv_goto (tgt := 76) hx hb dX2_chooseUp_119 (by decide) ?_
                  have q_24 : 0 ≤ S76.1 135 19 ∧ S76.1 135 19 ≤ 102220 := hI76.fi 135 19 2 (by decide) rfl
                  have q_25 : (-1) ≤ S76.1 135 17 ∧ S76.1 135 17 ≤ 40 := hI76.fi 135 17 2 (by decide) rfl
                  exact ih_76 S76 (i + 1) _ _ _ (by omega) hI76 hFm76 hFL776 hL76_ (by omega) (by omega) ((rfl : S76.1 135 18 = S76.1 135 18).trans hcs) hcn (by omega) (by omega) ⟨⟨hoc, hod, (neD hcd), hdl2.1.2.2.2.1, hdl2.1.2.2.2.2⟩, hdl2.2⟩ ((rfl : S76.1 135 17 = S76.1 135 17).trans (pick_n (P := (fun i => 0 < d.2.1 i (cU d gl))) (lt := (ltU d (cU d gl))) (x := S76.1 135 17) (by omega) hpr (fun z => by have z1 : 0 < d.2.1 i (cU d gl) := z.1; rw [← hcs] at z1; omega))) hW hL (lv_sub hl [0, 1, 2] rfl)
                · refine lv_aload_n hx hb dX2_chooseUp_96 rfl (lv_at hl 1 rfl) ?_
                  have q_26 : (-1) ≤ S76.1 135 17 ∧ S76.1 135 17 ≤ 40 := hI76.fi 135 17 2 (by decide) rfl
                  refine g_X2_147 Cx hW (k := 135) (by decide) rfl (v := S76.1 135 17) rfl dX2_chooseUp_97 ?_
                  refine r_if_eq (tgt := 111) hx hb ⟨(by omega), (by omega)⟩ dX2_chooseUp_100 (by decide) (fun c_27 => ?_) (fun c_27 => ?_)
                  · refine lv_aload_n hx hb dX2_chooseUp_111 rfl (lv_at hl 1 rfl) ?_
                    refine lv_iload_n hx hb dX2_chooseUp_112 rfl (lv_at hl 0 rfl) ?_
                    refine p_X2_147 Cx hW hL (k := 135) (by decide) rfl dX2_chooseUp_113 (fun H locs hW hL => ?_)
                    have F_28 : Fr S (uF S76 135 17 i) pFg := hFm76.F rfl
                    have F_29 : Fr ((uF S 135 18 0)) (uF S76 135 17 i) pFg := hFL776.F rfl
                    have F_30 : Fr ((uF S7 135 17 0)) (uF S76 135 17 i) pFg := hL76_.F rfl
                    have i_31 : cX G (uF S76 135 17 i) 0 0 0 := hI76.F rfl rfl (show (-1) ≤ i ∧ i ≤ 40 from ⟨by omega, by omega⟩)
                    refine lv_iinc (v := iv (i + 1)) (lv' := [(2, .int (iv (i + 1))), (0, .ref (G.2.2.1 + 135)), (1, .int (iv gl))]) hx hb dX2_chooseUp_116 hl (k := 0) rfl ((Int32.ofInt_add _ _).symm) (by decide) rfl (fun ls hl => ?_)
                    refine lv_goto (tgt := 76) hx hb dX2_chooseUp_119 (by decide) ?_
                    have q_32 : 0 ≤ S76.1 135 19 ∧ S76.1 135 19 ≤ 102220 := hI76.fi 135 19 2 (by decide) rfl
                    have lk_33 : (uF S76 135 17 i).1 135 19 = S76.1 135 19 := uF_ne (fun h => absurd h.2 (by decide))
                    have lk_34 : (uF S76 135 17 i).1 135 18 = S76.1 135 18 := uF_ne (fun h => absurd h.2 (by decide))
                    have lk_35 : (uF S76 135 17 i).1 135 17 = i := uF_on
                    exact ih_76 (uF S76 135 17 i) (i + 1) _ _ _ (by omega) i_31 F_28 F_29 F_30 (by omega) (by omega) ((uF_ne (fun h => absurd h.2 (by decide)) : (uF S76 135 17 i).1 135 18 = S76.1 135 18).trans hcs) hcn (by omega) (by omega) ⟨⟨hoc, hod, (neD hcd), ((uF_r).trans hdl2.1.2.2.2.1), ((uF_r).trans hdl2.1.2.2.2.2)⟩, (DRc.of hdl2.2 (show (uF S76 135 17 i).1 135 13 = S76.1 135 13 from uF_ne (fun h => absurd h.2 (by decide))) (show (uF S76 135 17 i).1 135 14 = S76.1 135 14 from uF_ne (fun h => absurd h.2 (by decide))) (show (uF S76 135 17 i).1 135 15 = S76.1 135 15 from uF_ne (fun h => absurd h.2 (by decide))) (show (uF S76 135 17 i).1 135 16 = S76.1 135 16 from uF_ne (fun h => absurd h.2 (by decide))) (show (uF S76 135 17 i).2.1 oc = S76.2.1 oc from funext fun x => uF_a) (show (uF S76 135 17 i).2.1 138 = S76.2.1 138 from funext fun x => uF_a) (show (uF S76 135 17 i).2.1 139 = S76.2.1 139 from funext fun x => uF_a))⟩ (uF_on.trans (pick_y (P := (fun i => 0 < d.2.1 i (cU d gl))) (lt := (ltU d (cU d gl))) (x := S76.1 135 17) (by omega) hpr (by show 0 < d.2.1 i (cU d gl); rw [← hcs]; omega) (by exact .inl (by omega)))) hW hL (lv_sub hl [0, 1, 2] rfl)
                  · refine lv_aload_n hx hb dX2_chooseUp_103 rfl (lv_at hl 1 rfl) ?_
                    refine lv_iload_n hx hb dX2_chooseUp_104 rfl (lv_at hl 0 rfl) ?_
                    refine sBi (sV (As := [.int (iv i)]) (rest := []) (k := 135) Cx (v_X2_leavesAhead l G S76 (i := i) (oc := oc) (od := od) (n := n) (hw := hw) (d := d) hI76 ⟨hoc, hod, (neD hcd), hdl2.1.2.2.2.1, hdl2.1.2.2.2.2⟩ hdl2.2 (by omega) (by omega)) (c_X2_157 Cx rfl rfl (rmk_ok (by omega) (by decide))) hW (by decide) rfl rfl rfl hl.1 rfl (Nat.le_of_ble_eq_true rfl) dX2_chooseUp_105 ⟨Nat.le_of_ble_eq_true rfl, Nat.le_of_ble_eq_true rfl⟩) hL (fun r_38 u_36 H locs k_37 hW hL => ?_)
                    obtain ⟨iu_36, fu_36, xu_36⟩ := k_37
                    have F_39 := hFm76.trans (fu_36.to pGr_F)
                    have F_40 := hFL776.trans (fu_36.to pGr_F)
                    have F_41 := hL76_.trans (fu_36.to pGr_F)
                    refine r_if_eq (tgt := 116) hx hb ⟨(by omega), (by omega)⟩ dX2_chooseUp_108 (by decide) (fun c_42 => ?_) (fun c_42 => ?_)
                    · refine lv_iinc (v := iv (i + 1)) (lv' := [(2, .int (iv (i + 1))), (0, .ref (G.2.2.1 + 135)), (1, .int (iv gl))]) hx hb dX2_chooseUp_116 hl (k := 0) rfl ((Int32.ofInt_add _ _).symm) (by decide) rfl (fun ls hl => ?_)
                      refine lv_goto (tgt := 76) hx hb dX2_chooseUp_119 (by decide) ?_
                      have q_43 : 0 ≤ S76.1 135 19 ∧ S76.1 135 19 ≤ 102220 := hI76.fi 135 19 2 (by decide) rfl
                      have lk_44 : u_36.1 135 19 = S76.1 135 19 := (fu_36 135 rfl).1 19
                      have lk_45 : u_36.1 135 18 = S76.1 135 18 := (fu_36 135 rfl).1 18
                      have lk_46 : u_36.1 135 17 = S76.1 135 17 := (fu_36 135 rfl).1 17
                      exact ih_76 u_36 (i + 1) _ _ _ (by omega) iu_36 F_39 F_40 F_41 (by omega) (by omega) (((fu_36 135 rfl).1 18 : u_36.1 135 18 = S76.1 135 18).trans hcs) hcn (by omega) (by omega) ⟨⟨hoc, hod, (neD hcd), (((fu_36 135 rfl).2.2.2 0).trans hdl2.1.2.2.2.1), (((fu_36 135 rfl).2.2.2 1).trans hdl2.1.2.2.2.2)⟩, (DRc.of hdl2.2 (show u_36.1 135 13 = S76.1 135 13 from (fu_36 135 rfl).1 13) (show u_36.1 135 14 = S76.1 135 14 from (fu_36 135 rfl).1 14) (show u_36.1 135 15 = S76.1 135 15 from (fu_36 135 rfl).1 15) (show u_36.1 135 16 = S76.1 135 16 from (fu_36 135 rfl).1 16) (show u_36.2.1 oc = S76.2.1 oc from funext fun x => (fu_36 oc (dic_pGr hoc)).2.1 x) (show u_36.2.1 138 = S76.2.1 138 from funext fun x => (fu_36 138 rfl).2.1 x) (show u_36.2.1 139 = S76.2.1 139 from funext fun x => (fu_36 139 rfl).2.1 x))⟩ (((fu_36 135 rfl).1 17 : u_36.1 135 17 = S76.1 135 17).trans (pick_n (P := (fun i => 0 < d.2.1 i (cU d gl))) (lt := (ltU d (cU d gl))) (x := S76.1 135 17) (by omega) hpr (fun z => by have z1 : 0 < d.2.1 i (cU d gl) := z.1; rw [← hcs] at z1; have y := xu_36.2.2; rw [hcs] at y; rcases z.2 with q | q; omega; (have := y.mpr q; omega)))) hW hL (lv_sub hl [0, 1, 2] rfl)
                    · refine lv_aload_n hx hb dX2_chooseUp_111 rfl (lv_at hl 1 rfl) ?_
                      refine lv_iload_n hx hb dX2_chooseUp_112 rfl (lv_at hl 0 rfl) ?_
                      refine p_X2_147 Cx hW hL (k := 135) (by decide) rfl dX2_chooseUp_113 (fun H locs hW hL => ?_)
                      have F_47 : Fr S (uF u_36 135 17 i) pFg := F_39.F rfl
                      have F_48 : Fr ((uF S 135 18 0)) (uF u_36 135 17 i) pFg := F_40.F rfl
                      have F_49 : Fr ((uF S7 135 17 0)) (uF u_36 135 17 i) pFg := F_41.F rfl
                      have i_50 : cX G (uF u_36 135 17 i) 0 0 0 := iu_36.F rfl rfl (show (-1) ≤ i ∧ i ≤ 40 from ⟨by omega, by omega⟩)
                      refine lv_iinc (v := iv (i + 1)) (lv' := [(2, .int (iv (i + 1))), (0, .ref (G.2.2.1 + 135)), (1, .int (iv gl))]) hx hb dX2_chooseUp_116 hl (k := 0) rfl ((Int32.ofInt_add _ _).symm) (by decide) rfl (fun ls hl => ?_)
                      refine lv_goto (tgt := 76) hx hb dX2_chooseUp_119 (by decide) ?_
                      have q_51 : 0 ≤ S76.1 135 19 ∧ S76.1 135 19 ≤ 102220 := hI76.fi 135 19 2 (by decide) rfl
                      have lk_52 : (uF u_36 135 17 i).1 135 19 = S76.1 135 19 := (uF_ne (fun h => absurd h.2 (by decide))).trans ((fu_36 135 rfl).1 19)
                      have lk_53 : (uF u_36 135 17 i).1 135 18 = S76.1 135 18 := (uF_ne (fun h => absurd h.2 (by decide))).trans ((fu_36 135 rfl).1 18)
                      have lk_54 : (uF u_36 135 17 i).1 135 17 = i := uF_on
                      exact ih_76 (uF u_36 135 17 i) (i + 1) _ _ _ (by omega) i_50 F_47 F_48 F_49 (by omega) (by omega) (((uF_ne (fun h => absurd h.2 (by decide))).trans ((fu_36 135 rfl).1 18) : (uF u_36 135 17 i).1 135 18 = S76.1 135 18).trans hcs) hcn (by omega) (by omega) ⟨⟨hoc, hod, (neD hcd), (((uF_r).trans ((fu_36 135 rfl).2.2.2 0)).trans hdl2.1.2.2.2.1), (((uF_r).trans ((fu_36 135 rfl).2.2.2 1)).trans hdl2.1.2.2.2.2)⟩, (DRc.of hdl2.2 (show (uF u_36 135 17 i).1 135 13 = S76.1 135 13 from (uF_ne (fun h => absurd h.2 (by decide))).trans ((fu_36 135 rfl).1 13)) (show (uF u_36 135 17 i).1 135 14 = S76.1 135 14 from (uF_ne (fun h => absurd h.2 (by decide))).trans ((fu_36 135 rfl).1 14)) (show (uF u_36 135 17 i).1 135 15 = S76.1 135 15 from (uF_ne (fun h => absurd h.2 (by decide))).trans ((fu_36 135 rfl).1 15)) (show (uF u_36 135 17 i).1 135 16 = S76.1 135 16 from (uF_ne (fun h => absurd h.2 (by decide))).trans ((fu_36 135 rfl).1 16)) (show (uF u_36 135 17 i).2.1 oc = S76.2.1 oc from funext fun x => (uF_a).trans ((fu_36 oc (dic_pGr hoc)).2.1 x)) (show (uF u_36 135 17 i).2.1 138 = S76.2.1 138 from funext fun x => (uF_a).trans ((fu_36 138 rfl).2.1 x)) (show (uF u_36 135 17 i).2.1 139 = S76.2.1 139 from funext fun x => (uF_a).trans ((fu_36 139 rfl).2.1 x)))⟩ (uF_on.trans (pick_y (P := (fun i => 0 < d.2.1 i (cU d gl))) (lt := (ltU d (cU d gl))) (x := S76.1 135 17) (by omega) hpr (by show 0 < d.2.1 i (cU d gl); rw [← hcs]; omega) (by have y := xu_36.2.2; rw [hcs] at y; exact .inr (y.mp (by omega))))) hW hL (lv_sub hl [0, 1, 2] rfl)
          have q_55 : 0 ≤ S7.1 135 19 ∧ S7.1 135 19 ≤ 102220 := hI7.fi 135 19 2 (by decide) rfl
          have lk_56 : (uF S7 135 17 0).1 135 19 = S7.1 135 19 := uF_ne (fun h => absurd h.2 (by decide))
          have lk_57 : (uF S7 135 17 0).1 135 18 = S7.1 135 18 := uF_ne (fun h => absurd h.2 (by decide))
          have lk_58 : (uF S7 135 17 0).1 135 17 = 0 := uF_on
          exact loop_76 (_ + 1) (uF S7 135 17 0) 1 _ _ _ (Nat.lt_succ_self _) i_10 F_8 F_9 Fr.rf (by omega) (by omega) ((uF_ne (fun h => absurd h.2 (by decide)) : (uF S7 135 17 0).1 135 18 = S7.1 135 18).trans (show S7.1 135 18 = cU d gl by have e := hpk; rw [show j - 1 = d.2.2.2.2.2 by omega] at e; exact e)) (by have e := (show S7.1 135 18 = cU d gl by have e := hpk; rw [show j - 1 = d.2.2.2.2.2 by omega] at e; exact e); rw [← e]; omega) (by omega) (by omega) ⟨⟨hoc, hod, (neD hcd), ((uF_r).trans hdl.1.2.2.2.1), ((uF_r).trans hdl.1.2.2.2.2)⟩, (DRc.of hdl.2 (show (uF S7 135 17 0).1 135 13 = S7.1 135 13 from uF_ne (fun h => absurd h.2 (by decide))) (show (uF S7 135 17 0).1 135 14 = S7.1 135 14 from uF_ne (fun h => absurd h.2 (by decide))) (show (uF S7 135 17 0).1 135 15 = S7.1 135 15 from uF_ne (fun h => absurd h.2 (by decide))) (show (uF S7 135 17 0).1 135 16 = S7.1 135 16 from uF_ne (fun h => absurd h.2 (by decide))) (show (uF S7 135 17 0).2.1 oc = S7.2.1 oc from funext fun x => uF_a) (show (uF S7 135 17 0).2.1 138 = S7.2.1 138 from funext fun x => uF_a) (show (uF S7 135 17 0).2.1 139 = S7.2.1 139 from funext fun x => uF_a))⟩ (uF_on.trans (show (0 : Int) = pick _ _ ((1 : Int) - 1).toNat from rfl)) hW hL (lv_sub hl [0, 1, 2] rfl)
        · refine lv_iconst (v := iv 0) hx hb dX2_chooseUp_67 (by decide) ?_
          have q_59 : (-1) ≤ S7.1 135 17 ∧ S7.1 135 17 ≤ 40 := hI7.fi 135 17 2 (by decide) rfl
          have q_60 : 0 ≤ S7.1 135 19 ∧ S7.1 135 19 ≤ 102220 := hI7.fi 135 19 2 (by decide) rfl
          exact sIret Cx hr hlk hW hL ⟨hI7, hFm7, ⟨by omega, by omega, (fun _ => by have e := (show S7.1 135 18 = cU d gl by have e := hpk; rw [show j - 1 = d.2.2.2.2.2 by omega] at e; exact e); omega), (fun q => absurd rfl q), (fun q => absurd q (by omega)), (fun q => absurd q (by omega)), ⟨⟨hoc, hod, (neD hcd), hdl.1.2.2.2.1, hdl.1.2.2.2.2⟩, hdl.2⟩, by omega⟩⟩ dX2_chooseUp_68
      · refine lv_aload_n hx hb dX2_chooseUp_15 rfl (lv_at hl 1 rfl) ?_
        refine lv_iload_n hx hb dX2_chooseUp_16 rfl (lv_at hl 2 rfl) ?_
        refine lv_iload_n hx hb dX2_chooseUp_17 rfl (lv_at hl 0 rfl) ?_
        refine sBi (sV (As := [.int (iv gl), .int (iv j)]) (rest := []) (k := 135) Cx (v_X2_sign l G S7 (i := gl) (j := j) (oc := oc) (od := od) (n := n) (hw := hw) (d := d) hI7 ⟨hoc, hod, (neD hcd), hdl.1.2.2.2.1, hdl.1.2.2.2.2⟩ hdl.2 (by omega) (by omega) (by omega)) (c_X2_95 Cx rfl rfl (rmk_ok (by omega) (by decide))) hW (by decide) rfl rfl rfl hl.1 rfl (Nat.le_of_ble_eq_true rfl) dX2_chooseUp_18 ⟨Nat.le_of_ble_eq_true rfl, Nat.le_of_ble_eq_true rfl⟩) hL (fun r_63 u_61 H locs k_62 hW hL => ?_)
        obtain ⟨eu_61, xu_61⟩ := k_62
        rw [eu_61] at hW
        refine r_if_ge (tgt := 54) hx hb ⟨(by omega), (by omega)⟩ dX2_chooseUp_21 (by decide) (fun c_64 => ?_) (fun c_64 => ?_)
        · refine lv_iinc (v := iv (j + 1)) (lv' := [(2, .int (iv (j + 1))), (0, .ref (G.2.2.1 + 135)), (1, .int (iv gl))]) hx hb dX2_chooseUp_54 hl (k := 0) rfl ((Int32.ofInt_add _ _).symm) (by decide) rfl (fun ls hl => ?_)
          refine lv_goto (tgt := 7) hx hb dX2_chooseUp_57 (by decide) ?_
          have q_65 : 0 ≤ S7.1 135 19 ∧ S7.1 135 19 ≤ 102220 := hI7.fi 135 19 2 (by decide) rfl
          have q_66 : (-1) ≤ S7.1 135 18 ∧ S7.1 135 18 ≤ 13 := hI7.fi 135 18 2 (by decide) rfl
          exact ih_7 S7 (j + 1) _ _ _ (by omega) hI7 hFm7 hL7_ (by omega) (by omega) (by omega) ⟨⟨hoc, hod, (neD hcd), hdl.1.2.2.2.1, hdl.1.2.2.2.2⟩, hdl.2⟩ ((rfl : S7.1 135 18 = S7.1 135 18).trans (pick_n (P := (fun j => d.2.1 gl j < 0)) (lt := (fun j s => d.2.2.2.1 j < d.2.2.2.1 s)) (x := S7.1 135 18) (by omega) hpk (fun z => by have z1 : d.2.1 gl j < 0 := z.1; rcases (by omega : S7.1 135 18 = 0 ∨ 1 ≤ S7.1 135 18) with q | q; omega; (rcases z.2 with y | y; omega; (have y2 : d.2.2.2.1 j < d.2.2.2.1 (S7.1 135 18) := y; rw [← hDR.2.2.2.1 j (by omega) (by omega), ← hDR.2.2.2.1 _ q (by omega)] at y2; omega))))) hW hL (lv_sub hl [0, 1, 2] rfl)
        · refine lv_aload_n hx hb dX2_chooseUp_24 rfl (lv_at hl 1 rfl) ?_
          have q_67 : (-1) ≤ S7.1 135 18 ∧ S7.1 135 18 ≤ 13 := hI7.fi 135 18 2 (by decide) rfl
          refine g_X2_131 Cx hW (k := 135) (by decide) rfl (v := S7.1 135 18) rfl dX2_chooseUp_25 ?_
          refine r_if_eq (tgt := 49) hx hb ⟨(by omega), (by omega)⟩ dX2_chooseUp_28 (by decide) (fun c_68 => ?_) (fun c_68 => ?_)
          · refine lv_aload_n hx hb dX2_chooseUp_49 rfl (lv_at hl 1 rfl) ?_
            refine lv_iload_n hx hb dX2_chooseUp_50 rfl (lv_at hl 0 rfl) ?_
            refine p_X2_131 Cx hW hL (k := 135) (by decide) rfl dX2_chooseUp_51 (fun H locs hW hL => ?_)
            have lk_69 : S7.1 119 9 = S.1 119 9 := ((hL7_ 119 rfl).1 9).trans (uF_ne (fun h => absurd h.2 (by decide)))
            have F_70 : Fr S (uF S7 135 18 j) pFg := hFm7.F rfl
            have F_71 : Fr ((uF S 135 18 0)) (uF S7 135 18 j) pFg := hL7_.F rfl
            have i_72 : cX G (uF S7 135 18 j) 0 0 0 := hI7.column ⟨by omega, by omega⟩ (by omega)
            refine lv_iinc (v := iv (j + 1)) (lv' := [(2, .int (iv (j + 1))), (0, .ref (G.2.2.1 + 135)), (1, .int (iv gl))]) hx hb dX2_chooseUp_54 hl (k := 0) rfl ((Int32.ofInt_add _ _).symm) (by decide) rfl (fun ls hl => ?_)
            refine lv_goto (tgt := 7) hx hb dX2_chooseUp_57 (by decide) ?_
            have q_73 : 0 ≤ S7.1 135 19 ∧ S7.1 135 19 ≤ 102220 := hI7.fi 135 19 2 (by decide) rfl
            have lk_74 : (uF S7 135 18 j).1 135 19 = S7.1 135 19 := uF_ne (fun h => absurd h.2 (by decide))
            have lk_75 : (uF S7 135 18 j).1 135 18 = j := uF_on
            exact ih_7 (uF S7 135 18 j) (j + 1) _ _ _ (by omega) i_72 F_70 F_71 (by omega) (by omega) (by omega) ⟨⟨hoc, hod, (neD hcd), ((uF_r).trans hdl.1.2.2.2.1), ((uF_r).trans hdl.1.2.2.2.2)⟩, (DRc.of hdl.2 (show (uF S7 135 18 j).1 135 13 = S7.1 135 13 from uF_ne (fun h => absurd h.2 (by decide))) (show (uF S7 135 18 j).1 135 14 = S7.1 135 14 from uF_ne (fun h => absurd h.2 (by decide))) (show (uF S7 135 18 j).1 135 15 = S7.1 135 15 from uF_ne (fun h => absurd h.2 (by decide))) (show (uF S7 135 18 j).1 135 16 = S7.1 135 16 from uF_ne (fun h => absurd h.2 (by decide))) (show (uF S7 135 18 j).2.1 oc = S7.2.1 oc from funext fun x => uF_a) (show (uF S7 135 18 j).2.1 138 = S7.2.1 138 from funext fun x => uF_a) (show (uF S7 135 18 j).2.1 139 = S7.2.1 139 from funext fun x => uF_a))⟩ (uF_on.trans (pick_y (P := (fun j => d.2.1 gl j < 0)) (lt := (fun j s => d.2.2.2.1 j < d.2.2.2.1 s)) (x := S7.1 135 18) (by omega) hpk (by show d.2.1 gl j < 0; omega) (by rcases (by omega : S7.1 135 18 = 0 ∨ 1 ≤ S7.1 135 18) with q | q; exact .inl q; exact .inr (by show d.2.2.2.1 j < d.2.2.2.1 (S7.1 135 18); rw [← hDR.2.2.2.1 j (by omega) (by omega), ← hDR.2.2.2.1 _ q (by omega)]; omega)))) hW hL (lv_sub hl [0, 1, 2] rfl)
          · refine lv_aload_n hx hb dX2_chooseUp_31 rfl (lv_at hl 1 rfl) ?_
            refine g_X2_23 Cx hW (k := 135) (by decide) rfl (v := .ref (G.2.2.1 + 139)) (rf_135_3 hI7) dX2_chooseUp_32 ?_
            refine lv_iload_n hx hb dX2_chooseUp_35 rfl (lv_at hl 0 rfl) ?_
            refine rIald Cx hW (k := 139) (by decide) rfl (by decide) (by omega) (by omega) dX2_chooseUp_36 ?_
            have q_76 : (-2147483648) ≤ S.2.1 139 j ∧ S.2.1 139 j ≤ 2147483647 := hI.ai 139 j (by decide)
            refine r_i (b := S.2.1 139 j) (((hL7_ 139 rfl).2.1 j).trans (uF_a)) ?_
            refine lv_aload_n hx hb dX2_chooseUp_37 rfl (lv_at hl 1 rfl) ?_
            refine g_X2_23 Cx hW (k := 135) (by decide) rfl (v := .ref (G.2.2.1 + 139)) (rf_135_3 hI7) dX2_chooseUp_38 ?_
            refine lv_aload_n hx hb dX2_chooseUp_41 rfl (lv_at hl 1 rfl) ?_
            refine g_X2_131 Cx hW (k := 135) (by decide) rfl (v := S7.1 135 18) rfl dX2_chooseUp_42 ?_
            refine rIald Cx hW (k := 139) (by decide) rfl (by decide) (by omega) (by omega) dX2_chooseUp_45 ?_
            have q_77 : (-2147483648) ≤ S.2.1 139 (S7.1 135 18) ∧ S.2.1 139 (S7.1 135 18) ≤ 2147483647 := hI.ai 139 (S7.1 135 18) (by decide)
            refine r_i (b := S.2.1 139 (S7.1 135 18)) (((hL7_ 139 rfl).2.1 (S7.1 135 18)).trans (uF_a)) ?_
            refine r_icmp_ge (tgt := 54) hx hb ⟨(by omega), (by omega)⟩ ⟨(by omega), (by omega)⟩ dX2_chooseUp_46 (by decide) (fun c_78 => ?_) (fun c_78 => ?_)
            · refine lv_iinc (v := iv (j + 1)) (lv' := [(2, .int (iv (j + 1))), (0, .ref (G.2.2.1 + 135)), (1, .int (iv gl))]) hx hb dX2_chooseUp_54 hl (k := 0) rfl ((Int32.ofInt_add _ _).symm) (by decide) rfl (fun ls hl => ?_)
              refine lv_goto (tgt := 7) hx hb dX2_chooseUp_57 (by decide) ?_
              have q_79 : 0 ≤ S7.1 135 19 ∧ S7.1 135 19 ≤ 102220 := hI7.fi 135 19 2 (by decide) rfl
              exact ih_7 S7 (j + 1) _ _ _ (by omega) hI7 hFm7 hL7_ (by omega) (by omega) (by omega) ⟨⟨hoc, hod, (neD hcd), hdl.1.2.2.2.1, hdl.1.2.2.2.2⟩, hdl.2⟩ ((rfl : S7.1 135 18 = S7.1 135 18).trans (pick_n (P := (fun j => d.2.1 gl j < 0)) (lt := (fun j s => d.2.2.2.1 j < d.2.2.2.1 s)) (x := S7.1 135 18) (by omega) hpk (fun z => by have z1 : d.2.1 gl j < 0 := z.1; rcases (by omega : S7.1 135 18 = 0 ∨ 1 ≤ S7.1 135 18) with q | q; omega; (rcases z.2 with y | y; omega; (have y2 : d.2.2.2.1 j < d.2.2.2.1 (S7.1 135 18) := y; rw [← hDR.2.2.2.1 j (by omega) (by omega), ← hDR.2.2.2.1 _ q (by omega)] at y2; omega))))) hW hL (lv_sub hl [0, 1, 2] rfl)
            · refine lv_aload_n hx hb dX2_chooseUp_49 rfl (lv_at hl 1 rfl) ?_
              refine lv_iload_n hx hb dX2_chooseUp_50 rfl (lv_at hl 0 rfl) ?_
              refine p_X2_131 Cx hW hL (k := 135) (by decide) rfl dX2_chooseUp_51 (fun H locs hW hL => ?_)
              have lk_80 : S7.1 119 9 = S.1 119 9 := ((hL7_ 119 rfl).1 9).trans (uF_ne (fun h => absurd h.2 (by decide)))
              have F_81 : Fr S (uF S7 135 18 j) pFg := hFm7.F rfl
              have F_82 : Fr ((uF S 135 18 0)) (uF S7 135 18 j) pFg := hL7_.F rfl
              have i_83 : cX G (uF S7 135 18 j) 0 0 0 := hI7.column ⟨by omega, by omega⟩ (by omega)
              refine lv_iinc (v := iv (j + 1)) (lv' := [(2, .int (iv (j + 1))), (0, .ref (G.2.2.1 + 135)), (1, .int (iv gl))]) hx hb dX2_chooseUp_54 hl (k := 0) rfl ((Int32.ofInt_add _ _).symm) (by decide) rfl (fun ls hl => ?_)
              refine lv_goto (tgt := 7) hx hb dX2_chooseUp_57 (by decide) ?_
              have q_84 : 0 ≤ S7.1 135 19 ∧ S7.1 135 19 ≤ 102220 := hI7.fi 135 19 2 (by decide) rfl
              have lk_85 : (uF S7 135 18 j).1 135 19 = S7.1 135 19 := uF_ne (fun h => absurd h.2 (by decide))
              have lk_86 : (uF S7 135 18 j).1 135 18 = j := uF_on
              exact ih_7 (uF S7 135 18 j) (j + 1) _ _ _ (by omega) i_83 F_81 F_82 (by omega) (by omega) (by omega) ⟨⟨hoc, hod, (neD hcd), ((uF_r).trans hdl.1.2.2.2.1), ((uF_r).trans hdl.1.2.2.2.2)⟩, (DRc.of hdl.2 (show (uF S7 135 18 j).1 135 13 = S7.1 135 13 from uF_ne (fun h => absurd h.2 (by decide))) (show (uF S7 135 18 j).1 135 14 = S7.1 135 14 from uF_ne (fun h => absurd h.2 (by decide))) (show (uF S7 135 18 j).1 135 15 = S7.1 135 15 from uF_ne (fun h => absurd h.2 (by decide))) (show (uF S7 135 18 j).1 135 16 = S7.1 135 16 from uF_ne (fun h => absurd h.2 (by decide))) (show (uF S7 135 18 j).2.1 oc = S7.2.1 oc from funext fun x => uF_a) (show (uF S7 135 18 j).2.1 138 = S7.2.1 138 from funext fun x => uF_a) (show (uF S7 135 18 j).2.1 139 = S7.2.1 139 from funext fun x => uF_a))⟩ (uF_on.trans (pick_y (P := (fun j => d.2.1 gl j < 0)) (lt := (fun j s => d.2.2.2.1 j < d.2.2.2.1 s)) (x := S7.1 135 18) (by omega) hpk (by show d.2.1 gl j < 0; omega) (by rcases (by omega : S7.1 135 18 = 0 ∨ 1 ≤ S7.1 135 18) with q | q; exact .inl q; exact .inr (by show d.2.2.2.1 j < d.2.2.2.1 (S7.1 135 18); rw [← hDR.2.2.2.1 j (by omega) (by omega), ← hDR.2.2.2.1 _ q (by omega)]; omega)))) hW hL (lv_sub hl [0, 1, 2] rfl)
  have q_87 : 0 ≤ S.1 135 19 ∧ S.1 135 19 ≤ 102220 := hI.fi 135 19 2 (by decide) rfl
  have lk_88 : (uF S 135 18 0).1 135 19 = S.1 135 19 := uF_ne (fun h => absurd h.2 (by decide))
  have lk_89 : (uF S 135 18 0).1 135 18 = 0 := uF_on
  exact loop_7 (_ + 1) (uF S 135 18 0) 1 _ _ _ (Nat.lt_succ_self _) i_3 F_2 Fr.rf (by omega) (by omega) (by omega) ⟨⟨hoc, hod, (neD hcd), ((uF_r).trans hec), ((uF_r).trans hed)⟩, (DRc.of hDR (show (uF S 135 18 0).1 135 13 = S.1 135 13 from uF_ne (fun h => absurd h.2 (by decide))) (show (uF S 135 18 0).1 135 14 = S.1 135 14 from uF_ne (fun h => absurd h.2 (by decide))) (show (uF S 135 18 0).1 135 15 = S.1 135 15 from uF_ne (fun h => absurd h.2 (by decide))) (show (uF S 135 18 0).1 135 16 = S.1 135 16 from uF_ne (fun h => absurd h.2 (by decide))) (show (uF S 135 18 0).2.1 oc = S.2.1 oc from funext fun x => uF_a) (show (uF S 135 18 0).2.1 138 = S.2.1 138 from funext fun x => uF_a) (show (uF S 135 18 0).2.1 139 = S.2.1 139 from funext fun x => uF_a))⟩ (uF_on.trans (show (0 : Int) = pick _ _ ((1 : Int) - 1).toNat from rfl)) hW hL (lv_sub hl [0, 1, 2] rfl)

set_option maxRecDepth 100000 in
set_option maxHeartbeats 4000000 in
theorem v_X2_chooseDown (l : Launch) (G : sG) (S : sS) {oc od : Nat} {n hw : Int} {d : dT} (hI : cX G S 0 0 0) (hdq : dcs G S oc od) (hDR : Hd (DRc S oc n hw d)) (hst : S.1 119 9 = 1) : Met l yX2_chooseDown (.code yX2_chooseDown cX2_chooseDown 2 (some .int) :: tb) (rmk 6 0 0) (sPc G 294 S [.ref (G.2.2.1 + 135)]) (sQi G 294 (fun r u => cX G u 0 0 0 ∧ Fr S u pFg ∧ (0 ≤ r ∧ r ≤ 2 ∧ Hd (r = 0 → rDn d = 0) ∧ Hd (r ≠ 0 → rDn d ≠ 0 ∧ u.1 135 17 = rDn d) ∧ Hd (r = 2 → cDn d (rDn d) = 0) ∧ Hd (r = 1 → cDn d (rDn d) ≠ 0 ∧ u.1 135 18 = cDn d (rDn d)) ∧ Hd (dcs G u oc od ∧ DRc u oc n hw d) ∧ u.1 135 19 = S.1 135 19))) 0 0 (sF G) := by
  refine sEnter (by decide) (Nat.le_of_ble_eq_true rfl) ?_
  intro p e s m args below meth c Cx hr hlk hnm hW ls hl
  have Cx : sC G p m c cX2_chooseDown 2 s args RX2 := Cx
  obtain ⟨hx, hb, hml, hown, hts⟩ := id Cx.1
  have hL : sL G [] := sL_nil
  have hl : lv_has ls 2 [(0, .ref (G.2.2.1 + 135))] := hl
  have hW0 := hW
  obtain ⟨hoc, hod, hcd, hec, hed⟩ := id hdq
  have hd13 := hDR.2.2.2.2.1; have hd14 := hDR.2.2.2.2.2.1; have hd15 := hDR.2.2.2.2.2.2.1; have hd16 := hDR.2.2.2.2.2.2.2; have hm40 : 0 ≤ S.1 135 14 ∧ S.1 135 14 ≤ 40 := hI.fi 135 14 2 (by decide) rfl; have hp13 : 0 ≤ S.1 135 15 ∧ S.1 135 15 ≤ 13 := hI.fi 135 15 2 (by decide) rfl
  refine lv_aload_n hx hb dX2_chooseDown_0 rfl (lv_at hl 0 rfl) ?_
  refine lv_iconst (v := iv 0) hx hb dX2_chooseDown_1 (by decide) ?_
  refine p_X2_147 Cx hW hL (k := 135) (by decide) rfl dX2_chooseDown_2 (fun H locs hW hL => ?_)
  have F_1 : Fr S (uF S 135 17 0) pFg := (Fr.rf : Fr S S pFg).F rfl
  have i_2 : cX G (uF S 135 17 0) 0 0 0 := hI.F rfl rfl (show (-1) ≤ 0 ∧ 0 ≤ 40 from ⟨by omega, by omega⟩)
  refine lv_iconst (v := iv 1) hx hb dX2_chooseDown_5 (by decide) ?_
  refine lv_istore_n (lv' := [(1, .int (iv 1)), (0, .ref (G.2.2.1 + 135))]) hx hb dX2_chooseDown_6 rfl hl (by decide) rfl (fun ls hl => ?_)
  have loop_7 : ∀ (fuel : Nat) (S7 : sS) (j : Int) (H : Heap) (locs : List Loc) (ls : Array Slot), (41 - j).toNat < fuel → (cX G S7 0 0 0) → (Fr S S7 pFg) → (Fr ((uF S 135 17 0)) S7 pFg) → (S7.1 135 19 = S.1 135 19) → (1 ≤ j ∧ j ≤ d.2.2.2.2.1 + 1) → (0 ≤ S7.1 135 17 ∧ S7.1 135 17 < j) → (Hd (dcs G S7 oc od ∧ DRc S7 oc n hw d)) → (Hd (S7.1 135 17 = pick (fun i => d.2.1 i 0 < 0) (fun i r => d.2.2.1 i < d.2.2.1 r) (j - 1).toNat)) → sW G 294 S7 H → sL G locs → lv_has ls 2 [(1, .int (iv j)), (0, .ref (G.2.2.1 + 135))] → W p l e (rmk 6 0 0) s m args below meth c H locs 0 0 (MQ below (sQi G 294 (fun r u => cX G u 0 0 0 ∧ Fr S u pFg ∧ (0 ≤ r ∧ r ≤ 2 ∧ Hd (r = 0 → rDn d = 0) ∧ Hd (r ≠ 0 → rDn d ≠ 0 ∧ u.1 135 17 = rDn d) ∧ Hd (r = 2 → cDn d (rDn d) = 0) ∧ Hd (r = 1 → cDn d (rDn d) ≠ 0 ∧ u.1 135 18 = cDn d (rDn d)) ∧ Hd (dcs G u oc od ∧ DRc u oc n hw d) ∧ u.1 135 19 = S.1 135 19))) args s 0 0 (sF G)) (F0 m 7 ls []) := by
    intro fuel
    induction fuel with
    | zero => intro S7 j H locs ls hmeas hI7 hFm7 hL7_ hk9 hj hcl hdl hpk hW hL hl; exact absurd hmeas (Nat.not_lt_zero _)
    | succ fuel ih_7 =>
      intro S7 j H locs ls hmeas hI7 hFm7 hL7_ hk9 hj hcl hdl hpk hW hL hl
      have hdl14 := hdl.2.2.2.2.2.2.1; have hdl15 := hdl.2.2.2.2.2.2.2.1
      refine lv_iload_n hx hb dX2_chooseDown_7 rfl (lv_at hl 0 rfl) ?_
      refine lv_aload_n hx hb dX2_chooseDown_8 rfl (lv_at hl 1 rfl) ?_
      have q_3 : 0 ≤ S7.1 135 14 ∧ S7.1 135 14 ≤ 40 := hI7.fi 135 14 2 (by decide) rfl
      refine g_X2_66 Cx hW (k := 135) (by decide) rfl (v := S7.1 135 14) rfl dX2_chooseDown_9 ?_
      refine r_icmp_gt (tgt := 60) hx hb ⟨(by omega), (by omega)⟩ ⟨(by omega), (by omega)⟩ dX2_chooseDown_12 (by decide) (fun c_4 => ?_) (fun c_4 => ?_)
      · refine lv_aload_n hx hb dX2_chooseDown_60 rfl (lv_at hl 1 rfl) ?_
        have q_5 : (-1) ≤ S7.1 135 17 ∧ S7.1 135 17 ≤ 40 := hI7.fi 135 17 2 (by decide) rfl
        refine g_X2_147 Cx hW (k := 135) (by decide) rfl (v := S7.1 135 17) rfl dX2_chooseDown_61 ?_
        refine r_if_ne (tgt := 69) hx hb ⟨(by omega), (by omega)⟩ dX2_chooseDown_64 (by decide) (fun c_6 => ?_) (fun c_6 => ?_)
        · refine lv_aload_n hx hb dX2_chooseDown_69 rfl (lv_at hl 1 rfl) ?_
          refine lv_iconst (v := iv 0) hx hb dX2_chooseDown_70 (by decide) ?_
          refine p_X2_131 Cx hW hL (k := 135) (by decide) rfl dX2_chooseDown_71 (fun H locs hW hL => ?_)
          have q_7 : 0 ≤ S.1 119 9 ∧ S.1 119 9 ≤ 6 := hI.fi 119 9 7 (by decide) rfl
          have lk_8 : S7.1 119 9 = S.1 119 9 := ((hL7_ 119 rfl).1 9).trans (uF_ne (fun h => absurd h.2 (by decide)))
          have F_9 : Fr S (uF S7 135 18 0) pFg := hFm7.F rfl
          have F_10 : Fr ((uF S 135 17 0)) (uF S7 135 18 0) pFg := hL7_.F rfl
          have i_11 : cX G (uF S7 135 18 0) 0 0 0 := hI7.column ⟨by omega, by omega⟩ (by omega)
          refine lv_iconst (v := iv 1) hx hb dX2_chooseDown_74 (by decide) ?_
          refine lv_istore_n (lv' := [(1, .int (iv 1)), (0, .ref (G.2.2.1 + 135))]) hx hb dX2_chooseDown_75 rfl hl (by decide) rfl (fun ls hl => ?_)
          have loop_76 : ∀ (fuel : Nat) (S76 : sS) (i : Int) (H : Heap) (locs : List Loc) (ls : Array Slot), (41 - i).toNat < fuel → (cX G S76 0 0 0) → (Fr S S76 pFg) → (Fr ((uF S 135 17 0)) S76 pFg) → (Fr ((uF S7 135 18 0)) S76 pFg) → (S76.1 135 19 = S.1 135 19) → (1 ≤ i ∧ i ≤ d.2.2.2.2.2 + 1) → (S76.1 135 17 = rDn d) → (rDn d ≠ 0) → (1 ≤ S76.1 135 17 ∧ S76.1 135 17 ≤ d.2.2.2.2.1) → (0 ≤ S76.1 135 18 ∧ S76.1 135 18 < i) → (Hd (dcs G S76 oc od ∧ DRc S76 oc n hw d)) → (Hd (S76.1 135 18 = pick (fun j => d.2.1 (rDn d) j < 0) (ltD d (rDn d)) (i - 1).toNat)) → sW G 294 S76 H → sL G locs → lv_has ls 2 [(1, .int (iv i)), (0, .ref (G.2.2.1 + 135))] → W p l e (rmk 6 0 0) s m args below meth c H locs 0 0 (MQ below (sQi G 294 (fun r u => cX G u 0 0 0 ∧ Fr S u pFg ∧ (0 ≤ r ∧ r ≤ 2 ∧ Hd (r = 0 → rDn d = 0) ∧ Hd (r ≠ 0 → rDn d ≠ 0 ∧ u.1 135 17 = rDn d) ∧ Hd (r = 2 → cDn d (rDn d) = 0) ∧ Hd (r = 1 → cDn d (rDn d) ≠ 0 ∧ u.1 135 18 = cDn d (rDn d)) ∧ Hd (dcs G u oc od ∧ DRc u oc n hw d) ∧ u.1 135 19 = S.1 135 19))) args s 0 0 (sF G)) (F0 m 76 ls []) := by
            intro fuel
            induction fuel with
            | zero => intro S76 i H locs ls hmeas hI76 hFm76 hFL776 hL76_ hk9 hi hcs hcn hc2 hrw hdl2 hpr hW hL hl; exact absurd hmeas (Nat.not_lt_zero _)
            | succ fuel ih_76 =>
              intro S76 i H locs ls hmeas hI76 hFm76 hFL776 hL76_ hk9 hi hcs hcn hc2 hrw hdl2 hpr hW hL hl
              have hdl214 := hdl2.2.2.2.2.2.2.1; have hdl215 := hdl2.2.2.2.2.2.2.2.1
              refine lv_iload_n hx hb dX2_chooseDown_76 rfl (lv_at hl 0 rfl) ?_
              refine lv_aload_n hx hb dX2_chooseDown_77 rfl (lv_at hl 1 rfl) ?_
              have q_12 : 0 ≤ S76.1 135 15 ∧ S76.1 135 15 ≤ 13 := hI76.fi 135 15 2 (by decide) rfl
              refine g_X2_67 Cx hW (k := 135) (by decide) rfl (v := S76.1 135 15) rfl dX2_chooseDown_78 ?_
              refine r_icmp_gt (tgt := 122) hx hb ⟨(by omega), (by omega)⟩ ⟨(by omega), (by omega)⟩ dX2_chooseDown_81 (by decide) (fun c_13 => ?_) (fun c_13 => ?_)
              · refine lv_aload_n hx hb dX2_chooseDown_122 rfl (lv_at hl 1 rfl) ?_
                have q_14 : (-1) ≤ S76.1 135 18 ∧ S76.1 135 18 ≤ 13 := hI76.fi 135 18 2 (by decide) rfl
                refine g_X2_131 Cx hW (k := 135) (by decide) rfl (v := S76.1 135 18) rfl dX2_chooseDown_123 ?_
                refine r_if_le (tgt := 133) hx hb ⟨(by omega), (by omega)⟩ dX2_chooseDown_126 (by decide) (fun c_15 => ?_) (fun c_15 => ?_)
                · refine lv_iconst (v := iv 2) hx hb dX2_chooseDown_133 (by decide) ?_
                  have q_16 : (-1) ≤ S76.1 135 17 ∧ S76.1 135 17 ≤ 40 := hI76.fi 135 17 2 (by decide) rfl
                  have q_17 : 0 ≤ S76.1 135 19 ∧ S76.1 135 19 ≤ 102220 := hI76.fi 135 19 2 (by decide) rfl
                  exact sIret Cx hr hlk hW hL ⟨hI76, hFm76, ⟨by omega, by omega, (fun q => absurd q (by omega)), (fun _ => ⟨hcn, hcs⟩), (fun _ => by have e := (show S76.1 135 18 = cDn d (rDn d) by have e := hpr; rw [show i - 1 = d.2.2.2.2.2 by omega] at e; exact e); omega), (fun q => absurd q (by omega)), hdl2, by omega⟩⟩ dX2_chooseDown_134
                · refine lv_iconst (v := iv 1) hx hb dX2_chooseDown_129 (by decide) ?_
                  refine lv_goto (tgt := 134) hx hb dX2_chooseDown_130 (by decide) ?_
                  have q_18 : (-1) ≤ S76.1 135 17 ∧ S76.1 135 17 ≤ 40 := hI76.fi 135 17 2 (by decide) rfl
                  have q_19 : 0 ≤ S76.1 135 19 ∧ S76.1 135 19 ≤ 102220 := hI76.fi 135 19 2 (by decide) rfl
                  exact sIret Cx hr hlk hW hL ⟨hI76, hFm76, ⟨by omega, by omega, (fun q => absurd q (by omega)), (fun _ => ⟨hcn, hcs⟩), (fun q => absurd q (by omega)), (fun _ => ⟨by have e := (show S76.1 135 18 = cDn d (rDn d) by have e := hpr; rw [show i - 1 = d.2.2.2.2.2 by omega] at e; exact e); omega, (show S76.1 135 18 = cDn d (rDn d) by have e := hpr; rw [show i - 1 = d.2.2.2.2.2 by omega] at e; exact e)⟩), hdl2, by omega⟩⟩ dX2_chooseDown_134
              · refine lv_aload_n hx hb dX2_chooseDown_84 rfl (lv_at hl 1 rfl) ?_
                refine lv_aload_n hx hb dX2_chooseDown_85 rfl (lv_at hl 1 rfl) ?_
                have q_20 : (-1) ≤ S76.1 135 17 ∧ S76.1 135 17 ≤ 40 := hI76.fi 135 17 2 (by decide) rfl
                refine g_X2_147 Cx hW (k := 135) (by decide) rfl (v := S76.1 135 17) rfl dX2_chooseDown_86 ?_
                refine lv_iload_n hx hb dX2_chooseDown_89 rfl (lv_at hl 0 rfl) ?_
                refine sBi (sV (As := [.int (iv (S76.1 135 17)), .int (iv i)]) (rest := []) (k := 135) Cx (v_X2_sign l G S76 (i := S76.1 135 17) (j := i) (oc := oc) (od := od) (n := n) (hw := hw) (d := d) hI76 ⟨hoc, hod, (neD hcd), hdl2.1.2.2.2.1, hdl2.1.2.2.2.2⟩ hdl2.2 (by omega) (by omega) (by omega)) (c_X2_95 Cx rfl rfl (rmk_ok (by omega) (by decide))) hW (by decide) rfl rfl rfl hl.1 rfl (Nat.le_of_ble_eq_true rfl) dX2_chooseDown_90 ⟨Nat.le_of_ble_eq_true rfl, Nat.le_of_ble_eq_true rfl⟩) hL (fun r_23 u_21 H locs k_22 hW hL => ?_)
                obtain ⟨eu_21, xu_21⟩ := k_22
                rw [eu_21] at hW
                refine r_if_ge (tgt := 116) hx hb ⟨(by omega), (by omega)⟩ dX2_chooseDown_93 (by decide) (fun c_24 => ?_) (fun c_24 => ?_)
                · refine lv_iinc (v := iv (i + 1)) (lv' := [(1, .int (iv (i + 1))), (0, .ref (G.2.2.1 + 135))]) hx hb dX2_chooseDown_116 hl (k := 0) rfl ((Int32.ofInt_add _ _).symm) (by decide) rfl (fun ls hl => ?_)
                  refine lv_goto (tgt := 76) hx hb dX2_chooseDown_119 (by decide) ?_
                  have q_25 : 0 ≤ S76.1 135 19 ∧ S76.1 135 19 ≤ 102220 := hI76.fi 135 19 2 (by decide) rfl
                  have q_26 : (-1) ≤ S76.1 135 18 ∧ S76.1 135 18 ≤ 13 := hI76.fi 135 18 2 (by decide) rfl
                  exact ih_76 S76 (i + 1) _ _ _ (by omega) hI76 hFm76 hFL776 hL76_ (by omega) (by omega) ((rfl : S76.1 135 17 = S76.1 135 17).trans hcs) hcn (by omega) (by omega) ⟨⟨hoc, hod, (neD hcd), hdl2.1.2.2.2.1, hdl2.1.2.2.2.2⟩, hdl2.2⟩ ((rfl : S76.1 135 18 = S76.1 135 18).trans (pick_n (P := (fun j => d.2.1 (rDn d) j < 0)) (lt := (ltD d (rDn d))) (x := S76.1 135 18) (by omega) hpr (fun z => by have z1 : d.2.1 (rDn d) i < 0 := z.1; rw [← hcs] at z1; omega))) hW hL (lv_sub hl [0, 1] rfl)
                · refine lv_aload_n hx hb dX2_chooseDown_96 rfl (lv_at hl 1 rfl) ?_
                  have q_27 : (-1) ≤ S76.1 135 18 ∧ S76.1 135 18 ≤ 13 := hI76.fi 135 18 2 (by decide) rfl
                  refine g_X2_131 Cx hW (k := 135) (by decide) rfl (v := S76.1 135 18) rfl dX2_chooseDown_97 ?_
                  refine r_if_eq (tgt := 111) hx hb ⟨(by omega), (by omega)⟩ dX2_chooseDown_100 (by decide) (fun c_28 => ?_) (fun c_28 => ?_)
                  · refine lv_aload_n hx hb dX2_chooseDown_111 rfl (lv_at hl 1 rfl) ?_
                    refine lv_iload_n hx hb dX2_chooseDown_112 rfl (lv_at hl 0 rfl) ?_
                    refine p_X2_131 Cx hW hL (k := 135) (by decide) rfl dX2_chooseDown_113 (fun H locs hW hL => ?_)
                    have lk_29 : S76.1 119 9 = S.1 119 9 := ((hL76_ 119 rfl).1 9).trans ((uF_ne (fun h => absurd h.2 (by decide))).trans (((hL7_ 119 rfl).1 9).trans (uF_ne (fun h => absurd h.2 (by decide)))))
                    have F_30 : Fr S (uF S76 135 18 i) pFg := hFm76.F rfl
                    have F_31 : Fr ((uF S 135 17 0)) (uF S76 135 18 i) pFg := hFL776.F rfl
                    have F_32 : Fr ((uF S7 135 18 0)) (uF S76 135 18 i) pFg := hL76_.F rfl
                    have i_33 : cX G (uF S76 135 18 i) 0 0 0 := hI76.column ⟨by omega, by omega⟩ (by omega)
                    refine lv_iinc (v := iv (i + 1)) (lv' := [(1, .int (iv (i + 1))), (0, .ref (G.2.2.1 + 135))]) hx hb dX2_chooseDown_116 hl (k := 0) rfl ((Int32.ofInt_add _ _).symm) (by decide) rfl (fun ls hl => ?_)
                    refine lv_goto (tgt := 76) hx hb dX2_chooseDown_119 (by decide) ?_
                    have q_34 : 0 ≤ S76.1 135 19 ∧ S76.1 135 19 ≤ 102220 := hI76.fi 135 19 2 (by decide) rfl
                    have lk_35 : (uF S76 135 18 i).1 135 19 = S76.1 135 19 := uF_ne (fun h => absurd h.2 (by decide))
                    have lk_36 : (uF S76 135 18 i).1 135 17 = S76.1 135 17 := uF_ne (fun h => absurd h.2 (by decide))
                    have lk_37 : (uF S76 135 18 i).1 135 18 = i := uF_on
                    exact ih_76 (uF S76 135 18 i) (i + 1) _ _ _ (by omega) i_33 F_30 F_31 F_32 (by omega) (by omega) ((uF_ne (fun h => absurd h.2 (by decide)) : (uF S76 135 18 i).1 135 17 = S76.1 135 17).trans hcs) hcn (by omega) (by omega) ⟨⟨hoc, hod, (neD hcd), ((uF_r).trans hdl2.1.2.2.2.1), ((uF_r).trans hdl2.1.2.2.2.2)⟩, (DRc.of hdl2.2 (show (uF S76 135 18 i).1 135 13 = S76.1 135 13 from uF_ne (fun h => absurd h.2 (by decide))) (show (uF S76 135 18 i).1 135 14 = S76.1 135 14 from uF_ne (fun h => absurd h.2 (by decide))) (show (uF S76 135 18 i).1 135 15 = S76.1 135 15 from uF_ne (fun h => absurd h.2 (by decide))) (show (uF S76 135 18 i).1 135 16 = S76.1 135 16 from uF_ne (fun h => absurd h.2 (by decide))) (show (uF S76 135 18 i).2.1 oc = S76.2.1 oc from funext fun x => uF_a) (show (uF S76 135 18 i).2.1 138 = S76.2.1 138 from funext fun x => uF_a) (show (uF S76 135 18 i).2.1 139 = S76.2.1 139 from funext fun x => uF_a))⟩ (uF_on.trans (pick_y (P := (fun j => d.2.1 (rDn d) j < 0)) (lt := (ltD d (rDn d))) (x := S76.1 135 18) (by omega) hpr (by show d.2.1 (rDn d) i < 0; rw [← hcs]; omega) (by exact .inl (by omega)))) hW hL (lv_sub hl [0, 1] rfl)
                  · refine lv_aload_n hx hb dX2_chooseDown_103 rfl (lv_at hl 1 rfl) ?_
                    refine lv_iload_n hx hb dX2_chooseDown_104 rfl (lv_at hl 0 rfl) ?_
                    refine sBi (sV (As := [.int (iv i)]) (rest := []) (k := 135) Cx (v_X2_entersAhead l G S76 (j := i) (oc := oc) (od := od) (n := n) (hw := hw) (d := d) hI76 ⟨hoc, hod, (neD hcd), hdl2.1.2.2.2.1, hdl2.1.2.2.2.2⟩ hdl2.2 (by omega) (by omega)) (c_X2_164 Cx rfl rfl (rmk_ok (by omega) (by decide))) hW (by decide) rfl rfl rfl hl.1 rfl (Nat.le_of_ble_eq_true rfl) dX2_chooseDown_105 ⟨Nat.le_of_ble_eq_true rfl, Nat.le_of_ble_eq_true rfl⟩) hL (fun r_40 u_38 H locs k_39 hW hL => ?_)
                    obtain ⟨iu_38, fu_38, xu_38⟩ := k_39
                    have F_41 := hFm76.trans (fu_38.to pGr_F)
                    have F_42 := hFL776.trans (fu_38.to pGr_F)
                    have F_43 := hL76_.trans (fu_38.to pGr_F)
                    refine r_if_eq (tgt := 116) hx hb ⟨(by omega), (by omega)⟩ dX2_chooseDown_108 (by decide) (fun c_44 => ?_) (fun c_44 => ?_)
                    · refine lv_iinc (v := iv (i + 1)) (lv' := [(1, .int (iv (i + 1))), (0, .ref (G.2.2.1 + 135))]) hx hb dX2_chooseDown_116 hl (k := 0) rfl ((Int32.ofInt_add _ _).symm) (by decide) rfl (fun ls hl => ?_)
                      refine lv_goto (tgt := 76) hx hb dX2_chooseDown_119 (by decide) ?_
                      have q_45 : 0 ≤ S76.1 135 19 ∧ S76.1 135 19 ≤ 102220 := hI76.fi 135 19 2 (by decide) rfl
                      have lk_46 : u_38.1 135 19 = S76.1 135 19 := (fu_38 135 rfl).1 19
                      have lk_47 : u_38.1 135 17 = S76.1 135 17 := (fu_38 135 rfl).1 17
                      have lk_48 : u_38.1 135 18 = S76.1 135 18 := (fu_38 135 rfl).1 18
                      exact ih_76 u_38 (i + 1) _ _ _ (by omega) iu_38 F_41 F_42 F_43 (by omega) (by omega) (((fu_38 135 rfl).1 17 : u_38.1 135 17 = S76.1 135 17).trans hcs) hcn (by omega) (by omega) ⟨⟨hoc, hod, (neD hcd), (((fu_38 135 rfl).2.2.2 0).trans hdl2.1.2.2.2.1), (((fu_38 135 rfl).2.2.2 1).trans hdl2.1.2.2.2.2)⟩, (DRc.of hdl2.2 (show u_38.1 135 13 = S76.1 135 13 from (fu_38 135 rfl).1 13) (show u_38.1 135 14 = S76.1 135 14 from (fu_38 135 rfl).1 14) (show u_38.1 135 15 = S76.1 135 15 from (fu_38 135 rfl).1 15) (show u_38.1 135 16 = S76.1 135 16 from (fu_38 135 rfl).1 16) (show u_38.2.1 oc = S76.2.1 oc from funext fun x => (fu_38 oc (dic_pGr hoc)).2.1 x) (show u_38.2.1 138 = S76.2.1 138 from funext fun x => (fu_38 138 rfl).2.1 x) (show u_38.2.1 139 = S76.2.1 139 from funext fun x => (fu_38 139 rfl).2.1 x))⟩ (((fu_38 135 rfl).1 18 : u_38.1 135 18 = S76.1 135 18).trans (pick_n (P := (fun j => d.2.1 (rDn d) j < 0)) (lt := (ltD d (rDn d))) (x := S76.1 135 18) (by omega) hpr (fun z => by have z1 : d.2.1 (rDn d) i < 0 := z.1; rw [← hcs] at z1; have y := xu_38.2.2; rw [hcs] at y; rcases z.2 with q | q; omega; (have := y.mpr q; omega)))) hW hL (lv_sub hl [0, 1] rfl)
                    · refine lv_aload_n hx hb dX2_chooseDown_111 rfl (lv_at hl 1 rfl) ?_
                      refine lv_iload_n hx hb dX2_chooseDown_112 rfl (lv_at hl 0 rfl) ?_
                      refine p_X2_131 Cx hW hL (k := 135) (by decide) rfl dX2_chooseDown_113 (fun H locs hW hL => ?_)
                      have lk_49 : u_38.1 119 9 = S.1 119 9 := ((fu_38 119 rfl).1 9).trans (((hL76_ 119 rfl).1 9).trans ((uF_ne (fun h => absurd h.2 (by decide))).trans (((hL7_ 119 rfl).1 9).trans (uF_ne (fun h => absurd h.2 (by decide))))))
                      have F_50 : Fr S (uF u_38 135 18 i) pFg := F_41.F rfl
                      have F_51 : Fr ((uF S 135 17 0)) (uF u_38 135 18 i) pFg := F_42.F rfl
                      have F_52 : Fr ((uF S7 135 18 0)) (uF u_38 135 18 i) pFg := F_43.F rfl
                      have i_53 : cX G (uF u_38 135 18 i) 0 0 0 := iu_38.column ⟨by omega, by omega⟩ (by omega)
                      refine lv_iinc (v := iv (i + 1)) (lv' := [(1, .int (iv (i + 1))), (0, .ref (G.2.2.1 + 135))]) hx hb dX2_chooseDown_116 hl (k := 0) rfl ((Int32.ofInt_add _ _).symm) (by decide) rfl (fun ls hl => ?_)
                      refine lv_goto (tgt := 76) hx hb dX2_chooseDown_119 (by decide) ?_
                      have q_54 : 0 ≤ S76.1 135 19 ∧ S76.1 135 19 ≤ 102220 := hI76.fi 135 19 2 (by decide) rfl
                      have lk_55 : (uF u_38 135 18 i).1 135 19 = S76.1 135 19 := (uF_ne (fun h => absurd h.2 (by decide))).trans ((fu_38 135 rfl).1 19)
                      have lk_56 : (uF u_38 135 18 i).1 135 17 = S76.1 135 17 := (uF_ne (fun h => absurd h.2 (by decide))).trans ((fu_38 135 rfl).1 17)
                      have lk_57 : (uF u_38 135 18 i).1 135 18 = i := uF_on
                      exact ih_76 (uF u_38 135 18 i) (i + 1) _ _ _ (by omega) i_53 F_50 F_51 F_52 (by omega) (by omega) (((uF_ne (fun h => absurd h.2 (by decide))).trans ((fu_38 135 rfl).1 17) : (uF u_38 135 18 i).1 135 17 = S76.1 135 17).trans hcs) hcn (by omega) (by omega) ⟨⟨hoc, hod, (neD hcd), (((uF_r).trans ((fu_38 135 rfl).2.2.2 0)).trans hdl2.1.2.2.2.1), (((uF_r).trans ((fu_38 135 rfl).2.2.2 1)).trans hdl2.1.2.2.2.2)⟩, (DRc.of hdl2.2 (show (uF u_38 135 18 i).1 135 13 = S76.1 135 13 from (uF_ne (fun h => absurd h.2 (by decide))).trans ((fu_38 135 rfl).1 13)) (show (uF u_38 135 18 i).1 135 14 = S76.1 135 14 from (uF_ne (fun h => absurd h.2 (by decide))).trans ((fu_38 135 rfl).1 14)) (show (uF u_38 135 18 i).1 135 15 = S76.1 135 15 from (uF_ne (fun h => absurd h.2 (by decide))).trans ((fu_38 135 rfl).1 15)) (show (uF u_38 135 18 i).1 135 16 = S76.1 135 16 from (uF_ne (fun h => absurd h.2 (by decide))).trans ((fu_38 135 rfl).1 16)) (show (uF u_38 135 18 i).2.1 oc = S76.2.1 oc from funext fun x => (uF_a).trans ((fu_38 oc (dic_pGr hoc)).2.1 x)) (show (uF u_38 135 18 i).2.1 138 = S76.2.1 138 from funext fun x => (uF_a).trans ((fu_38 138 rfl).2.1 x)) (show (uF u_38 135 18 i).2.1 139 = S76.2.1 139 from funext fun x => (uF_a).trans ((fu_38 139 rfl).2.1 x)))⟩ (uF_on.trans (pick_y (P := (fun j => d.2.1 (rDn d) j < 0)) (lt := (ltD d (rDn d))) (x := S76.1 135 18) (by omega) hpr (by show d.2.1 (rDn d) i < 0; rw [← hcs]; omega) (by have y := xu_38.2.2; rw [hcs] at y; exact .inr (y.mp (by omega))))) hW hL (lv_sub hl [0, 1] rfl)
          have q_58 : 0 ≤ S7.1 135 19 ∧ S7.1 135 19 ≤ 102220 := hI7.fi 135 19 2 (by decide) rfl
          have lk_59 : (uF S7 135 18 0).1 135 19 = S7.1 135 19 := uF_ne (fun h => absurd h.2 (by decide))
          have lk_60 : (uF S7 135 18 0).1 135 17 = S7.1 135 17 := uF_ne (fun h => absurd h.2 (by decide))
          have lk_61 : (uF S7 135 18 0).1 135 18 = 0 := uF_on
          exact loop_76 (_ + 1) (uF S7 135 18 0) 1 _ _ _ (Nat.lt_succ_self _) i_11 F_9 F_10 Fr.rf (by omega) (by omega) ((uF_ne (fun h => absurd h.2 (by decide)) : (uF S7 135 18 0).1 135 17 = S7.1 135 17).trans (show S7.1 135 17 = rDn d by have e := hpk; rw [show j - 1 = d.2.2.2.2.1 by omega] at e; exact e)) (by have e := (show S7.1 135 17 = rDn d by have e := hpk; rw [show j - 1 = d.2.2.2.2.1 by omega] at e; exact e); rw [← e]; omega) (by omega) (by omega) ⟨⟨hoc, hod, (neD hcd), ((uF_r).trans hdl.1.2.2.2.1), ((uF_r).trans hdl.1.2.2.2.2)⟩, (DRc.of hdl.2 (show (uF S7 135 18 0).1 135 13 = S7.1 135 13 from uF_ne (fun h => absurd h.2 (by decide))) (show (uF S7 135 18 0).1 135 14 = S7.1 135 14 from uF_ne (fun h => absurd h.2 (by decide))) (show (uF S7 135 18 0).1 135 15 = S7.1 135 15 from uF_ne (fun h => absurd h.2 (by decide))) (show (uF S7 135 18 0).1 135 16 = S7.1 135 16 from uF_ne (fun h => absurd h.2 (by decide))) (show (uF S7 135 18 0).2.1 oc = S7.2.1 oc from funext fun x => uF_a) (show (uF S7 135 18 0).2.1 138 = S7.2.1 138 from funext fun x => uF_a) (show (uF S7 135 18 0).2.1 139 = S7.2.1 139 from funext fun x => uF_a))⟩ (uF_on.trans (show (0 : Int) = pick _ _ ((1 : Int) - 1).toNat from rfl)) hW hL (lv_sub hl [0, 1] rfl)
        · refine lv_iconst (v := iv 0) hx hb dX2_chooseDown_67 (by decide) ?_
          have q_62 : (-1) ≤ S7.1 135 18 ∧ S7.1 135 18 ≤ 13 := hI7.fi 135 18 2 (by decide) rfl
          have q_63 : 0 ≤ S7.1 135 19 ∧ S7.1 135 19 ≤ 102220 := hI7.fi 135 19 2 (by decide) rfl
          exact sIret Cx hr hlk hW hL ⟨hI7, hFm7, ⟨by omega, by omega, (fun _ => by have e := (show S7.1 135 17 = rDn d by have e := hpk; rw [show j - 1 = d.2.2.2.2.1 by omega] at e; exact e); omega), (fun q => absurd rfl q), (fun q => absurd q (by omega)), (fun q => absurd q (by omega)), ⟨⟨hoc, hod, (neD hcd), hdl.1.2.2.2.1, hdl.1.2.2.2.2⟩, hdl.2⟩, by omega⟩⟩ dX2_chooseDown_68
      · refine lv_aload_n hx hb dX2_chooseDown_15 rfl (lv_at hl 1 rfl) ?_
        refine lv_iload_n hx hb dX2_chooseDown_16 rfl (lv_at hl 0 rfl) ?_
        refine lv_iconst (v := iv 0) hx hb dX2_chooseDown_17 (by decide) ?_
        refine sBi (sV (As := [.int (iv j), .int (iv 0)]) (rest := []) (k := 135) Cx (v_X2_sign l G S7 (i := j) (j := 0) (oc := oc) (od := od) (n := n) (hw := hw) (d := d) hI7 ⟨hoc, hod, (neD hcd), hdl.1.2.2.2.1, hdl.1.2.2.2.2⟩ hdl.2 (by omega) (by omega) (by omega)) (c_X2_95 Cx rfl rfl (rmk_ok (by omega) (by decide))) hW (by decide) rfl rfl rfl hl.1 rfl (Nat.le_of_ble_eq_true rfl) dX2_chooseDown_18 ⟨Nat.le_of_ble_eq_true rfl, Nat.le_of_ble_eq_true rfl⟩) hL (fun r_66 u_64 H locs k_65 hW hL => ?_)
        obtain ⟨eu_64, xu_64⟩ := k_65
        rw [eu_64] at hW
        refine r_if_ge (tgt := 54) hx hb ⟨(by omega), (by omega)⟩ dX2_chooseDown_21 (by decide) (fun c_67 => ?_) (fun c_67 => ?_)
        · refine lv_iinc (v := iv (j + 1)) (lv' := [(1, .int (iv (j + 1))), (0, .ref (G.2.2.1 + 135))]) hx hb dX2_chooseDown_54 hl (k := 0) rfl ((Int32.ofInt_add _ _).symm) (by decide) rfl (fun ls hl => ?_)
          refine lv_goto (tgt := 7) hx hb dX2_chooseDown_57 (by decide) ?_
          have q_68 : 0 ≤ S7.1 135 19 ∧ S7.1 135 19 ≤ 102220 := hI7.fi 135 19 2 (by decide) rfl
          have q_69 : (-1) ≤ S7.1 135 17 ∧ S7.1 135 17 ≤ 40 := hI7.fi 135 17 2 (by decide) rfl
          exact ih_7 S7 (j + 1) _ _ _ (by omega) hI7 hFm7 hL7_ (by omega) (by omega) (by omega) ⟨⟨hoc, hod, (neD hcd), hdl.1.2.2.2.1, hdl.1.2.2.2.2⟩, hdl.2⟩ ((rfl : S7.1 135 17 = S7.1 135 17).trans (pick_n (P := (fun i => d.2.1 i 0 < 0)) (lt := (fun i r => d.2.2.1 i < d.2.2.1 r)) (x := S7.1 135 17) (by omega) hpk (fun z => by have z1 : d.2.1 j 0 < 0 := z.1; rcases (by omega : S7.1 135 17 = 0 ∨ 1 ≤ S7.1 135 17) with q | q; omega; (rcases z.2 with y | y; omega; (have y2 : d.2.2.1 j < d.2.2.1 (S7.1 135 17) := y; rw [← hDR.2.2.1 j (by omega) (by omega), ← hDR.2.2.1 _ q (by omega)] at y2; omega))))) hW hL (lv_sub hl [0, 1] rfl)
        · refine lv_aload_n hx hb dX2_chooseDown_24 rfl (lv_at hl 1 rfl) ?_
          have q_70 : (-1) ≤ S7.1 135 17 ∧ S7.1 135 17 ≤ 40 := hI7.fi 135 17 2 (by decide) rfl
          refine g_X2_147 Cx hW (k := 135) (by decide) rfl (v := S7.1 135 17) rfl dX2_chooseDown_25 ?_
          refine r_if_eq (tgt := 49) hx hb ⟨(by omega), (by omega)⟩ dX2_chooseDown_28 (by decide) (fun c_71 => ?_) (fun c_71 => ?_)
          · refine lv_aload_n hx hb dX2_chooseDown_49 rfl (lv_at hl 1 rfl) ?_
            refine lv_iload_n hx hb dX2_chooseDown_50 rfl (lv_at hl 0 rfl) ?_
            refine p_X2_147 Cx hW hL (k := 135) (by decide) rfl dX2_chooseDown_51 (fun H locs hW hL => ?_)
            have F_72 : Fr S (uF S7 135 17 j) pFg := hFm7.F rfl
            have F_73 : Fr ((uF S 135 17 0)) (uF S7 135 17 j) pFg := hL7_.F rfl
            have i_74 : cX G (uF S7 135 17 j) 0 0 0 := hI7.F rfl rfl (show (-1) ≤ j ∧ j ≤ 40 from ⟨by omega, by omega⟩)
            refine lv_iinc (v := iv (j + 1)) (lv' := [(1, .int (iv (j + 1))), (0, .ref (G.2.2.1 + 135))]) hx hb dX2_chooseDown_54 hl (k := 0) rfl ((Int32.ofInt_add _ _).symm) (by decide) rfl (fun ls hl => ?_)
            refine lv_goto (tgt := 7) hx hb dX2_chooseDown_57 (by decide) ?_
            have q_75 : 0 ≤ S7.1 135 19 ∧ S7.1 135 19 ≤ 102220 := hI7.fi 135 19 2 (by decide) rfl
            have lk_76 : (uF S7 135 17 j).1 135 19 = S7.1 135 19 := uF_ne (fun h => absurd h.2 (by decide))
            have lk_77 : (uF S7 135 17 j).1 135 17 = j := uF_on
            exact ih_7 (uF S7 135 17 j) (j + 1) _ _ _ (by omega) i_74 F_72 F_73 (by omega) (by omega) (by omega) ⟨⟨hoc, hod, (neD hcd), ((uF_r).trans hdl.1.2.2.2.1), ((uF_r).trans hdl.1.2.2.2.2)⟩, (DRc.of hdl.2 (show (uF S7 135 17 j).1 135 13 = S7.1 135 13 from uF_ne (fun h => absurd h.2 (by decide))) (show (uF S7 135 17 j).1 135 14 = S7.1 135 14 from uF_ne (fun h => absurd h.2 (by decide))) (show (uF S7 135 17 j).1 135 15 = S7.1 135 15 from uF_ne (fun h => absurd h.2 (by decide))) (show (uF S7 135 17 j).1 135 16 = S7.1 135 16 from uF_ne (fun h => absurd h.2 (by decide))) (show (uF S7 135 17 j).2.1 oc = S7.2.1 oc from funext fun x => uF_a) (show (uF S7 135 17 j).2.1 138 = S7.2.1 138 from funext fun x => uF_a) (show (uF S7 135 17 j).2.1 139 = S7.2.1 139 from funext fun x => uF_a))⟩ (uF_on.trans (pick_y (P := (fun i => d.2.1 i 0 < 0)) (lt := (fun i r => d.2.2.1 i < d.2.2.1 r)) (x := S7.1 135 17) (by omega) hpk (by show d.2.1 j 0 < 0; omega) (by rcases (by omega : S7.1 135 17 = 0 ∨ 1 ≤ S7.1 135 17) with q | q; exact .inl q; exact .inr (by show d.2.2.1 j < d.2.2.1 (S7.1 135 17); rw [← hDR.2.2.1 j (by omega) (by omega), ← hDR.2.2.1 _ q (by omega)]; omega)))) hW hL (lv_sub hl [0, 1] rfl)
          · refine lv_aload_n hx hb dX2_chooseDown_31 rfl (lv_at hl 1 rfl) ?_
            refine g_X2_20 Cx hW (k := 135) (by decide) rfl (v := .ref (G.2.2.1 + 138)) (rf_135_2 hI7) dX2_chooseDown_32 ?_
            refine lv_iload_n hx hb dX2_chooseDown_35 rfl (lv_at hl 0 rfl) ?_
            refine rIald Cx hW (k := 138) (by decide) rfl (by decide) (by omega) (by omega) dX2_chooseDown_36 ?_
            have q_78 : (-2147483648) ≤ S.2.1 138 j ∧ S.2.1 138 j ≤ 2147483647 := hI.ai 138 j (by decide)
            refine r_i (b := S.2.1 138 j) (((hL7_ 138 rfl).2.1 j).trans (uF_a)) ?_
            refine lv_aload_n hx hb dX2_chooseDown_37 rfl (lv_at hl 1 rfl) ?_
            refine g_X2_20 Cx hW (k := 135) (by decide) rfl (v := .ref (G.2.2.1 + 138)) (rf_135_2 hI7) dX2_chooseDown_38 ?_
            refine lv_aload_n hx hb dX2_chooseDown_41 rfl (lv_at hl 1 rfl) ?_
            refine g_X2_147 Cx hW (k := 135) (by decide) rfl (v := S7.1 135 17) rfl dX2_chooseDown_42 ?_
            refine rIald Cx hW (k := 138) (by decide) rfl (by decide) (by omega) (by omega) dX2_chooseDown_45 ?_
            have q_79 : (-2147483648) ≤ S.2.1 138 (S7.1 135 17) ∧ S.2.1 138 (S7.1 135 17) ≤ 2147483647 := hI.ai 138 (S7.1 135 17) (by decide)
            refine r_i (b := S.2.1 138 (S7.1 135 17)) (((hL7_ 138 rfl).2.1 (S7.1 135 17)).trans (uF_a)) ?_
            refine r_icmp_ge (tgt := 54) hx hb ⟨(by omega), (by omega)⟩ ⟨(by omega), (by omega)⟩ dX2_chooseDown_46 (by decide) (fun c_80 => ?_) (fun c_80 => ?_)
            · refine lv_iinc (v := iv (j + 1)) (lv' := [(1, .int (iv (j + 1))), (0, .ref (G.2.2.1 + 135))]) hx hb dX2_chooseDown_54 hl (k := 0) rfl ((Int32.ofInt_add _ _).symm) (by decide) rfl (fun ls hl => ?_)
              refine lv_goto (tgt := 7) hx hb dX2_chooseDown_57 (by decide) ?_
              have q_81 : 0 ≤ S7.1 135 19 ∧ S7.1 135 19 ≤ 102220 := hI7.fi 135 19 2 (by decide) rfl
              exact ih_7 S7 (j + 1) _ _ _ (by omega) hI7 hFm7 hL7_ (by omega) (by omega) (by omega) ⟨⟨hoc, hod, (neD hcd), hdl.1.2.2.2.1, hdl.1.2.2.2.2⟩, hdl.2⟩ ((rfl : S7.1 135 17 = S7.1 135 17).trans (pick_n (P := (fun i => d.2.1 i 0 < 0)) (lt := (fun i r => d.2.2.1 i < d.2.2.1 r)) (x := S7.1 135 17) (by omega) hpk (fun z => by have z1 : d.2.1 j 0 < 0 := z.1; rcases (by omega : S7.1 135 17 = 0 ∨ 1 ≤ S7.1 135 17) with q | q; omega; (rcases z.2 with y | y; omega; (have y2 : d.2.2.1 j < d.2.2.1 (S7.1 135 17) := y; rw [← hDR.2.2.1 j (by omega) (by omega), ← hDR.2.2.1 _ q (by omega)] at y2; omega))))) hW hL (lv_sub hl [0, 1] rfl)
            · refine lv_aload_n hx hb dX2_chooseDown_49 rfl (lv_at hl 1 rfl) ?_
              refine lv_iload_n hx hb dX2_chooseDown_50 rfl (lv_at hl 0 rfl) ?_
              refine p_X2_147 Cx hW hL (k := 135) (by decide) rfl dX2_chooseDown_51 (fun H locs hW hL => ?_)
              have F_82 : Fr S (uF S7 135 17 j) pFg := hFm7.F rfl
              have F_83 : Fr ((uF S 135 17 0)) (uF S7 135 17 j) pFg := hL7_.F rfl
              have i_84 : cX G (uF S7 135 17 j) 0 0 0 := hI7.F rfl rfl (show (-1) ≤ j ∧ j ≤ 40 from ⟨by omega, by omega⟩)
              refine lv_iinc (v := iv (j + 1)) (lv' := [(1, .int (iv (j + 1))), (0, .ref (G.2.2.1 + 135))]) hx hb dX2_chooseDown_54 hl (k := 0) rfl ((Int32.ofInt_add _ _).symm) (by decide) rfl (fun ls hl => ?_)
              refine lv_goto (tgt := 7) hx hb dX2_chooseDown_57 (by decide) ?_
              have q_85 : 0 ≤ S7.1 135 19 ∧ S7.1 135 19 ≤ 102220 := hI7.fi 135 19 2 (by decide) rfl
              have lk_86 : (uF S7 135 17 j).1 135 19 = S7.1 135 19 := uF_ne (fun h => absurd h.2 (by decide))
              have lk_87 : (uF S7 135 17 j).1 135 17 = j := uF_on
              exact ih_7 (uF S7 135 17 j) (j + 1) _ _ _ (by omega) i_84 F_82 F_83 (by omega) (by omega) (by omega) ⟨⟨hoc, hod, (neD hcd), ((uF_r).trans hdl.1.2.2.2.1), ((uF_r).trans hdl.1.2.2.2.2)⟩, (DRc.of hdl.2 (show (uF S7 135 17 j).1 135 13 = S7.1 135 13 from uF_ne (fun h => absurd h.2 (by decide))) (show (uF S7 135 17 j).1 135 14 = S7.1 135 14 from uF_ne (fun h => absurd h.2 (by decide))) (show (uF S7 135 17 j).1 135 15 = S7.1 135 15 from uF_ne (fun h => absurd h.2 (by decide))) (show (uF S7 135 17 j).1 135 16 = S7.1 135 16 from uF_ne (fun h => absurd h.2 (by decide))) (show (uF S7 135 17 j).2.1 oc = S7.2.1 oc from funext fun x => uF_a) (show (uF S7 135 17 j).2.1 138 = S7.2.1 138 from funext fun x => uF_a) (show (uF S7 135 17 j).2.1 139 = S7.2.1 139 from funext fun x => uF_a))⟩ (uF_on.trans (pick_y (P := (fun i => d.2.1 i 0 < 0)) (lt := (fun i r => d.2.2.1 i < d.2.2.1 r)) (x := S7.1 135 17) (by omega) hpk (by show d.2.1 j 0 < 0; omega) (by rcases (by omega : S7.1 135 17 = 0 ∨ 1 ≤ S7.1 135 17) with q | q; exact .inl q; exact .inr (by show d.2.2.1 j < d.2.2.1 (S7.1 135 17); rw [← hDR.2.2.1 j (by omega) (by omega), ← hDR.2.2.1 _ q (by omega)]; omega)))) hW hL (lv_sub hl [0, 1] rfl)
  have q_88 : 0 ≤ S.1 135 19 ∧ S.1 135 19 ≤ 102220 := hI.fi 135 19 2 (by decide) rfl
  have lk_89 : (uF S 135 17 0).1 135 19 = S.1 135 19 := uF_ne (fun h => absurd h.2 (by decide))
  have lk_90 : (uF S 135 17 0).1 135 17 = 0 := uF_on
  exact loop_7 (_ + 1) (uF S 135 17 0) 1 _ _ _ (Nat.lt_succ_self _) i_2 F_1 Fr.rf (by omega) (by omega) (by omega) ⟨⟨hoc, hod, (neD hcd), ((uF_r).trans hec), ((uF_r).trans hed)⟩, (DRc.of hDR (show (uF S 135 17 0).1 135 13 = S.1 135 13 from uF_ne (fun h => absurd h.2 (by decide))) (show (uF S 135 17 0).1 135 14 = S.1 135 14 from uF_ne (fun h => absurd h.2 (by decide))) (show (uF S 135 17 0).1 135 15 = S.1 135 15 from uF_ne (fun h => absurd h.2 (by decide))) (show (uF S 135 17 0).1 135 16 = S.1 135 16 from uF_ne (fun h => absurd h.2 (by decide))) (show (uF S 135 17 0).2.1 oc = S.2.1 oc from funext fun x => uF_a) (show (uF S 135 17 0).2.1 138 = S.2.1 138 from funext fun x => uF_a) (show (uF S 135 17 0).2.1 139 = S.2.1 139 from funext fun x => uF_a))⟩ (uF_on.trans (show (0 : Int) = pick _ _ ((1 : Int) - 1).toNat from rfl)) hW hL (lv_sub hl [0, 1] rfl)

set_option maxRecDepth 100000 in
set_option maxHeartbeats 4000000 in
theorem v_X2_chooseFirst (l : Launch) (G : sG) (S : sS) {oc od : Nat} {n hw : Int} {d : dT} (hI : cX G S 0 0 0) (hdq : dcs G S oc od) (hDR : Hd (DRc S oc n hw d)) (hst : S.1 119 9 = 1) (hm1 : 1 ≤ d.2.2.2.2.1) (hsm : Hd (∀ i, 1 ≤ i → i ≤ d.2.2.2.2.1 → -999999999 ≤ d.2.1 i 0 ∧ d.2.1 i 0 ≤ 999999999)) : Met l yX2_chooseFirst (.code yX2_chooseFirst cX2_chooseFirst 2 (some .int) :: tb) (rmk 2 0 0) (sPc G 294 S [.ref (G.2.2.1 + 135)]) (sQi G 294 (fun r u => cX G u 0 0 0 ∧ Fr S u pFg ∧ (r = 1 ∧ Hd (u.1 135 17 = rFi d) ∧ Hd (pOf d 0 ≠ 0 → u.1 135 18 = pOf d 0) ∧ Hd (dcs G u oc od ∧ DRc u oc n hw d) ∧ u.1 135 19 = S.1 135 19))) 0 0 (sF G) := by
  refine sEnter (by decide) (Nat.le_of_ble_eq_true rfl) ?_
  intro p e s m args below meth c Cx hr hlk hnm hW ls hl
  have Cx : sC G p m c cX2_chooseFirst 2 s args RX2 := Cx
  obtain ⟨hx, hb, hml, hown, hts⟩ := id Cx.1
  have hL : sL G [] := sL_nil
  have hl : lv_has ls 2 [(0, .ref (G.2.2.1 + 135))] := hl
  have hW0 := hW
  obtain ⟨hoc, hod, hcd, hec, hed⟩ := id hdq
  have hd13 := hDR.2.2.2.2.1; have hd14 := hDR.2.2.2.2.2.1; have hd15 := hDR.2.2.2.2.2.2.1; have hd16 := hDR.2.2.2.2.2.2.2; have hm40 : 0 ≤ S.1 135 14 ∧ S.1 135 14 ≤ 40 := hI.fi 135 14 2 (by decide) rfl; have hp13 : 0 ≤ S.1 135 15 ∧ S.1 135 15 ≤ 13 := hI.fi 135 15 2 (by decide) rfl
  refine lv_aload_n hx hb dX2_chooseFirst_0 rfl (lv_at hl 0 rfl) ?_
  refine lv_iconst (v := iv 1) hx hb dX2_chooseFirst_1 (by decide) ?_
  refine p_X2_147 Cx hW hL (k := 135) (by decide) rfl dX2_chooseFirst_2 (fun H locs hW hL => ?_)
  have F_1 : Fr S (uF S 135 17 1) pFg := (Fr.rf : Fr S S pFg).F rfl
  have i_2 : cX G (uF S 135 17 1) 0 0 0 := hI.F rfl rfl (show (-1) ≤ 1 ∧ 1 ≤ 40 from ⟨by omega, by omega⟩)
  refine lv_iconst (v := iv 2) hx hb dX2_chooseFirst_5 (by decide) ?_
  refine lv_istore_n (lv' := [(1, .int (iv 2)), (0, .ref (G.2.2.1 + 135))]) hx hb dX2_chooseFirst_6 rfl hl (by decide) rfl (fun ls hl => ?_)
  have loop_7 : ∀ (fuel : Nat) (S7 : sS) (i : Int) (H : Heap) (locs : List Loc) (ls : Array Slot), (41 - i).toNat < fuel → (cX G S7 0 0 0) → (Fr S S7 pFg) → (Fr ((uF S 135 17 1)) S7 pFg) → (S7.1 135 19 = S.1 135 19) → (2 ≤ i ∧ i ≤ d.2.2.2.2.1 + 1) → (1 ≤ S7.1 135 17 ∧ S7.1 135 17 < i) → (Hd (dcs G S7 oc od ∧ DRc S7 oc n hw d)) → (Hd (S7.1 135 17 = pick (fun _ => True) (fun i r => d.2.1 i 0 < d.2.1 r 0) (i - 1).toNat)) → sW G 294 S7 H → sL G locs → lv_has ls 2 [(1, .int (iv i)), (0, .ref (G.2.2.1 + 135))] → W p l e (rmk 2 0 0) s m args below meth c H locs 0 0 (MQ below (sQi G 294 (fun r u => cX G u 0 0 0 ∧ Fr S u pFg ∧ (r = 1 ∧ Hd (u.1 135 17 = rFi d) ∧ Hd (pOf d 0 ≠ 0 → u.1 135 18 = pOf d 0) ∧ Hd (dcs G u oc od ∧ DRc u oc n hw d) ∧ u.1 135 19 = S.1 135 19))) args s 0 0 (sF G)) (F0 m 7 ls []) := by
    intro fuel
    induction fuel with
    | zero => intro S7 i H locs ls hmeas hI7 hFm7 hL7_ hk9 hi hrw hdl hpk hW hL hl; exact absurd hmeas (Nat.not_lt_zero _)
    | succ fuel ih_7 =>
      intro S7 i H locs ls hmeas hI7 hFm7 hL7_ hk9 hi hrw hdl hpk hW hL hl
      have hdl14 := hdl.2.2.2.2.2.2.1; have hdl15 := hdl.2.2.2.2.2.2.2.1
      refine lv_iload_n hx hb dX2_chooseFirst_7 rfl (lv_at hl 0 rfl) ?_
      refine lv_aload_n hx hb dX2_chooseFirst_8 rfl (lv_at hl 1 rfl) ?_
      have q_3 : 0 ≤ S7.1 135 14 ∧ S7.1 135 14 ≤ 40 := hI7.fi 135 14 2 (by decide) rfl
      refine g_X2_66 Cx hW (k := 135) (by decide) rfl (v := S7.1 135 14) rfl dX2_chooseFirst_9 ?_
      refine r_icmp_gt (tgt := 51) hx hb ⟨(by omega), (by omega)⟩ ⟨(by omega), (by omega)⟩ dX2_chooseFirst_12 (by decide) (fun c_4 => ?_) (fun c_4 => ?_)
      · refine lv_aload_n hx hb dX2_chooseFirst_51 rfl (lv_at hl 1 rfl) ?_
        refine lv_aload_n hx hb dX2_chooseFirst_52 rfl (lv_at hl 1 rfl) ?_
        refine lv_iconst (v := iv 0) hx hb dX2_chooseFirst_53 (by decide) ?_
        refine sBi (sV (As := [.int (iv 0)]) (rest := [.ref (G.2.2.1 + 135)]) (k := 135) Cx (v_X2_placeOf l G S7 (k := 0) (oc := oc) (od := od) (n := n) (hw := hw) (d := d) hI7 ⟨hoc, hod, (neD hcd), hdl.1.2.2.2.1, hdl.1.2.2.2.2⟩ hdl.2 (by omega)) (c_X2_118 Cx rfl rfl (rmk_ok (by omega) (by decide))) hW (by decide) rfl rfl rfl hl.1 rfl (Nat.le_of_ble_eq_true rfl) dX2_chooseFirst_54 ⟨Nat.le_of_ble_eq_true rfl, Nat.le_of_ble_eq_true rfl⟩) hL (fun r_7 u_5 H locs k_6 hW hL => ?_)
        obtain ⟨eu_5, xu_5⟩ := k_6
        rw [eu_5] at hW
        refine p_X2_131 Cx hW hL (k := 135) (by decide) rfl dX2_chooseFirst_57 (fun H locs hW hL => ?_)
        have q_8 : 0 ≤ S.1 119 9 ∧ S.1 119 9 ≤ 6 := hI.fi 119 9 7 (by decide) rfl
        have lk_9 : S7.1 119 9 = S.1 119 9 := ((hL7_ 119 rfl).1 9).trans (uF_ne (fun h => absurd h.2 (by decide)))
        have F_10 : Fr S (uF S7 135 18 r_7) pFg := hFm7.F rfl
        have F_11 : Fr ((uF S 135 17 1)) (uF S7 135 18 r_7) pFg := hL7_.F rfl
        have i_12 : cX G (uF S7 135 18 r_7) 0 0 0 := hI7.column ⟨by omega, by omega⟩ (by omega)
        refine lv_iconst (v := iv 1) hx hb dX2_chooseFirst_60 (by decide) ?_
        have q_13 : (-1) ≤ S7.1 135 17 ∧ S7.1 135 17 ≤ 40 := hI7.fi 135 17 2 (by decide) rfl
        have lk_14 : (uF S7 135 18 r_7).1 135 17 = S7.1 135 17 := uF_ne (fun h => absurd h.2 (by decide))
        have lk_15 : (uF S7 135 18 r_7).1 135 18 = r_7 := uF_on
        have q_16 : 0 ≤ S7.1 135 19 ∧ S7.1 135 19 ≤ 102220 := hI7.fi 135 19 2 (by decide) rfl
        have lk_17 : (uF S7 135 18 r_7).1 135 19 = S7.1 135 19 := uF_ne (fun h => absurd h.2 (by decide))
        exact sIret Cx hr hlk hW hL ⟨i_12, F_10, ⟨by omega, ((uF_ne (fun h => absurd h.2 (by decide)) : (uF S7 135 18 r_7).1 135 17 = S7.1 135 17).trans (show S7.1 135 17 = rFi d by have e := hpk; rw [show i - 1 = d.2.2.2.2.1 by omega] at e; exact e)), (fun q => uF_on.trans (by omega)), ⟨⟨hoc, hod, (neD hcd), ((uF_r).trans hdl.1.2.2.2.1), ((uF_r).trans hdl.1.2.2.2.2)⟩, (DRc.of hdl.2 (show (uF S7 135 18 r_7).1 135 13 = S7.1 135 13 from uF_ne (fun h => absurd h.2 (by decide))) (show (uF S7 135 18 r_7).1 135 14 = S7.1 135 14 from uF_ne (fun h => absurd h.2 (by decide))) (show (uF S7 135 18 r_7).1 135 15 = S7.1 135 15 from uF_ne (fun h => absurd h.2 (by decide))) (show (uF S7 135 18 r_7).1 135 16 = S7.1 135 16 from uF_ne (fun h => absurd h.2 (by decide))) (show (uF S7 135 18 r_7).2.1 oc = S7.2.1 oc from funext fun x => uF_a) (show (uF S7 135 18 r_7).2.1 138 = S7.2.1 138 from funext fun x => uF_a) (show (uF S7 135 18 r_7).2.1 139 = S7.2.1 139 from funext fun x => uF_a))⟩, by omega⟩⟩ dX2_chooseFirst_61
      · refine lv_aload_n hx hb dX2_chooseFirst_15 rfl (lv_at hl 1 rfl) ?_
        refine lv_iload_n hx hb dX2_chooseFirst_16 rfl (lv_at hl 0 rfl) ?_
        refine lv_iconst (v := iv 0) hx hb dX2_chooseFirst_17 (by decide) ?_
        refine sBi (sSt (As := [.int (iv i), .int (iv 0)]) (rest := [.ref (G.2.2.1 + 135)]) Cx (s_X2_at l G S7 (i := i) (j := 0) (by omega) (by omega)) (c_X2_77 Cx rfl rfl (rmk_ok (by omega) (by decide))) hW rfl hl.1 rfl (Nat.le_of_ble_eq_true rfl) dX2_chooseFirst_18 ⟨Nat.le_of_ble_eq_true rfl, Nat.le_of_ble_eq_true rfl⟩) hL (fun r_20 u_18 H locs k_19 hW hL => ?_)
        obtain ⟨eu_18, xu_18⟩ := k_19
        rw [eu_18] at hW
        refine sBl (sV (As := [.int (iv r_20)]) (rest := []) (k := 135) Cx (v_X2_small l G S7 (a := r_20) (oc := oc) (od := od) hI7 ⟨hoc, hod, (neD hcd), hdl.1.2.2.2.1, hdl.1.2.2.2.2⟩ (by omega)) (c_X2_150 Cx rfl rfl (rmk_ok (by omega) (by decide))) hW (by decide) rfl rfl rfl hl.1 rfl (Nat.le_of_ble_eq_true rfl) dX2_chooseFirst_21 ⟨Nat.le_of_ble_eq_true rfl, Nat.le_of_ble_eq_true rfl⟩) hL (fun r_23 u_21 H locs k_22 hW hL => ?_)
        obtain ⟨eu_21, xu_21⟩ := k_22
        rw [eu_21] at hW
        have a1 : r_23 = d.2.1 i 0 := by have h1 := NO.one9 (SlotOK.no (dicS hI7 hoc (a := r_20) (by omega)) (by decide)) (by rw [(show nv (S7.2.1 oc) r_20 = d.2.1 i 0 by rw [show r_20 = (i + 2) * 112 + 0 * 8 by omega]; exact hdl.2.2.1 i 0 (by omega) (by omega) (by omega) (by omega) (by omega))]; exact hsm i (by omega) (by omega)); rw [xu_21.2.2.2 h1.1 h1.2, (show nv (S7.2.1 oc) r_20 = d.2.1 i 0 by rw [show r_20 = (i + 2) * 112 + 0 * 8 by omega]; exact hdl.2.2.1 i 0 (by omega) (by omega) (by omega) (by omega) (by omega))]
        refine lv_aload_n hx hb dX2_chooseFirst_24 rfl (lv_at hl 1 rfl) ?_
        refine lv_aload_n hx hb dX2_chooseFirst_25 rfl (lv_at hl 1 rfl) ?_
        have q_24 : (-1) ≤ S7.1 135 17 ∧ S7.1 135 17 ≤ 40 := hI7.fi 135 17 2 (by decide) rfl
        refine g_X2_147 Cx hW (k := 135) (by decide) rfl (v := S7.1 135 17) rfl dX2_chooseFirst_26 ?_
        refine lv_iconst (v := iv 0) hx hb dX2_chooseFirst_29 (by decide) ?_
        refine sBi (sSt (As := [.int (iv (S7.1 135 17)), .int (iv 0)]) (rest := [.ref (G.2.2.1 + 135), .long (jv r_23)]) Cx (s_X2_at l G S7 (i := S7.1 135 17) (j := 0) (by omega) (by omega)) (c_X2_77 Cx rfl rfl (rmk_ok (by omega) (by decide))) hW rfl hl.1 rfl (Nat.le_of_ble_eq_true rfl) dX2_chooseFirst_30 ⟨Nat.le_of_ble_eq_true rfl, Nat.le_of_ble_eq_true rfl⟩) hL (fun r_27 u_25 H locs k_26 hW hL => ?_)
        obtain ⟨eu_25, xu_25⟩ := k_26
        rw [eu_25] at hW
        refine sBl (sV (As := [.int (iv r_27)]) (rest := [.long (jv r_23)]) (k := 135) Cx (v_X2_small l G S7 (a := r_27) (oc := oc) (od := od) hI7 ⟨hoc, hod, (neD hcd), hdl.1.2.2.2.1, hdl.1.2.2.2.2⟩ (by omega)) (c_X2_150 Cx rfl rfl (rmk_ok (by omega) (by decide))) hW (by decide) rfl rfl rfl hl.1 rfl (Nat.le_of_ble_eq_true rfl) dX2_chooseFirst_33 ⟨Nat.le_of_ble_eq_true rfl, Nat.le_of_ble_eq_true rfl⟩) hL (fun r_30 u_28 H locs k_29 hW hL => ?_)
        obtain ⟨eu_28, xu_28⟩ := k_29
        rw [eu_28] at hW
        have a2 : r_30 = d.2.1 (S7.1 135 17) 0 := by have h1 := NO.one9 (SlotOK.no (dicS hI7 hoc (a := r_27) (by omega)) (by decide)) (by rw [(show nv (S7.2.1 oc) r_27 = d.2.1 (S7.1 135 17) 0 by rw [show r_27 = (S7.1 135 17 + 2) * 112 + 0 * 8 by omega]; exact hdl.2.2.1 (S7.1 135 17) 0 (by omega) (by omega) (by omega) (by omega) (by omega))]; exact hsm (S7.1 135 17) (by omega) (by omega)); rw [xu_28.2.2.2 h1.1 h1.2, (show nv (S7.2.1 oc) r_27 = d.2.1 (S7.1 135 17) 0 by rw [show r_27 = (S7.1 135 17 + 2) * 112 + 0 * 8 by omega]; exact hdl.2.2.1 (S7.1 135 17) 0 (by omega) (by omega) (by omega) (by omega) (by omega))]
        refine r_lcmp hx hb ⟨(by omega), (by omega)⟩ ⟨(by omega), (by omega)⟩ dX2_chooseFirst_36 (fun z_31 az_31 bz_31 cz_31 => ?_)
        refine r_if_ge (tgt := 45) hx hb ⟨(by omega), (by omega)⟩ dX2_chooseFirst_37 (by decide) (fun c_32 => ?_) (fun c_32 => ?_)
        · refine lv_iinc (v := iv (i + 1)) (lv' := [(1, .int (iv (i + 1))), (0, .ref (G.2.2.1 + 135))]) hx hb dX2_chooseFirst_45 hl (k := 0) rfl ((Int32.ofInt_add _ _).symm) (by decide) rfl (fun ls hl => ?_)
          refine lv_goto (tgt := 7) hx hb dX2_chooseFirst_48 (by decide) ?_
          have q_33 : 0 ≤ S7.1 135 19 ∧ S7.1 135 19 ≤ 102220 := hI7.fi 135 19 2 (by decide) rfl
          exact ih_7 S7 (i + 1) _ _ _ (by omega) hI7 hFm7 hL7_ (by omega) (by omega) (by omega) ⟨⟨hoc, hod, (neD hcd), hdl.1.2.2.2.1, hdl.1.2.2.2.2⟩, hdl.2⟩ ((rfl : S7.1 135 17 = S7.1 135 17).trans (pick_n (P := (fun _ => True)) (lt := (fun i r => d.2.1 i 0 < d.2.1 r 0)) (x := S7.1 135 17) (by omega) hpk (fun z => by rcases z.2 with y | y; omega; (have y2 : d.2.1 i 0 < d.2.1 (S7.1 135 17) 0 := y; omega)))) hW hL (lv_sub hl [0, 1] rfl)
        · refine lv_aload_n hx hb dX2_chooseFirst_40 rfl (lv_at hl 1 rfl) ?_
          refine lv_iload_n hx hb dX2_chooseFirst_41 rfl (lv_at hl 0 rfl) ?_
          refine p_X2_147 Cx hW hL (k := 135) (by decide) rfl dX2_chooseFirst_42 (fun H locs hW hL => ?_)
          have F_34 : Fr S (uF S7 135 17 i) pFg := hFm7.F rfl
          have F_35 : Fr ((uF S 135 17 1)) (uF S7 135 17 i) pFg := hL7_.F rfl
          have i_36 : cX G (uF S7 135 17 i) 0 0 0 := hI7.F rfl rfl (show (-1) ≤ i ∧ i ≤ 40 from ⟨by omega, by omega⟩)
          refine lv_iinc (v := iv (i + 1)) (lv' := [(1, .int (iv (i + 1))), (0, .ref (G.2.2.1 + 135))]) hx hb dX2_chooseFirst_45 hl (k := 0) rfl ((Int32.ofInt_add _ _).symm) (by decide) rfl (fun ls hl => ?_)
          refine lv_goto (tgt := 7) hx hb dX2_chooseFirst_48 (by decide) ?_
          have q_37 : 0 ≤ S7.1 135 19 ∧ S7.1 135 19 ≤ 102220 := hI7.fi 135 19 2 (by decide) rfl
          have lk_38 : (uF S7 135 17 i).1 135 19 = S7.1 135 19 := uF_ne (fun h => absurd h.2 (by decide))
          have lk_39 : (uF S7 135 17 i).1 135 17 = i := uF_on
          exact ih_7 (uF S7 135 17 i) (i + 1) _ _ _ (by omega) i_36 F_34 F_35 (by omega) (by omega) (by omega) ⟨⟨hoc, hod, (neD hcd), ((uF_r).trans hdl.1.2.2.2.1), ((uF_r).trans hdl.1.2.2.2.2)⟩, (DRc.of hdl.2 (show (uF S7 135 17 i).1 135 13 = S7.1 135 13 from uF_ne (fun h => absurd h.2 (by decide))) (show (uF S7 135 17 i).1 135 14 = S7.1 135 14 from uF_ne (fun h => absurd h.2 (by decide))) (show (uF S7 135 17 i).1 135 15 = S7.1 135 15 from uF_ne (fun h => absurd h.2 (by decide))) (show (uF S7 135 17 i).1 135 16 = S7.1 135 16 from uF_ne (fun h => absurd h.2 (by decide))) (show (uF S7 135 17 i).2.1 oc = S7.2.1 oc from funext fun x => uF_a) (show (uF S7 135 17 i).2.1 138 = S7.2.1 138 from funext fun x => uF_a) (show (uF S7 135 17 i).2.1 139 = S7.2.1 139 from funext fun x => uF_a))⟩ (uF_on.trans (pick_y (P := (fun _ => True)) (lt := (fun i r => d.2.1 i 0 < d.2.1 r 0)) (x := S7.1 135 17) (by omega) hpk trivial (.inr (by show d.2.1 i 0 < d.2.1 (S7.1 135 17) 0; omega)))) hW hL (lv_sub hl [0, 1] rfl)
  have q_40 : 0 ≤ S.1 135 19 ∧ S.1 135 19 ≤ 102220 := hI.fi 135 19 2 (by decide) rfl
  have lk_41 : (uF S 135 17 1).1 135 19 = S.1 135 19 := uF_ne (fun h => absurd h.2 (by decide))
  have lk_42 : (uF S 135 17 1).1 135 17 = 1 := uF_on
  exact loop_7 (_ + 1) (uF S 135 17 1) 2 _ _ _ (Nat.lt_succ_self _) i_2 F_1 Fr.rf (by omega) (by omega) (by omega) ⟨⟨hoc, hod, (neD hcd), ((uF_r).trans hec), ((uF_r).trans hed)⟩, (DRc.of hDR (show (uF S 135 17 1).1 135 13 = S.1 135 13 from uF_ne (fun h => absurd h.2 (by decide))) (show (uF S 135 17 1).1 135 14 = S.1 135 14 from uF_ne (fun h => absurd h.2 (by decide))) (show (uF S 135 17 1).1 135 15 = S.1 135 15 from uF_ne (fun h => absurd h.2 (by decide))) (show (uF S 135 17 1).1 135 16 = S.1 135 16 from uF_ne (fun h => absurd h.2 (by decide))) (show (uF S 135 17 1).2.1 oc = S.2.1 oc from funext fun x => uF_a) (show (uF S 135 17 1).2.1 138 = S.2.1 138 from funext fun x => uF_a) (show (uF S 135 17 1).2.1 139 = S.2.1 139 from funext fun x => uF_a))⟩ (uF_on.trans pick_1t) hW hL (lv_sub hl [0, 1] rfl)

set_option maxRecDepth 100000 in
set_option maxHeartbeats 4000000 in
theorem v_X2_chooseHelperOut (l : Launch) (G : sG) (S : sS) {oc od : Nat} {n hw : Int} {d : dT} (hI : cX G S 0 0 0) (hdq : dcs G S oc od) (hDR : Hd (DRc S oc n hw d)) (hst : S.1 119 9 = 1) (hro : rOf d 0 ≠ 0) : Met l yX2_chooseHelperOut (.code yX2_chooseHelperOut cX2_chooseHelperOut 2 (some .int) :: tb) (rmk 3 0 0) (sPc G 294 S [.ref (G.2.2.1 + 135)]) (sQi G 294 (fun r u => cX G u 0 0 0 ∧ Fr S u pFg ∧ ((r = 1 ∨ r = 2) ∧ Hd (u.1 135 17 = rOf d 0) ∧ Hd (r = 1 → u.1 135 18 = cOu d (rOf d 0)) ∧ (r = 1 ↔ cOu d (rOf d 0) ≠ 0) ∧ Hd (dcs G u oc od ∧ DRc u oc n hw d) ∧ u.1 135 19 = S.1 135 19))) 0 0 (sF G) := by
  refine sEnter (by decide) (Nat.le_of_ble_eq_true rfl) ?_
  intro p e s m args below meth c Cx hr hlk hnm hW ls hl
  have Cx : sC G p m c cX2_chooseHelperOut 2 s args RX2 := Cx
  obtain ⟨hx, hb, hml, hown, hts⟩ := id Cx.1
  have hL : sL G [] := sL_nil
  have hl : lv_has ls 2 [(0, .ref (G.2.2.1 + 135))] := hl
  have hW0 := hW
  obtain ⟨hoc, hod, hcd, hec, hed⟩ := id hdq
  have hd13 := hDR.2.2.2.2.1; have hd14 := hDR.2.2.2.2.2.1; have hd15 := hDR.2.2.2.2.2.2.1; have hd16 := hDR.2.2.2.2.2.2.2; have hm40 : 0 ≤ S.1 135 14 ∧ S.1 135 14 ≤ 40 := hI.fi 135 14 2 (by decide) rfl; have hp13 : 0 ≤ S.1 135 15 ∧ S.1 135 15 ≤ 13 := hI.fi 135 15 2 (by decide) rfl
  refine lv_aload_n hx hb dX2_chooseHelperOut_0 rfl (lv_at hl 0 rfl) ?_
  refine lv_aload_n hx hb dX2_chooseHelperOut_1 rfl (lv_at hl 0 rfl) ?_
  refine lv_iconst (v := iv 0) hx hb dX2_chooseHelperOut_2 (by decide) ?_
  refine sBi (sV (As := [.int (iv 0)]) (rest := [.ref (G.2.2.1 + 135)]) (k := 135) Cx (v_X2_rowOf l G S (k := 0) (oc := oc) (od := od) (n := n) (hw := hw) (d := d) hI ⟨hoc, hod, (neD hcd), hec, hed⟩ hDR (by omega)) (c_X2_128 Cx rfl rfl (rmk_ok (by omega) (by decide))) hW (by decide) rfl rfl rfl hl.1 rfl (Nat.le_of_ble_eq_true rfl) dX2_chooseHelperOut_3 ⟨Nat.le_of_ble_eq_true rfl, Nat.le_of_ble_eq_true rfl⟩) hL (fun r_3 u_1 H locs k_2 hW hL => ?_)
  obtain ⟨eu_1, xu_1⟩ := k_2
  rw [eu_1] at hW
  refine p_X2_147 Cx hW hL (k := 135) (by decide) rfl dX2_chooseHelperOut_6 (fun H locs hW hL => ?_)
  have F_4 : Fr S (uF S 135 17 r_3) pFg := (Fr.rf : Fr S S pFg).F rfl
  have i_5 : cX G (uF S 135 17 r_3) 0 0 0 := hI.F rfl rfl (show (-1) ≤ r_3 ∧ r_3 ≤ 40 from ⟨by omega, by omega⟩)
  refine lv_aload_n hx hb dX2_chooseHelperOut_9 rfl (lv_at hl 0 rfl) ?_
  refine lv_iconst (v := iv 0) hx hb dX2_chooseHelperOut_10 (by decide) ?_
  refine p_X2_131 Cx hW hL (k := 135) (by decide) rfl dX2_chooseHelperOut_11 (fun H locs hW hL => ?_)
  have q_6 : 0 ≤ S.1 119 9 ∧ S.1 119 9 ≤ 6 := hI.fi 119 9 7 (by decide) rfl
  have lk_7 : (uF S 135 17 r_3).1 119 9 = S.1 119 9 := uF_ne (fun h => absurd h.2 (by decide))
  have F_8 : Fr S (uF (uF S 135 17 r_3) 135 18 0) pFg := F_4.F rfl
  have i_9 : cX G (uF (uF S 135 17 r_3) 135 18 0) 0 0 0 := i_5.column ⟨by omega, by omega⟩ (by omega)
  refine lv_iconst (v := iv 1) hx hb dX2_chooseHelperOut_14 (by decide) ?_
  refine lv_istore_n (lv' := [(1, .int (iv 1)), (0, .ref (G.2.2.1 + 135))]) hx hb dX2_chooseHelperOut_15 rfl hl (by decide) rfl (fun ls hl => ?_)
  have loop_16 : ∀ (fuel : Nat) (S16 : sS) (j : Int) (H : Heap) (locs : List Loc) (ls : Array Slot), (14 - j).toNat < fuel → (cX G S16 0 0 0) → (Fr S S16 pFg) → (Fr ((uF (uF S 135 17 r_3) 135 18 0)) S16 pFg) → (S16.1 135 19 = S.1 135 19) → (1 ≤ j ∧ j ≤ d.2.2.2.2.2 + 1) → (0 ≤ S16.1 135 18 ∧ S16.1 135 18 < j) → (S16.1 135 17 = rOf d 0) → (1 ≤ S16.1 135 17 ∧ S16.1 135 17 ≤ d.2.2.2.2.1) → (Hd (dcs G S16 oc od ∧ DRc S16 oc n hw d)) → (Hd (S16.1 135 18 = pick (fun j => d.2.1 (rOf d 0) j ≠ 0) (fun j s => d.2.2.2.1 j < d.2.2.2.1 s) (j - 1).toNat)) → sW G 294 S16 H → sL G locs → lv_has ls 2 [(1, .int (iv j)), (0, .ref (G.2.2.1 + 135))] → W p l e (rmk 3 0 0) s m args below meth c H locs 0 0 (MQ below (sQi G 294 (fun r u => cX G u 0 0 0 ∧ Fr S u pFg ∧ ((r = 1 ∨ r = 2) ∧ Hd (u.1 135 17 = rOf d 0) ∧ Hd (r = 1 → u.1 135 18 = cOu d (rOf d 0)) ∧ (r = 1 ↔ cOu d (rOf d 0) ≠ 0) ∧ Hd (dcs G u oc od ∧ DRc u oc n hw d) ∧ u.1 135 19 = S.1 135 19))) args s 0 0 (sF G)) (F0 m 16 ls []) := by
    intro fuel
    induction fuel with
    | zero => intro S16 j H locs ls hmeas hI16 hFm16 hL16_ hk9 hj hcl hcs hrw hdl hpk hW hL hl; exact absurd hmeas (Nat.not_lt_zero _)
    | succ fuel ih_16 =>
      intro S16 j H locs ls hmeas hI16 hFm16 hL16_ hk9 hj hcl hcs hrw hdl hpk hW hL hl
      have hdl14 := hdl.2.2.2.2.2.2.1; have hdl15 := hdl.2.2.2.2.2.2.2.1
      refine lv_iload_n hx hb dX2_chooseHelperOut_16 rfl (lv_at hl 0 rfl) ?_
      refine lv_aload_n hx hb dX2_chooseHelperOut_17 rfl (lv_at hl 1 rfl) ?_
      have q_10 : 0 ≤ S16.1 135 15 ∧ S16.1 135 15 ≤ 13 := hI16.fi 135 15 2 (by decide) rfl
      refine g_X2_67 Cx hW (k := 135) (by decide) rfl (v := S16.1 135 15) rfl dX2_chooseHelperOut_18 ?_
      refine r_icmp_gt (tgt := 72) hx hb ⟨(by omega), (by omega)⟩ ⟨(by omega), (by omega)⟩ dX2_chooseHelperOut_21 (by decide) (fun c_11 => ?_) (fun c_11 => ?_)
      · refine lv_aload_n hx hb dX2_chooseHelperOut_72 rfl (lv_at hl 1 rfl) ?_
        have q_12 : (-1) ≤ S16.1 135 18 ∧ S16.1 135 18 ≤ 13 := hI16.fi 135 18 2 (by decide) rfl
        refine g_X2_131 Cx hW (k := 135) (by decide) rfl (v := S16.1 135 18) rfl dX2_chooseHelperOut_73 ?_
        refine r_if_le (tgt := 83) hx hb ⟨(by omega), (by omega)⟩ dX2_chooseHelperOut_76 (by decide) (fun c_13 => ?_) (fun c_13 => ?_)
        · refine lv_iconst (v := iv 2) hx hb dX2_chooseHelperOut_83 (by decide) ?_
          have q_14 : (-1) ≤ S16.1 135 17 ∧ S16.1 135 17 ≤ 40 := hI16.fi 135 17 2 (by decide) rfl
          have q_15 : 0 ≤ S16.1 135 19 ∧ S16.1 135 19 ≤ 102220 := hI16.fi 135 19 2 (by decide) rfl
          exact sIret Cx hr hlk hW hL ⟨hI16, hFm16, ⟨by omega, hcs, (fun _ => (show S16.1 135 18 = cOu d (rOf d 0) by have e := hpk; rw [show j - 1 = d.2.2.2.2.2 by omega] at e; exact e)), (by have e := (show S16.1 135 18 = cOu d (rOf d 0) by have e := hpk; rw [show j - 1 = d.2.2.2.2.2 by omega] at e; exact e); rw [← e]; omega), hdl, by omega⟩⟩ dX2_chooseHelperOut_84
        · refine lv_iconst (v := iv 1) hx hb dX2_chooseHelperOut_79 (by decide) ?_
          refine lv_goto (tgt := 84) hx hb dX2_chooseHelperOut_80 (by decide) ?_
          have q_16 : (-1) ≤ S16.1 135 17 ∧ S16.1 135 17 ≤ 40 := hI16.fi 135 17 2 (by decide) rfl
          have q_17 : 0 ≤ S16.1 135 19 ∧ S16.1 135 19 ≤ 102220 := hI16.fi 135 19 2 (by decide) rfl
          exact sIret Cx hr hlk hW hL ⟨hI16, hFm16, ⟨by omega, hcs, (fun _ => (show S16.1 135 18 = cOu d (rOf d 0) by have e := hpk; rw [show j - 1 = d.2.2.2.2.2 by omega] at e; exact e)), (by have e := (show S16.1 135 18 = cOu d (rOf d 0) by have e := hpk; rw [show j - 1 = d.2.2.2.2.2 by omega] at e; exact e); rw [← e]; omega), hdl, by omega⟩⟩ dX2_chooseHelperOut_84
      · refine lv_aload_n hx hb dX2_chooseHelperOut_24 rfl (lv_at hl 1 rfl) ?_
        refine lv_aload_n hx hb dX2_chooseHelperOut_25 rfl (lv_at hl 1 rfl) ?_
        have q_18 : (-1) ≤ S16.1 135 17 ∧ S16.1 135 17 ≤ 40 := hI16.fi 135 17 2 (by decide) rfl
        refine g_X2_147 Cx hW (k := 135) (by decide) rfl (v := S16.1 135 17) rfl dX2_chooseHelperOut_26 ?_
        refine lv_iload_n hx hb dX2_chooseHelperOut_29 rfl (lv_at hl 0 rfl) ?_
        refine sBi (sV (As := [.int (iv (S16.1 135 17)), .int (iv j)]) (rest := []) (k := 135) Cx (v_X2_sign l G S16 (i := S16.1 135 17) (j := j) (oc := oc) (od := od) (n := n) (hw := hw) (d := d) hI16 ⟨hoc, hod, (neD hcd), hdl.1.2.2.2.1, hdl.1.2.2.2.2⟩ hdl.2 (by omega) (by omega) (by omega)) (c_X2_95 Cx rfl rfl (rmk_ok (by omega) (by decide))) hW (by decide) rfl rfl rfl hl.1 rfl (Nat.le_of_ble_eq_true rfl) dX2_chooseHelperOut_30 ⟨Nat.le_of_ble_eq_true rfl, Nat.le_of_ble_eq_true rfl⟩) hL (fun r_21 u_19 H locs k_20 hW hL => ?_)
        obtain ⟨eu_19, xu_19⟩ := k_20
        rw [eu_19] at hW
        refine r_if_eq (tgt := 66) hx hb ⟨(by omega), (by omega)⟩ dX2_chooseHelperOut_33 (by decide) (fun c_22 => ?_) (fun c_22 => ?_)
        · refine lv_iinc (v := iv (j + 1)) (lv' := [(1, .int (iv (j + 1))), (0, .ref (G.2.2.1 + 135))]) hx hb dX2_chooseHelperOut_66 hl (k := 0) rfl ((Int32.ofInt_add _ _).symm) (by decide) rfl (fun ls hl => ?_)
          refine lv_goto (tgt := 16) hx hb dX2_chooseHelperOut_69 (by decide) ?_
          have q_23 : 0 ≤ S16.1 135 19 ∧ S16.1 135 19 ≤ 102220 := hI16.fi 135 19 2 (by decide) rfl
          have q_24 : (-1) ≤ S16.1 135 18 ∧ S16.1 135 18 ≤ 13 := hI16.fi 135 18 2 (by decide) rfl
          exact ih_16 S16 (j + 1) _ _ _ (by omega) hI16 hFm16 hL16_ (by omega) (by omega) (by omega) (by omega) (by omega) ⟨⟨hoc, hod, (neD hcd), hdl.1.2.2.2.1, hdl.1.2.2.2.2⟩, hdl.2⟩ ((rfl : S16.1 135 18 = S16.1 135 18).trans (pick_n (P := (fun j => d.2.1 (rOf d 0) j ≠ 0)) (lt := (fun j s => d.2.2.2.1 j < d.2.2.2.1 s)) (x := S16.1 135 18) (by omega) hpk (fun z => by have z1 : d.2.1 (rOf d 0) j ≠ 0 := z.1; rw [← hcs] at z1; rcases (by omega : S16.1 135 18 = 0 ∨ 1 ≤ S16.1 135 18) with q | q; omega; (rcases z.2 with y | y; omega; (have y2 : d.2.2.2.1 j < d.2.2.2.1 (S16.1 135 18) := y; rw [← hDR.2.2.2.1 j (by omega) (by omega), ← hDR.2.2.2.1 _ q (by omega)] at y2; omega))))) hW hL (lv_sub hl [0, 1] rfl)
        · refine lv_aload_n hx hb dX2_chooseHelperOut_36 rfl (lv_at hl 1 rfl) ?_
          have q_25 : (-1) ≤ S16.1 135 18 ∧ S16.1 135 18 ≤ 13 := hI16.fi 135 18 2 (by decide) rfl
          refine g_X2_131 Cx hW (k := 135) (by decide) rfl (v := S16.1 135 18) rfl dX2_chooseHelperOut_37 ?_
          refine r_if_eq (tgt := 61) hx hb ⟨(by omega), (by omega)⟩ dX2_chooseHelperOut_40 (by decide) (fun c_26 => ?_) (fun c_26 => ?_)
          · refine lv_aload_n hx hb dX2_chooseHelperOut_61 rfl (lv_at hl 1 rfl) ?_
            refine lv_iload_n hx hb dX2_chooseHelperOut_62 rfl (lv_at hl 0 rfl) ?_
            refine p_X2_131 Cx hW hL (k := 135) (by decide) rfl dX2_chooseHelperOut_63 (fun H locs hW hL => ?_)
            have lk_27 : S16.1 119 9 = S.1 119 9 := ((hL16_ 119 rfl).1 9).trans ((uF_ne (fun h => absurd h.2 (by decide))).trans (uF_ne (fun h => absurd h.2 (by decide))))
            have F_28 : Fr S (uF S16 135 18 j) pFg := hFm16.F rfl
            have F_29 : Fr ((uF (uF S 135 17 r_3) 135 18 0)) (uF S16 135 18 j) pFg := hL16_.F rfl
            have i_30 : cX G (uF S16 135 18 j) 0 0 0 := hI16.column ⟨by omega, by omega⟩ (by omega)
            refine lv_iinc (v := iv (j + 1)) (lv' := [(1, .int (iv (j + 1))), (0, .ref (G.2.2.1 + 135))]) hx hb dX2_chooseHelperOut_66 hl (k := 0) rfl ((Int32.ofInt_add _ _).symm) (by decide) rfl (fun ls hl => ?_)
            refine lv_goto (tgt := 16) hx hb dX2_chooseHelperOut_69 (by decide) ?_
            have q_31 : 0 ≤ S16.1 135 19 ∧ S16.1 135 19 ≤ 102220 := hI16.fi 135 19 2 (by decide) rfl
            have lk_32 : (uF S16 135 18 j).1 135 19 = S16.1 135 19 := uF_ne (fun h => absurd h.2 (by decide))
            have lk_33 : (uF S16 135 18 j).1 135 18 = j := uF_on
            have lk_34 : (uF S16 135 18 j).1 135 17 = S16.1 135 17 := uF_ne (fun h => absurd h.2 (by decide))
            exact ih_16 (uF S16 135 18 j) (j + 1) _ _ _ (by omega) i_30 F_28 F_29 (by omega) (by omega) (by omega) (by omega) (by omega) ⟨⟨hoc, hod, (neD hcd), ((uF_r).trans hdl.1.2.2.2.1), ((uF_r).trans hdl.1.2.2.2.2)⟩, (DRc.of hdl.2 (show (uF S16 135 18 j).1 135 13 = S16.1 135 13 from uF_ne (fun h => absurd h.2 (by decide))) (show (uF S16 135 18 j).1 135 14 = S16.1 135 14 from uF_ne (fun h => absurd h.2 (by decide))) (show (uF S16 135 18 j).1 135 15 = S16.1 135 15 from uF_ne (fun h => absurd h.2 (by decide))) (show (uF S16 135 18 j).1 135 16 = S16.1 135 16 from uF_ne (fun h => absurd h.2 (by decide))) (show (uF S16 135 18 j).2.1 oc = S16.2.1 oc from funext fun x => uF_a) (show (uF S16 135 18 j).2.1 138 = S16.2.1 138 from funext fun x => uF_a) (show (uF S16 135 18 j).2.1 139 = S16.2.1 139 from funext fun x => uF_a))⟩ (uF_on.trans (pick_y (P := (fun j => d.2.1 (rOf d 0) j ≠ 0)) (lt := (fun j s => d.2.2.2.1 j < d.2.2.2.1 s)) (x := S16.1 135 18) (by omega) hpk (by show d.2.1 (rOf d 0) j ≠ 0; rw [← hcs]; omega) (by rcases (by omega : S16.1 135 18 = 0 ∨ 1 ≤ S16.1 135 18) with q | q; exact .inl q; exact .inr (by show d.2.2.2.1 j < d.2.2.2.1 (S16.1 135 18); rw [← hDR.2.2.2.1 j (by omega) (by omega), ← hDR.2.2.2.1 _ q (by omega)]; omega)))) hW hL (lv_sub hl [0, 1] rfl)
          · refine lv_aload_n hx hb dX2_chooseHelperOut_43 rfl (lv_at hl 1 rfl) ?_
            refine g_X2_23 Cx hW (k := 135) (by decide) rfl (v := .ref (G.2.2.1 + 139)) (rf_135_3 hI16) dX2_chooseHelperOut_44 ?_
            refine lv_iload_n hx hb dX2_chooseHelperOut_47 rfl (lv_at hl 0 rfl) ?_
            refine rIald Cx hW (k := 139) (by decide) rfl (by decide) (by omega) (by omega) dX2_chooseHelperOut_48 ?_
            have q_35 : (-2147483648) ≤ S.2.1 139 j ∧ S.2.1 139 j ≤ 2147483647 := hI.ai 139 j (by decide)
            refine r_i (b := S.2.1 139 j) (((hL16_ 139 rfl).2.1 j).trans ((uF_a).trans (uF_a))) ?_
            refine lv_aload_n hx hb dX2_chooseHelperOut_49 rfl (lv_at hl 1 rfl) ?_
            refine g_X2_23 Cx hW (k := 135) (by decide) rfl (v := .ref (G.2.2.1 + 139)) (rf_135_3 hI16) dX2_chooseHelperOut_50 ?_
            refine lv_aload_n hx hb dX2_chooseHelperOut_53 rfl (lv_at hl 1 rfl) ?_
            refine g_X2_131 Cx hW (k := 135) (by decide) rfl (v := S16.1 135 18) rfl dX2_chooseHelperOut_54 ?_
            refine rIald Cx hW (k := 139) (by decide) rfl (by decide) (by omega) (by omega) dX2_chooseHelperOut_57 ?_
            have q_36 : (-2147483648) ≤ S.2.1 139 (S16.1 135 18) ∧ S.2.1 139 (S16.1 135 18) ≤ 2147483647 := hI.ai 139 (S16.1 135 18) (by decide)
            refine r_i (b := S.2.1 139 (S16.1 135 18)) (((hL16_ 139 rfl).2.1 (S16.1 135 18)).trans ((uF_a).trans (uF_a))) ?_
            refine r_icmp_ge (tgt := 66) hx hb ⟨(by omega), (by omega)⟩ ⟨(by omega), (by omega)⟩ dX2_chooseHelperOut_58 (by decide) (fun c_37 => ?_) (fun c_37 => ?_)
            · refine lv_iinc (v := iv (j + 1)) (lv' := [(1, .int (iv (j + 1))), (0, .ref (G.2.2.1 + 135))]) hx hb dX2_chooseHelperOut_66 hl (k := 0) rfl ((Int32.ofInt_add _ _).symm) (by decide) rfl (fun ls hl => ?_)
              refine lv_goto (tgt := 16) hx hb dX2_chooseHelperOut_69 (by decide) ?_
              have q_38 : 0 ≤ S16.1 135 19 ∧ S16.1 135 19 ≤ 102220 := hI16.fi 135 19 2 (by decide) rfl
              exact ih_16 S16 (j + 1) _ _ _ (by omega) hI16 hFm16 hL16_ (by omega) (by omega) (by omega) (by omega) (by omega) ⟨⟨hoc, hod, (neD hcd), hdl.1.2.2.2.1, hdl.1.2.2.2.2⟩, hdl.2⟩ ((rfl : S16.1 135 18 = S16.1 135 18).trans (pick_n (P := (fun j => d.2.1 (rOf d 0) j ≠ 0)) (lt := (fun j s => d.2.2.2.1 j < d.2.2.2.1 s)) (x := S16.1 135 18) (by omega) hpk (fun z => by have z1 : d.2.1 (rOf d 0) j ≠ 0 := z.1; rw [← hcs] at z1; rcases (by omega : S16.1 135 18 = 0 ∨ 1 ≤ S16.1 135 18) with q | q; omega; (rcases z.2 with y | y; omega; (have y2 : d.2.2.2.1 j < d.2.2.2.1 (S16.1 135 18) := y; rw [← hDR.2.2.2.1 j (by omega) (by omega), ← hDR.2.2.2.1 _ q (by omega)] at y2; omega))))) hW hL (lv_sub hl [0, 1] rfl)
            · refine lv_aload_n hx hb dX2_chooseHelperOut_61 rfl (lv_at hl 1 rfl) ?_
              refine lv_iload_n hx hb dX2_chooseHelperOut_62 rfl (lv_at hl 0 rfl) ?_
              refine p_X2_131 Cx hW hL (k := 135) (by decide) rfl dX2_chooseHelperOut_63 (fun H locs hW hL => ?_)
              have lk_39 : S16.1 119 9 = S.1 119 9 := ((hL16_ 119 rfl).1 9).trans ((uF_ne (fun h => absurd h.2 (by decide))).trans (uF_ne (fun h => absurd h.2 (by decide))))
              have F_40 : Fr S (uF S16 135 18 j) pFg := hFm16.F rfl
              have F_41 : Fr ((uF (uF S 135 17 r_3) 135 18 0)) (uF S16 135 18 j) pFg := hL16_.F rfl
              have i_42 : cX G (uF S16 135 18 j) 0 0 0 := hI16.column ⟨by omega, by omega⟩ (by omega)
              refine lv_iinc (v := iv (j + 1)) (lv' := [(1, .int (iv (j + 1))), (0, .ref (G.2.2.1 + 135))]) hx hb dX2_chooseHelperOut_66 hl (k := 0) rfl ((Int32.ofInt_add _ _).symm) (by decide) rfl (fun ls hl => ?_)
              refine lv_goto (tgt := 16) hx hb dX2_chooseHelperOut_69 (by decide) ?_
              have q_43 : 0 ≤ S16.1 135 19 ∧ S16.1 135 19 ≤ 102220 := hI16.fi 135 19 2 (by decide) rfl
              have lk_44 : (uF S16 135 18 j).1 135 19 = S16.1 135 19 := uF_ne (fun h => absurd h.2 (by decide))
              have lk_45 : (uF S16 135 18 j).1 135 18 = j := uF_on
              have lk_46 : (uF S16 135 18 j).1 135 17 = S16.1 135 17 := uF_ne (fun h => absurd h.2 (by decide))
              exact ih_16 (uF S16 135 18 j) (j + 1) _ _ _ (by omega) i_42 F_40 F_41 (by omega) (by omega) (by omega) (by omega) (by omega) ⟨⟨hoc, hod, (neD hcd), ((uF_r).trans hdl.1.2.2.2.1), ((uF_r).trans hdl.1.2.2.2.2)⟩, (DRc.of hdl.2 (show (uF S16 135 18 j).1 135 13 = S16.1 135 13 from uF_ne (fun h => absurd h.2 (by decide))) (show (uF S16 135 18 j).1 135 14 = S16.1 135 14 from uF_ne (fun h => absurd h.2 (by decide))) (show (uF S16 135 18 j).1 135 15 = S16.1 135 15 from uF_ne (fun h => absurd h.2 (by decide))) (show (uF S16 135 18 j).1 135 16 = S16.1 135 16 from uF_ne (fun h => absurd h.2 (by decide))) (show (uF S16 135 18 j).2.1 oc = S16.2.1 oc from funext fun x => uF_a) (show (uF S16 135 18 j).2.1 138 = S16.2.1 138 from funext fun x => uF_a) (show (uF S16 135 18 j).2.1 139 = S16.2.1 139 from funext fun x => uF_a))⟩ (uF_on.trans (pick_y (P := (fun j => d.2.1 (rOf d 0) j ≠ 0)) (lt := (fun j s => d.2.2.2.1 j < d.2.2.2.1 s)) (x := S16.1 135 18) (by omega) hpk (by show d.2.1 (rOf d 0) j ≠ 0; rw [← hcs]; omega) (by rcases (by omega : S16.1 135 18 = 0 ∨ 1 ≤ S16.1 135 18) with q | q; exact .inl q; exact .inr (by show d.2.2.2.1 j < d.2.2.2.1 (S16.1 135 18); rw [← hDR.2.2.2.1 j (by omega) (by omega), ← hDR.2.2.2.1 _ q (by omega)]; omega)))) hW hL (lv_sub hl [0, 1] rfl)
  have q_47 : 0 ≤ S.1 135 19 ∧ S.1 135 19 ≤ 102220 := hI.fi 135 19 2 (by decide) rfl
  have lk_48 : (uF (uF S 135 17 r_3) 135 18 0).1 135 19 = S.1 135 19 := (uF_ne (fun h => absurd h.2 (by decide))).trans (uF_ne (fun h => absurd h.2 (by decide)))
  have lk_49 : (uF (uF S 135 17 r_3) 135 18 0).1 135 18 = 0 := uF_on
  have lk_50 : (uF (uF S 135 17 r_3) 135 18 0).1 135 17 = r_3 := (uF_ne (fun h => absurd h.2 (by decide))).trans (uF_on)
  exact loop_16 (_ + 1) (uF (uF S 135 17 r_3) 135 18 0) 1 _ _ _ (Nat.lt_succ_self _) i_9 F_8 Fr.rf (by omega) (by omega) (by omega) (by omega) (by omega) ⟨⟨hoc, hod, (neD hcd), (((uF_r).trans (uF_r)).trans hec), (((uF_r).trans (uF_r)).trans hed)⟩, (DRc.of hDR (show (uF (uF S 135 17 r_3) 135 18 0).1 135 13 = S.1 135 13 from (uF_ne (fun h => absurd h.2 (by decide))).trans (uF_ne (fun h => absurd h.2 (by decide)))) (show (uF (uF S 135 17 r_3) 135 18 0).1 135 14 = S.1 135 14 from (uF_ne (fun h => absurd h.2 (by decide))).trans (uF_ne (fun h => absurd h.2 (by decide)))) (show (uF (uF S 135 17 r_3) 135 18 0).1 135 15 = S.1 135 15 from (uF_ne (fun h => absurd h.2 (by decide))).trans (uF_ne (fun h => absurd h.2 (by decide)))) (show (uF (uF S 135 17 r_3) 135 18 0).1 135 16 = S.1 135 16 from (uF_ne (fun h => absurd h.2 (by decide))).trans (uF_ne (fun h => absurd h.2 (by decide)))) (show (uF (uF S 135 17 r_3) 135 18 0).2.1 oc = S.2.1 oc from funext fun x => (uF_a).trans (uF_a)) (show (uF (uF S 135 17 r_3) 135 18 0).2.1 138 = S.2.1 138 from funext fun x => (uF_a).trans (uF_a)) (show (uF (uF S 135 17 r_3) 135 18 0).2.1 139 = S.2.1 139 from funext fun x => (uF_a).trans (uF_a)))⟩ (uF_on.trans (show (0 : Int) = pick _ _ ((1 : Int) - 1).toNat from rfl)) hW hL (lv_sub hl [0, 1] rfl)
