/-! The class's pivots by their values -/
theorem bv_big {G : sG} {S : sS} {y : Nat} {b : Int} {o : Nat} (hI : cX G S 0 y b) (ho : tau o = .inl 0) (hb : bs S o) : (6 < S.1 o 1 → bgN (bv S o)) ∧ (S.1 o 1 ≤ 6 → ¬ bgN (bv S o)) := by
  have hs : -1 ≤ S.1 o 2 ∧ S.1 o 2 ≤ 1 := hI.fi o 2 0 (big_lt ho) ho
  have hc : 0 ≤ S.1 o 1 ∧ S.1 o 1 ≤ 32 := hI.fi o 1 0 (big_lt ho) ho
  have v0 := VR_0 hI ho
  refine ⟨fun h => ?_, fun h q => ?_⟩
  · have g := VR_ge hI ho (by omega)
    have p : pw 6 ≤ pw (S.1 o 1 - 1).toNat := pw_le (by omega)
    unfold bgN bv
    by_cases z : S.1 o 2 = 0
    · have := hb.2 z; omega
    · rcases (by omega : S.1 o 2 = 1 ∨ S.1 o 2 = -1) with e | e <;> rw [e] <;> omega
  · have l := VR_lt hI ho
    have p : pw (S.1 o 1).toNat ≤ pw 6 := pw_le (by omega)
    have p6 := pw_pos 6
    unfold bgN bv at q
    rcases (by omega : S.1 o 2 = 1 ∨ S.1 o 2 = -1 ∨ S.1 o 2 = 0) with e | e | e <;> rw [e] at q <;> omega
theorem nvE {f g : Int → Int} {a : Int} (hL : -7 ≤ f a ∧ f a ≤ 7) (hs : (g a = f a) ∨ (g a = -f a)) (h : ∀ x, a < x → x < a + 8 → g x = f x) : (g a = f a → nv g a = nv f a) ∧ (g a = -f a → nv g a = -nv f a) := by
  have V1 : al g a = al f a := by unfold al; rcases hs with e | e <;> rw [e] <;> split <;> split <;> omega
  have l : al f a ≤ 7 := by unfold al; split <;> omega
  have V2 : nu g a = nu f a := by
    unfold nu; rw [V1]
    exact V_cg (fun i i0 i1 => h _ (by omega) (by omega))
  have sf := sg_e (f := f) (p := a)
  have sg' := sg_e (f := g) (p := a)
  refine ⟨fun e => ?_, fun e => ?_⟩
  · have : sg g a = sg f a := by unfold sg; rw [e]
    unfold nv; rw [V2, this]
  · have : sg g a = -sg f a := by
      rcases (by omega : f a < 0 ∨ 0 < f a ∨ f a = 0) with z | z | z
      · rw [sf.1 z, sg'.2.1 (by omega)]; rfl
      · rw [sf.2.1 z, sg'.1 (by omega)]
      · rw [sf.2.2 z, sg'.2.2 (by omega)]; rfl
    unfold nv; rw [V2, this, Int.neg_mul]
theorem tdx {x D q : Int} (hD : 0 < D) (h : D * q = x) : x.tdiv D = q := by rw [← h]; exact Int.mul_tdiv_cancel_left _ (by omega)
/-- the rows that a pivot has written -/
def FLc (f : Int → Int) (d : dT) (hw r s i : Int) : Prop := ∀ a b, -1 ≤ a → a < i → a ≤ d.2.2.2.2.1 → (a = -1 → hw = 1) → a ≠ r → 0 ≤ b → b ≤ d.2.2.2.2.2 → nv f ((a + 2) * 112 + b * 8) = pvT d r s a b ∧ (b ≠ s → ¬ bgN (pvT d r s a b))
theorem FLc.st {f g : Int → Int} {d : dT} {hw r s i : Int} (h : FLc f d hw r s i) (hL : ∀ a, a % 8 = 0 → 0 ≤ a → a + 7 < 4816 → -7 ≤ f a ∧ f a ≤ 7) (h4 : d.2.2.2.2.1 ≤ 40) (h5 : d.2.2.2.2.2 ≤ 13) (hi : -1 ≤ i) (hg : ∀ y, y < (i + 2) * 112 ∨ (i + 3) * 112 ≤ y → g y = f y) (hr : i ≠ r → ∀ b, 0 ≤ b → b ≤ d.2.2.2.2.2 → nv g ((i + 2) * 112 + b * 8) = pvT d r s i b ∧ (b ≠ s → ¬ bgN (pvT d r s i b))) : FLc g d hw r s (i + 1) := fun a b a0 a1 a2 a3 a4 b0 b1 => by
  by_cases e : a = i
  · rw [e]; exact hr (by omega) b b0 b1
  · rw [nv_8 (f := f) (hL _ (by omega) (by omega) (by omega)) (fun x x0 x1 => hg x (by omega))]
    exact h a b a0 (by omega) a2 a3 a4 b0 b1
theorem hd7 {G : sG} {S : sS} {x : Nat} {b : Int} {k : Nat} (h : cX G S x 0 b) (m : dc k) (a : Int) (h0 : a % 8 = 0) (h1 : 0 ≤ a) (h2 : a + 7 < 4816) : -7 ≤ S.2.1 k a ∧ S.2.1 k a ≤ 7 := by have := (dicS h m (a := a) ⟨h0, h1, h2⟩).1; omega
theorem pvT_s {d : dT} {r s i : Int} (h : i ≠ r) : pvT d r s i s = -(sgi (d.2.1 r s) * d.2.1 i s) := by unfold pvT; rw [if_neg h, if_pos rfl]
theorem pvT_o {d : dT} {r s i j : Int} (h : i ≠ r) (k : j ≠ s) : pvT d r s i j = sgi (d.2.1 r s) * ((d.2.1 i j * d.2.1 r s - d.2.1 i s * d.2.1 r j) / d.1) := by unfold pvT; rw [if_neg h, if_neg k]
theorem pvT_r {d : dT} {r s j : Int} (k : j ≠ s) : pvT d r s r j = sgi (d.2.1 r s) * d.2.1 r j := by unfold pvT; rw [if_pos rfl, if_neg k]
theorem pvT_p {d : dT} {r s : Int} : pvT d r s r s = sgi (d.2.1 r s) * d.1 := by unfold pvT; rw [if_pos rfl, if_pos rfl]
theorem bgN_sg {g x : Int} (h : g = 1 ∨ g = -1) : bgN (g * x) ↔ bgN x := by unfold bgN; rcases h with e | e <;> rw [e] <;> omega
theorem sgi_e {x t : Int} (h : x ≠ 0) (h0 : (t < 0 ↔ x < 0) ∧ (0 < t ↔ 0 < x)) (h1 : -1 ≤ t ∧ t ≤ 1) : t = sgi x := by unfold sgi; split <;> omega
theorem bgN_no {x : Int} (h : -4000000000000000000 ≤ x ∧ x ≤ 4000000000000000000) : ¬ bgN x := by unfold bgN; rw [pw6]; omega
theorem bv_F2 {S : sS} {o : Nat} {t : Int} : bv (uF S o 2 t) o = t * VR S o := by unfold bv; rw [uF_on, VR_F (fun z => absurd z.2 (by decide))]
theorem bs_F2 {S : sS} {o : Nat} {t : Int} (h : bs S o) (ht : t = 0 ↔ S.1 o 2 = 0) : bs (uF S o 2 t) o := by
  unfold bs; rw [uF_on, uF_ne (fun z => absurd z.2 (by decide))]
  exact ⟨fun q => h.1 (fun z => q (ht.mpr z)), fun q => h.2 (ht.mp q)⟩
theorem DRc.pv {S u : sS} {oc od : Nat} {n hw r s : Int} {d : dT} (h : DRc S oc n hw d) (hr : 1 ≤ r ∧ r ≤ d.2.2.2.2.1) (hs : 1 ≤ s ∧ s ≤ d.2.2.2.2.2) (hF : FLc (u.2.1 od) d hw r s (d.2.2.2.2.1 + 1)) (hR : ∀ b, 0 ≤ b → b ≤ d.2.2.2.2.2 → nv (u.2.1 od) ((r + 2) * 112 + b * 8) = pvT d r s r b) (hD : nv (u.2.1 od) 0 = sgi (d.2.1 r s) * d.2.1 r s) (e13 : u.1 135 13 = S.1 135 13) (e14 : u.1 135 14 = S.1 135 14) (e15 : u.1 135 15 = S.1 135 15) (e16 : u.1 135 16 = S.1 135 16) (eB : ∀ i, u.2.1 138 i = if i = r then S.2.1 139 s else S.2.1 138 i) (eN : ∀ j, u.2.1 139 j = if j = s then S.2.1 138 r else S.2.1 139 j) : DRc u od n hw (pvD d r s) := by
  refine ⟨hD, fun i j i0 i1 iw j0 j1 => ?_, fun i i0 i1 => ?_, fun j j0 j1 => ?_, e13.trans h.2.2.2.2.1, e14.trans h.2.2.2.2.2.1, e15.trans h.2.2.2.2.2.2.1, e16.trans h.2.2.2.2.2.2.2⟩
  · by_cases e : i = r
    · rw [e]; exact hR j j0 j1
    · exact (hF i j i0 (by have : i ≤ d.2.2.2.2.1 := i1; omega) i1 iw e j0 j1).1
  · rw [eB]
    show _ = (if i = r then d.2.2.2.1 s else d.2.2.1 i)
    split
    · exact h.2.2.2.1 s hs.1 hs.2
    · exact h.2.2.1 i i0 i1
  · rw [eN]
    show _ = (if j = s then d.2.2.1 r else d.2.2.2.1 j)
    split
    · exact h.2.2.1 r hr.1 hr.2
    · exact h.2.2.2.1 j j0 j1
theorem nv_mv {f g : Int → Int} {a tn us : Int} (hL : -6 ≤ f a ∧ f a ≤ 6) (hh : (tn < 0 → g a = -f a) ∧ (0 ≤ tn → g a = f a)) (hm : ∀ j, a < j → j < a + 1 + al f a → g j = f j) : (tn < 0 → nv g a = -nv f a) ∧ (0 ≤ tn → nv g a = nv f a) := by
  have hs : g a = f a ∨ g a = -f a := by rcases (by omega : tn < 0 ∨ 0 ≤ tn) with q | q; (exact .inr (hh.1 q)); (exact .inl (hh.2 q))
  have V1 : al g a = al f a := by unfold al; rcases hs with e | e <;> rw [e] <;> split <;> split <;> omega
  have a0 : 0 ≤ al f a := al_0 f a
  have V2 : nu g a = nu f a := by unfold nu; rw [V1]; exact V_cg (fun i i0 i1 => hm _ (by omega) (by omega))
  have sf := sg_e (f := f) (p := a)
  have sg' := sg_e (f := g) (p := a)
  refine ⟨fun e => ?_, fun e => ?_⟩
  · have : sg g a = -sg f a := by
      have k := hh.1 e
      rcases (by omega : f a < 0 ∨ 0 < f a ∨ f a = 0) with z | z | z
      · rw [sf.1 z, sg'.2.1 (by omega)]; rfl
      · rw [sf.2.1 z, sg'.1 (by omega)]
      · rw [sf.2.2 z, sg'.2.2 (by omega)]; rfl
    unfold nv; rw [V2, this, Int.neg_mul]
  · have : sg g a = sg f a := by unfold sg; rw [hh.2 e]
    unfold nv; rw [V2, this]
theorem FLc.sv {f g : Int → Int} {d : dT} {hw r s i A : Int} (h : FLc f d hw r s i) (hL : ∀ a, a % 8 = 0 → 0 ≤ a → a + 7 < 4816 → -7 ≤ f a ∧ f a ≤ 7) (h4 : d.2.2.2.2.1 ≤ 40) (h5 : d.2.2.2.2.2 ≤ 13) (hA : A = 0 ∨ ((r + 2) * 112 ≤ A ∧ A + 8 ≤ (r + 3) * 112)) (hg : ∀ y, y < A ∨ A + 8 ≤ y → g y = f y) : FLc g d hw r s i := fun a b a0 a1 a2 a3 a4 b0 b1 => by
  rw [nv_8 (f := f) (hL _ (by omega) (by omega) (by omega)) (fun x x0 x1 => hg x (by omega))]
  exact h a b a0 a1 a2 a3 a4 b0 b1
theorem VR_ab {S : sS} {o : Nat} {x : Int} (hs : -1 ≤ S.1 o 2 ∧ S.1 o 2 ≤ 1) (hv : 0 ≤ VR S o) (e : bv S o = x) (hx : x ≠ 0) : 1 * VR S o = sgi x * x := by
  unfold bv at e
  unfold sgi
  rcases (by omega : S.1 o 2 = 1 ∨ S.1 o 2 = -1 ∨ S.1 o 2 = 0) with q | q | q <;> rw [q] at e <;> split <;> omega
theorem mo_pBk {o : Nat} (m : mdl o) : pBk o = false ∧ pBk (o + 1) = false ∧ pBk (o + 2) = false := by
  have := (mdl_pN m)
  refine ⟨?_, ?_, ?_⟩
  · cases e : pBk o
    · rfl
    · exact absurd (pFl_N _ (pBk_Fl _ e)) (by rw [this.1]; decide)
  · cases e : pBk (o + 1)
    · rfl
    · exact absurd (pFl_N _ (pBk_Fl _ e)) (by rw [this.2.1]; decide)
  · cases e : pBk (o + 2)
    · rfl
    · exact absurd (pFl_N _ (pBk_Fl _ e)) (by rw [this.2.2]; decide)
def pPv (k : Nat) : Bool := rgB 135 139 k || rgB 141 156 k
theorem pZ_Pv : ∀ k, pZ k = true → pPv k = true := fun k h => by
  rw [pZ, Bool.or_eq_true] at h
  rcases h with h | h
  · have := rgB_t h; simp [pPv, rgB_i (a := 135) (b := 139) (k := k) ⟨by omega, by omega⟩]
  · have := rgB_t h; simp [pPv, rgB_i (a := 141) (b := 156) (k := k) ⟨by omega, by omega⟩]
theorem pPv_X : ∀ k, pPv k = true → pX k = true := fun k h => by
  rw [pPv, Bool.or_eq_true] at h
  rcases h with h | h
  · have := rgB_t h; simp [pX, rgB_i (a := 135) (b := 140) (k := k) ⟨by omega, by omega⟩]
  · have := rgB_t h; simp [pX, pN, rgB_i (a := 141) (b := 156) (k := k) ⟨by omega, by omega⟩]
theorem dic_pPv {o : Nat} (m : dc o) : pPv o = true := by rcases m with rfl | rfl <;> rfl
set_option maxRecDepth 100000 in
set_option maxHeartbeats 4000000 in
theorem v_X0_move (l : Launch) (G : sG) (S : sS) {kf kt : Nat} {a tn : Int} (hI : cX G S 0 0 0) (hkf : dc kf) (hkt : dc kt) (nkfkt : Hd (kf ≠ kt)) (hat : a % 8 = 0 ∧ 1 ≤ a ∧ a + 7 < 4816) (htn : -1 ≤ tn ∧ tn ≤ 1) : Met l yX0_move (.code yX0_move cX0_move 7 none :: tb) (rmk 2 0 0) (sPc G 294 S [.ref (G.2.2.1 + kf), .ref (G.2.2.1 + kt), .int (iv a), .int (iv tn)]) (sQv G 294 (fun u => cX G u 0 0 0 ∧ Fr S u (p1 kt) ∧ (Hd ((tn < 0 → nv (u.2.1 kt) a = -nv (S.2.1 kf) a) ∧ (0 ≤ tn → nv (u.2.1 kt) a = nv (S.2.1 kf) a)) ∧ Hd (∀ j, j < a ∨ a + 8 ≤ j → u.2.1 kt j = S.2.1 kt j)))) 0 0 (sF G) := by
  refine sEnter (by decide) (Nat.le_of_ble_eq_true rfl) ?_
  intro p e s m args below meth c Cx hr hlk hnm hW ls hl
  have Cx : sC G p m c cX0_move 7 s args RX0 := Cx
  obtain ⟨hx, hb, hml, hown, hts⟩ := id Cx.1
  have hL : sL G [] := sL_nil
  have hl : lv_has ls 7 [(0, .ref (G.2.2.1 + kf)), (1, .ref (G.2.2.1 + kt)), (2, .int (iv a)), (3, .int (iv tn))] := hl
  have hW0 := hW
  have hss : SlotOK (S.2.1 kf) a 6 999999999 := dicS hI hkf (by omega)
  have hst : SlotOK (S.2.1 kt) a 6 999999999 := dicS hI hkt (by omega)
  have hhd := hss.1
  have j_1 := hI.exS kt a
  refine lv_aload_n hx hb dX0_move_0 rfl (lv_at hl 0 rfl) ?_
  refine lv_iload_n hx hb dX0_move_1 rfl (lv_at hl 2 rfl) ?_
  refine rIald Cx hW (k := kf) (dic_l hkf) (dic_t hkf) (by decide) (by omega) (by omega) dX0_move_2 ?_
  have q_2 : (-2147483648) ≤ S.2.1 kf a ∧ S.2.1 kf a ≤ 2147483647 := sla_r (dic_a hkf) j_1 a 
  refine r_i (b := S.2.1 kf a) rfl ?_
  refine lv_istore (lv' := [(4, .int (iv (S.2.1 kf a))), (0, .ref (G.2.2.1 + kf)), (1, .ref (G.2.2.1 + kt)), (2, .int (iv a)), (3, .int (iv tn))]) hx hb dX0_move_3 hl (by decide) rfl (fun ls hl => ?_)
  refine lv_iload hx hb dX0_move_5 (lv_at hl 0 rfl) ?_
  refine r_abs hx hb (hml.trans hl.1.symm) hown (hts _ w_1155) (hts _ w_1156) (hts _ w_206) (hts _ w_1157) (rmk_f (by omega)) (rmk_l (by omega) (Nat.le_of_ble_eq_true rfl)) (Nat.le_of_ble_eq_true rfl) (Nat.le_of_ble_eq_true rfl) ⟨(by omega), (by omega)⟩ dX0_move_7 (fun us hus => ?_)
  refine lv_istore (lv' := [(5, .int (iv us)), (4, .int (iv (S.2.1 kf a))), (0, .ref (G.2.2.1 + kf)), (1, .ref (G.2.2.1 + kt)), (2, .int (iv a)), (3, .int (iv tn))]) hx hb dX0_move_10 hl (by decide) rfl (fun ls hl => ?_)
  refine lv_aload_n hx hb dX0_move_12 rfl (lv_at hl 3 rfl) ?_
  refine lv_iload_n hx hb dX0_move_13 rfl (lv_at hl 4 rfl) ?_
  refine lv_iload_n hx hb dX0_move_14 rfl (lv_at hl 5 rfl) ?_
  refine r_if_ge (tgt := 24) hx hb ⟨(by omega), (by omega)⟩ dX0_move_15 (by decide) (fun c_3 => ?_) (fun c_3 => ?_)
  · refine lv_iload hx hb dX0_move_24 (lv_at hl 1 rfl) ?_
    refine rIast Cx hW hL (k := kt) (dic_l hkt) (dic_t hkt) (by decide) (by omega) (by omega) dX0_move_26 (fun H locs hW hL => ?_)
    have F_4 : Fr S (uA S kt a (S.2.1 kf a)) (p1 kt) := (Fr.rf : Fr S S (p1 kt)).A p1_0
    have i_5 : cX G (uA S kt a (S.2.1 kf a)) 0 kt a := j_1.slot (dic_c hkt) ⟨by omega, by omega, by omega⟩ ⟨(by omega), (by omega)⟩ (fun _ q => by omega)
    refine lv_iload_n hx hb dX0_move_27 rfl (lv_at hl 4 rfl) ?_
    refine lv_iconst (v := iv 1) hx hb dX0_move_28 (by decide) ?_
    refine r_iadd hx hb dX0_move_29 ?_
    refine lv_istore (lv' := [(6, .int (iv (a + 1))), (5, .int (iv us)), (4, .int (iv (S.2.1 kf a))), (0, .ref (G.2.2.1 + kf)), (1, .ref (G.2.2.1 + kt)), (2, .int (iv a)), (3, .int (iv tn))]) hx hb dX0_move_30 hl (by decide) rfl (fun ls hl => ?_)
    have loop_32 : ∀ (fuel : Nat) (S32 : sS) (i : Int) (H : Heap) (locs : List Loc) (ls : Array Slot), (a + 9 - i).toNat < fuel → (cX G S32 0 kt a) → (Fr S S32 (p1 kt)) → (Fr ((uA S kt a (S.2.1 kf a))) S32 (p1 kt)) → (a + 1 ≤ i ∧ i ≤ a + us + 1) → (S32.2.1 kt a = us ∨ S32.2.1 kt a = -us) → ((tn < 0 → S32.2.1 kt a = -S.2.1 kf a) ∧ (0 ≤ tn → S32.2.1 kt a = S.2.1 kf a)) → (Hd (∀ j, j < a ∨ a + 8 ≤ j → S32.2.1 kt j = S.2.1 kt j)) → (∀ j, a < j → j < a + 8 → 0 ≤ S32.2.1 kt j ∧ S32.2.1 kt j ≤ 999999999) → (∀ j, a < j → j < i → S32.2.1 kt j = S.2.1 kf j) → sW G 294 S32 H → sL G locs → lv_has ls 7 [(6, .int (iv i)), (5, .int (iv us)), (4, .int (iv (S.2.1 kf a))), (0, .ref (G.2.2.1 + kf)), (1, .ref (G.2.2.1 + kt)), (2, .int (iv a)), (3, .int (iv tn))] → W p l e (rmk 2 0 0) s m args below meth c H locs 0 0 (MQ below (sQv G 294 (fun u => cX G u 0 0 0 ∧ Fr S u (p1 kt) ∧ (Hd ((tn < 0 → nv (u.2.1 kt) a = -nv (S.2.1 kf) a) ∧ (0 ≤ tn → nv (u.2.1 kt) a = nv (S.2.1 kf) a)) ∧ Hd (∀ j, j < a ∨ a + 8 ≤ j → u.2.1 kt j = S.2.1 kt j)))) args s 0 0 (sF G)) (F0 m 32 ls []) := by
      intro fuel
      induction fuel with
      | zero => intro S32 i H locs ls hmeas hI32 hFm32 hL32_ hi hh hh3 hfr hrr hm hW hL hl; exact absurd hmeas (Nat.not_lt_zero _)
      | succ fuel ih_32 =>
        intro S32 i H locs ls hmeas hI32 hFm32 hL32_ hi hh hh3 hfr hrr hm hW hL hl
        refine lv_iload hx hb dX0_move_32 (lv_at hl 0 rfl) ?_
        refine lv_iload_n hx hb dX0_move_34 rfl (lv_at hl 5 rfl) ?_
        refine lv_iload hx hb dX0_move_35 (lv_at hl 1 rfl) ?_
        refine r_iadd hx hb dX0_move_37 ?_
        refine r_icmp_gt (tgt := 55) hx hb ⟨(by omega), (by omega)⟩ ⟨(by omega), (by omega)⟩ dX0_move_38 (by decide) (fun c_6 => ?_) (fun c_6 => ?_)
        · have j_7 : cX G S32 0 0 0 := hI32.inS (fun _ => dicI hkt (slot_mk (c := us) hh (by omega) hrr (fun q => by rw [hm _ (by omega) (by omega)]; exact slot_top hss (by omega) q) (fun q => by omega)))
          exact sVret Cx hr hlk hW hL ⟨j_7, hFm32, ⟨nv_mv hhd hh3 (us := us) (fun j j0 j1 => hm j j0 (by have e : al (S.2.1 kf) a = _ := rfl; unfold al at j1; split at j1 <;> omega)), hfr⟩⟩ dX0_move_55
        · refine lv_aload_n hx hb dX0_move_41 rfl (lv_at hl 4 rfl) ?_
          refine lv_iload hx hb dX0_move_42 (lv_at hl 0 rfl) ?_
          refine lv_aload_n hx hb dX0_move_44 rfl (lv_at hl 3 rfl) ?_
          refine lv_iload hx hb dX0_move_45 (lv_at hl 0 rfl) ?_
          refine rIald Cx hW (k := kf) (dic_l hkf) (dic_t hkf) (by decide) (by omega) (by omega) dX0_move_47 ?_
          have q_8 : (-2147483648) ≤ S.2.1 kf i ∧ S.2.1 kf i ≤ 2147483647 := sla_r (dic_a hkf) j_1 i 
          refine r_i (b := S.2.1 kf i) (((hL32_ kf (p1_no (neD nkfkt))).2.1 i).trans (uA_ne (fun h => absurd h.1 (neD nkfkt)))) ?_
          refine rIast Cx hW hL (k := kt) (dic_l hkt) (dic_t hkt) (by decide) (by omega) (by omega) dX0_move_48 (fun H locs hW hL => ?_)
          have F_9 : Fr S (uA S32 kt i (S.2.1 kf i)) (p1 kt) := hFm32.A p1_0
          have F_10 : Fr ((uA S kt a (S.2.1 kf a))) (uA S32 kt i (S.2.1 kf i)) (p1 kt) := hL32_.A p1_0
          have i_11 : cX G (uA S32 kt i (S.2.1 kf i)) 0 kt a := hI32.slot (dic_c hkt) ⟨by omega, by omega, by omega⟩ ⟨(by omega), (by omega)⟩ (fun _ q => by omega)
          refine lv_iinc (v := iv (i + 1)) (lv' := [(6, .int (iv (i + 1))), (5, .int (iv us)), (4, .int (iv (S.2.1 kf a))), (0, .ref (G.2.2.1 + kf)), (1, .ref (G.2.2.1 + kt)), (2, .int (iv a)), (3, .int (iv tn))]) hx hb dX0_move_49 hl (k := 0) rfl ((Int32.ofInt_add _ _).symm) (by decide) rfl (fun ls hl => ?_)
          refine lv_goto (tgt := 32) hx hb dX0_move_52 (by decide) ?_
          exact ih_32 (uA S32 kt i (S.2.1 kf i)) (i + 1) _ _ _ (by omega) i_11 F_9 F_10 (by omega) (by rw [uA_ne (by omega)]; exact hh) (by rw [uA_ne (by omega)]; exact hh3) (fun j q => by rw [uA_ne (by omega)]; exact hfr j q) (fun j j0 j1 => by rw [uA_get]; split; exact hss.2.1 i (by omega) (by omega); exact hrr j j0 j1) (fun j j0 j1 => by rw [uA_get]; split; rename_i q; rw [q.2]; rename_i q; exact hm j j0 (by omega)) hW hL (lv_sub hl [0, 1, 2, 3, 4, 5, 6] rfl)
    exact loop_32 (_ + 1) (uA S kt a (S.2.1 kf a)) (a + 1) _ _ _ (Nat.lt_succ_self _) i_5 F_4 Fr.rf (by omega) (by rw [uA_on]; omega) (by rw [uA_on]; omega) (fun j q => by rw [uA_ne (by omega)]) (fun j j0 j1 => by rw [uA_ne (by omega)]; exact hst.2.1 j j0 j1) (fun j j0 j1 => absurd j1 (by omega)) hW hL (lv_sub hl [0, 1, 2, 3, 4, 5, 6] rfl)
  · refine lv_iload hx hb dX0_move_18 (lv_at hl 1 rfl) ?_
    refine r_ineg hx hb dX0_move_20 ?_
    refine lv_goto (tgt := 26) hx hb dX0_move_21 (by decide) ?_
    refine rIast Cx hW hL (k := kt) (dic_l hkt) (dic_t hkt) (by decide) (by omega) (by omega) dX0_move_26 (fun H locs hW hL => ?_)
    have F_12 : Fr S (uA S kt a (-(S.2.1 kf a))) (p1 kt) := (Fr.rf : Fr S S (p1 kt)).A p1_0
    have i_13 : cX G (uA S kt a (-(S.2.1 kf a))) 0 kt a := j_1.slot (dic_c hkt) ⟨by omega, by omega, by omega⟩ ⟨(by omega), (by omega)⟩ (fun _ q => by omega)
    refine lv_iload_n hx hb dX0_move_27 rfl (lv_at hl 4 rfl) ?_
    refine lv_iconst (v := iv 1) hx hb dX0_move_28 (by decide) ?_
    refine r_iadd hx hb dX0_move_29 ?_
    refine lv_istore (lv' := [(6, .int (iv (a + 1))), (5, .int (iv us)), (4, .int (iv (S.2.1 kf a))), (0, .ref (G.2.2.1 + kf)), (1, .ref (G.2.2.1 + kt)), (2, .int (iv a)), (3, .int (iv tn))]) hx hb dX0_move_30 hl (by decide) rfl (fun ls hl => ?_)
    have loop_32 : ∀ (fuel : Nat) (S32 : sS) (i : Int) (H : Heap) (locs : List Loc) (ls : Array Slot), (a + 9 - i).toNat < fuel → (cX G S32 0 kt a) → (Fr S S32 (p1 kt)) → (Fr ((uA S kt a (-(S.2.1 kf a)))) S32 (p1 kt)) → (a + 1 ≤ i ∧ i ≤ a + us + 1) → (S32.2.1 kt a = us ∨ S32.2.1 kt a = -us) → ((tn < 0 → S32.2.1 kt a = -S.2.1 kf a) ∧ (0 ≤ tn → S32.2.1 kt a = S.2.1 kf a)) → (Hd (∀ j, j < a ∨ a + 8 ≤ j → S32.2.1 kt j = S.2.1 kt j)) → (∀ j, a < j → j < a + 8 → 0 ≤ S32.2.1 kt j ∧ S32.2.1 kt j ≤ 999999999) → (∀ j, a < j → j < i → S32.2.1 kt j = S.2.1 kf j) → sW G 294 S32 H → sL G locs → lv_has ls 7 [(6, .int (iv i)), (5, .int (iv us)), (4, .int (iv (S.2.1 kf a))), (0, .ref (G.2.2.1 + kf)), (1, .ref (G.2.2.1 + kt)), (2, .int (iv a)), (3, .int (iv tn))] → W p l e (rmk 2 0 0) s m args below meth c H locs 0 0 (MQ below (sQv G 294 (fun u => cX G u 0 0 0 ∧ Fr S u (p1 kt) ∧ (Hd ((tn < 0 → nv (u.2.1 kt) a = -nv (S.2.1 kf) a) ∧ (0 ≤ tn → nv (u.2.1 kt) a = nv (S.2.1 kf) a)) ∧ Hd (∀ j, j < a ∨ a + 8 ≤ j → u.2.1 kt j = S.2.1 kt j)))) args s 0 0 (sF G)) (F0 m 32 ls []) := by
      intro fuel
      induction fuel with
      | zero => intro S32 i H locs ls hmeas hI32 hFm32 hL32_ hi hh hh3 hfr hrr hm hW hL hl; exact absurd hmeas (Nat.not_lt_zero _)
      | succ fuel ih_32 =>
        intro S32 i H locs ls hmeas hI32 hFm32 hL32_ hi hh hh3 hfr hrr hm hW hL hl
        refine lv_iload hx hb dX0_move_32 (lv_at hl 0 rfl) ?_
        refine lv_iload_n hx hb dX0_move_34 rfl (lv_at hl 5 rfl) ?_
        refine lv_iload hx hb dX0_move_35 (lv_at hl 1 rfl) ?_
        refine r_iadd hx hb dX0_move_37 ?_
        refine r_icmp_gt (tgt := 55) hx hb ⟨(by omega), (by omega)⟩ ⟨(by omega), (by omega)⟩ dX0_move_38 (by decide) (fun c_14 => ?_) (fun c_14 => ?_)
        · have j_15 : cX G S32 0 0 0 := hI32.inS (fun _ => dicI hkt (slot_mk (c := us) hh (by omega) hrr (fun q => by rw [hm _ (by omega) (by omega)]; exact slot_top hss (by omega) q) (fun q => by omega)))
          exact sVret Cx hr hlk hW hL ⟨j_15, hFm32, ⟨nv_mv hhd hh3 (us := us) (fun j j0 j1 => hm j j0 (by have e : al (S.2.1 kf) a = _ := rfl; unfold al at j1; split at j1 <;> omega)), hfr⟩⟩ dX0_move_55
        · refine lv_aload_n hx hb dX0_move_41 rfl (lv_at hl 4 rfl) ?_
          refine lv_iload hx hb dX0_move_42 (lv_at hl 0 rfl) ?_
          refine lv_aload_n hx hb dX0_move_44 rfl (lv_at hl 3 rfl) ?_
          refine lv_iload hx hb dX0_move_45 (lv_at hl 0 rfl) ?_
          refine rIald Cx hW (k := kf) (dic_l hkf) (dic_t hkf) (by decide) (by omega) (by omega) dX0_move_47 ?_
          have q_16 : (-2147483648) ≤ S.2.1 kf i ∧ S.2.1 kf i ≤ 2147483647 := sla_r (dic_a hkf) j_1 i 
          refine r_i (b := S.2.1 kf i) (((hL32_ kf (p1_no (neD nkfkt))).2.1 i).trans (uA_ne (fun h => absurd h.1 (neD nkfkt)))) ?_
          refine rIast Cx hW hL (k := kt) (dic_l hkt) (dic_t hkt) (by decide) (by omega) (by omega) dX0_move_48 (fun H locs hW hL => ?_)
          have F_17 : Fr S (uA S32 kt i (S.2.1 kf i)) (p1 kt) := hFm32.A p1_0
          have F_18 : Fr ((uA S kt a (-(S.2.1 kf a)))) (uA S32 kt i (S.2.1 kf i)) (p1 kt) := hL32_.A p1_0
          have i_19 : cX G (uA S32 kt i (S.2.1 kf i)) 0 kt a := hI32.slot (dic_c hkt) ⟨by omega, by omega, by omega⟩ ⟨(by omega), (by omega)⟩ (fun _ q => by omega)
          refine lv_iinc (v := iv (i + 1)) (lv' := [(6, .int (iv (i + 1))), (5, .int (iv us)), (4, .int (iv (S.2.1 kf a))), (0, .ref (G.2.2.1 + kf)), (1, .ref (G.2.2.1 + kt)), (2, .int (iv a)), (3, .int (iv tn))]) hx hb dX0_move_49 hl (k := 0) rfl ((Int32.ofInt_add _ _).symm) (by decide) rfl (fun ls hl => ?_)
          refine lv_goto (tgt := 32) hx hb dX0_move_52 (by decide) ?_
          exact ih_32 (uA S32 kt i (S.2.1 kf i)) (i + 1) _ _ _ (by omega) i_19 F_17 F_18 (by omega) (by rw [uA_ne (by omega)]; exact hh) (by rw [uA_ne (by omega)]; exact hh3) (fun j q => by rw [uA_ne (by omega)]; exact hfr j q) (fun j j0 j1 => by rw [uA_get]; split; exact hss.2.1 i (by omega) (by omega); exact hrr j j0 j1) (fun j j0 j1 => by rw [uA_get]; split; rename_i q; rw [q.2]; rename_i q; exact hm j j0 (by omega)) hW hL (lv_sub hl [0, 1, 2, 3, 4, 5, 6] rfl)
    exact loop_32 (_ + 1) (uA S kt a (-(S.2.1 kf a))) (a + 1) _ _ _ (Nat.lt_succ_self _) i_13 F_12 Fr.rf (by omega) (by rw [uA_on]; omega) (by rw [uA_on]; omega) (fun j q => by rw [uA_ne (by omega)]) (fun j j0 j1 => by rw [uA_ne (by omega)]; exact hst.2.1 j j0 j1) (fun j j0 j1 => absurd j1 (by omega)) hW hL (lv_sub hl [0, 1, 2, 3, 4, 5, 6] rfl)

set_option maxRecDepth 100000 in
set_option maxHeartbeats 4000000 in
theorem v_X2_floor (l : Launch) (G : sG) (S : sS) {oc od : Nat} {n hw : Int} {d : dT} {i : Int} (hI : cX G S 0 0 0) (hdq : dcs G S oc od) (hDR : Hd (DRc S oc n hw d)) (hi : -1 ≤ i ∧ i ≤ d.2.2.2.2.1) (hiw : i = -1 → hw = 1) (hDp : 0 < d.1) : Met l yX2_floor (.code yX2_floor cX2_floor 3 none :: tb) (rmk 5 0 0) (sPc G 294 S [.ref (G.2.2.1 + 135), .int (iv i), .ref (G.2.2.1 + 181)]) (sQv G 294 (fun u => cX G u 0 0 0 ∧ Fr S u pFl ∧ (u.1 181 1 ≤ 7 ∧ Hd (u.1 181 1 = 7 → u.2.1 182 6 ≤ 1) ∧ Hd (bv u 181 = d.2.1 i 0 / d.1 ∧ bs u 181)))) 0 0 (sF G) := by
  refine sEnter (by decide) (Nat.le_of_ble_eq_true rfl) ?_
  intro p e s m args below meth c Cx hr hlk hnm hW ls hl
  have Cx : sC G p m c cX2_floor 3 s args RX2 := Cx
  obtain ⟨hx, hb, hml, hown, hts⟩ := id Cx.1
  have hL : sL G [] := sL_nil
  have hl : lv_has ls 3 [(0, .ref (G.2.2.1 + 135)), (1, .int (iv i)), (2, .ref (G.2.2.1 + 181))] := hl
  have hW0 := hW
  obtain ⟨hoc, hod, hcd, hec, hed⟩ := id hdq
  have hd13 := hDR.2.2.2.2.1; have hd14 := hDR.2.2.2.2.2.1; have hd15 := hDR.2.2.2.2.2.2.1; have hd16 := hDR.2.2.2.2.2.2.2; have hm40 : 0 ≤ S.1 135 14 ∧ S.1 135 14 ≤ 40 := hI.fi 135 14 2 (by decide) rfl; have hp13 : 0 ≤ S.1 135 15 ∧ S.1 135 15 ≤ 13 := hI.fi 135 15 2 (by decide) rfl
  refine lv_aload_n hx hb dX2_floor_0 rfl (lv_at hl 0 rfl) ?_
  refine lv_aload_n hx hb dX2_floor_1 rfl (lv_at hl 0 rfl) ?_
  refine g_X2_35 Cx hW (k := 135) (by decide) rfl (v := .ref (G.2.2.1 + 143)) (rf_135_6 hI) dX2_floor_2 ?_
  refine sBv (sV (As := [.ref (G.2.2.1 + 143)]) (rest := []) (k := 135) Cx (v_X2_denominator l G S (v := 143) (oc := oc) (od := od) (n := n) (hw := hw) (d := d) hI ⟨hoc, hod, (neD hcd), hec, hed⟩ hDR rfl) (c_X2_121 Cx rfl rfl (rmk_ok (by omega) (by decide))) hW (by decide) rfl rfl rfl hl.1 rfl (Nat.le_of_ble_eq_true rfl) dX2_floor_5 ⟨Nat.le_of_ble_eq_true rfl, Nat.le_of_ble_eq_true rfl⟩) hL (fun u_1 H locs k_2 hW hL => ?_)
  obtain ⟨iu_1, fu_1, xu_1⟩ := k_2
  have F_3 := (Fr.rf : Fr S S pFl).trans (fu_1.to (pB_sub rfl rfl))
  have bv_4 : bv u_1 143 = d.1 := xu_1.2.2.2.1.1
  refine lv_aload_n hx hb dX2_floor_8 rfl (lv_at hl 0 rfl) ?_
  refine g_X2_38 Cx hW (k := 135) (by decide) rfl (v := .ref (G.2.2.1 + 145)) (rf_135_7 iu_1) dX2_floor_9 ?_
  refine lv_aload_n hx hb dX2_floor_12 rfl (lv_at hl 0 rfl) ?_
  refine g_X2_13 Cx hW (k := 135) (by decide) rfl (v := .ref (G.2.2.1 + oc)) (((fu_1 135 rfl).2.2.2 0).trans hec) dX2_floor_13 ?_
  refine lv_iload_n hx hb dX2_floor_16 rfl (lv_at hl 1 rfl) ?_
  refine lv_iconst (v := iv 0) hx hb dX2_floor_17 (by decide) ?_
  refine sBi (sSt (As := [.int (iv i), .int (iv 0)]) (rest := [.ref (G.2.2.1 + oc), .ref (G.2.2.1 + 145)]) Cx (s_X2_at l G u_1 (i := i) (j := 0) (by omega) (by omega)) (c_X2_77 Cx rfl rfl (rmk_ok (by omega) (by decide))) hW rfl hl.1 rfl (Nat.le_of_ble_eq_true rfl) dX2_floor_18 ⟨Nat.le_of_ble_eq_true rfl, Nat.le_of_ble_eq_true rfl⟩) hL (fun r_7 u_5 H locs k_6 hW hL => ?_)
  obtain ⟨eu_5, xu_5⟩ := k_6
  rw [eu_5] at hW
  refine sBv (sV (As := [.ref (G.2.2.1 + oc), .int (iv r_7)]) (rest := []) (k := 145) Cx (b_X0_load l G u_1 (o := 145) (k := oc) (a := r_7) (N := 4816) iu_1 rfl (dic_a hoc) (by omega)) (c_X2_106 Cx rfl rfl (rmk_ok (by omega) (by decide))) hW (by decide) rfl rfl rfl hl.1 rfl (Nat.le_of_ble_eq_true rfl) dX2_floor_21 ⟨Nat.le_of_ble_eq_true rfl, Nat.le_of_ble_eq_true rfl⟩) hL (fun u_8 H locs k_9 hW hL => ?_)
  obtain ⟨iu_8, fu_8, xu_8⟩ := k_9
  have F_10 := F_3.trans (fu_8.to (pB_sub rfl rfl))
  have yu_8 : u_8.1 145 1 ≤ 6 := by have e := xu_8.1; rw [dic_L hoc] at e; exact e
  have bv_11 : bv u_8 145 = nv (u_1.2.1 oc) r_7 := xu_8.2.2.2.2.2.2.2.1
  refine lv_aload_n hx hb dX2_floor_24 rfl (lv_at hl 0 rfl) ?_
  refine g_X2_38 Cx hW (k := 135) (by decide) rfl (v := .ref (G.2.2.1 + 145)) (rf_135_7 iu_8) dX2_floor_25 ?_
  refine lv_aload_n hx hb dX2_floor_28 rfl (lv_at hl 0 rfl) ?_
  refine g_X2_35 Cx hW (k := 135) (by decide) rfl (v := .ref (G.2.2.1 + 143)) (rf_135_6 iu_8) dX2_floor_29 ?_
  refine lv_aload_n hx hb dX2_floor_32 rfl (lv_at hl 2 rfl) ?_
  refine lv_aload_n hx hb dX2_floor_33 rfl (lv_at hl 0 rfl) ?_
  refine g_X2_53 Cx hW (k := 135) (by decide) rfl (v := .ref (G.2.2.1 + 155)) (rf_135_12 iu_8) dX2_floor_34 ?_
  have q_12 : 0 ≤ u_8.1 145 1 ∧ u_8.1 145 1 ≤ 32 := iu_8.fi 145 1 0 (by decide) rfl
  have q_13 : 0 ≤ u_1.1 143 1 ∧ u_1.1 143 1 ≤ 32 := iu_1.fi 143 1 0 (by decide) rfl
  have lk_14 : u_8.1 143 1 = u_1.1 143 1 := (fu_8 143 rfl).1 1
  have q_15 : (-1) ≤ u_8.1 145 2 ∧ u_8.1 145 2 ≤ 1 := iu_8.fi 145 2 0 (by decide) rfl
  have q_16 : (-1) ≤ u_1.1 143 2 ∧ u_1.1 143 2 ≤ 1 := iu_1.fi 143 2 0 (by decide) rfl
  have lk_17 : u_8.1 143 2 = u_1.1 143 2 := (fu_8 143 rfl).1 2
  refine sBv (sV (As := [.ref (G.2.2.1 + 143), .ref (G.2.2.1 + 181), .ref (G.2.2.1 + 155)]) (rest := []) (k := 145) Cx (b_X0_divide l G u_8 (o := 145) (b := 143) (q := 181) (h := 155) (n := 6) iu_8 rfl rfl rfl rfl (show (145 : Nat) ≠ 143 by decide) (show (145 : Nat) ≠ 181 by decide) (show (145 : Nat) ≠ 155 by decide) (show (143 : Nat) ≠ 181 by decide) (show (143 : Nat) ≠ 155 by decide) (show (181 : Nat) ≠ 155 by decide) (show Hd (bs u_8 145) from xu_8.2.2.2.2.2.2.2.2) (show Hd (bs u_8 143) from (bs_fr fu_8 rfl xu_1.2.2.2.1.2)) (by omega)) (c_X2_141 Cx rfl rfl (rmk_ok (by omega) (by decide))) hW (by decide) rfl rfl rfl hl.1 rfl (Nat.le_of_ble_eq_true rfl) dX2_floor_37 ⟨Nat.le_of_ble_eq_true rfl, Nat.le_of_ble_eq_true rfl⟩) hL (fun u_18 H locs k_19 hW hL => ?_)
  obtain ⟨iu_18, fu_18, xu_18⟩ := k_19
  have F_20 := F_10.trans (fu_18.to (pD_sub (pB_sub rfl rfl) (pB_sub rfl rfl) (pB_sub rfl rfl)))
  have bv_21 : bv u_18 181 = (nv (u_1.2.1 oc) r_7) / d.1 := (by have e : bv u_18 181 = _ := (xu_18.2.2.2.2.2.2.1 (by omega)).1; rw [(show bv u_8 145 = nv (u_1.2.1 oc) r_7 from bv_11), (show bv u_8 143 = d.1 from (bv_fr fu_8 rfl rfl).trans (bv_4))] at e; exact e)
  have bv_22 : bv u_18 145 = (nv (u_1.2.1 oc) r_7) % d.1 := (by have e : bv u_18 145 = _ := (xu_18.2.2.2.2.2.2.1 (by omega)).2; rw [(show bv u_8 145 = nv (u_1.2.1 oc) r_7 from bv_11), (show bv u_8 143 = d.1 from (bv_fr fu_8 rfl rfl).trans (bv_4))] at e; exact e)
  have hq6 : Hd (u_18.1 181 1 = 7 → u_18.2.1 182 6 ≤ 1) := xu_18.2.2.1
  have q_23 : 0 ≤ u_18.1 181 1 ∧ u_18.1 181 1 ≤ 32 := iu_18.fi 181 1 0 (by decide) rfl
  exact sVret Cx hr hlk hW hL ⟨iu_18, F_20, ⟨by omega, hq6, ((show bv u_18 181 = (nv (u_1.2.1 oc) r_7) / d.1 from bv_21)).trans (by rw [(show nv (u_1.2.1 oc) r_7 = d.2.1 i 0 by rw [show u_1.2.1 oc = S.2.1 oc from funext fun x => (fu_1 oc (pB_no (tau_ne (dic_t hoc) (rfl : tau 143 = .inl 0) (fun h => by cases h)) (ac_ne (dic_c hoc) (rfl : acode 144 = 1) (by decide)))).2.1 x]; exact (show nv (S.2.1 oc) r_7 = d.2.1 i 0 by rw [show r_7 = (i + 2) * 112 + 0 * 8 by omega]; exact hDR.2.1 i 0 (by omega) (by omega) (by omega) (by omega) (by omega)))]), (show Hd (bs u_18 181) from xu_18.2.2.2.2.2.2.2.1)⟩⟩ dX2_floor_40

set_option maxRecDepth 100000 in
set_option maxHeartbeats 4000000 in
theorem v_X2_remainder_147 (l : Launch) (G : sG) (S : sS) {oc od : Nat} {n hw : Int} {d : dT} (hI : cX G S 0 0 0) (hdq : dcs G S oc od) (hDR : Hd (DRc S oc n hw d)) (hc : S.1 147 1 ≤ 7) (hDp : 0 < d.1) (hbv : Hd (bs S 147)) : Met l yX2_remainder (.code yX2_remainder cX2_remainder 2 none :: tb) (rmk 5 0 0) (sPc G 294 S [.ref (G.2.2.1 + 135), .ref (G.2.2.1 + 147)]) (sQv G 294 (fun u => cX G u 0 0 0 ∧ Fr S u (pD4 147) ∧ ((S.1 147 1 ≤ 6 → u.1 147 1 ≤ 6) ∧ u.1 147 1 ≤ 7 ∧ u.1 143 1 ≤ 6 ∧ 0 ≤ u.1 143 2 ∧ (0 < u.1 143 2 → 0 ≤ u.1 147 2) ∧ Hd (bv u 147 = bv S 147 % d.1) ∧ Hd (bs u 147) ∧ Hd (bv u 143 = d.1) ∧ Hd (bs u 143)))) 0 0 (sF G) := by
  refine sEnter (by decide) (Nat.le_of_ble_eq_true rfl) ?_
  intro p e s m args below meth c Cx hr hlk hnm hW ls hl
  have Cx : sC G p m c cX2_remainder 2 s args RX2 := Cx
  obtain ⟨hx, hb, hml, hown, hts⟩ := id Cx.1
  have hL : sL G [] := sL_nil
  have hl : lv_has ls 2 [(0, .ref (G.2.2.1 + 135)), (1, .ref (G.2.2.1 + 147))] := hl
  have hW0 := hW
  obtain ⟨hoc, hod, hcd, hec, hed⟩ := id hdq
  have hd13 := hDR.2.2.2.2.1; have hd14 := hDR.2.2.2.2.2.1; have hd15 := hDR.2.2.2.2.2.2.1; have hd16 := hDR.2.2.2.2.2.2.2; have hm40 : 0 ≤ S.1 135 14 ∧ S.1 135 14 ≤ 40 := hI.fi 135 14 2 (by decide) rfl; have hp13 : 0 ≤ S.1 135 15 ∧ S.1 135 15 ≤ 13 := hI.fi 135 15 2 (by decide) rfl
  refine lv_aload_n hx hb dX2_remainder_0 rfl (lv_at hl 0 rfl) ?_
  refine lv_aload_n hx hb dX2_remainder_1 rfl (lv_at hl 0 rfl) ?_
  refine g_X2_35 Cx hW (k := 135) (by decide) rfl (v := .ref (G.2.2.1 + 143)) (rf_135_6 hI) dX2_remainder_2 ?_
  refine sBv (sV (As := [.ref (G.2.2.1 + 143)]) (rest := []) (k := 135) Cx (v_X2_denominator l G S (v := 143) (oc := oc) (od := od) (n := n) (hw := hw) (d := d) hI ⟨hoc, hod, (neD hcd), hec, hed⟩ hDR rfl) (c_X2_121 Cx rfl rfl (rmk_ok (by omega) (by decide))) hW (by decide) rfl rfl rfl hl.1 rfl (Nat.le_of_ble_eq_true rfl) dX2_remainder_5 ⟨Nat.le_of_ble_eq_true rfl, Nat.le_of_ble_eq_true rfl⟩) hL (fun u_1 H locs k_2 hW hL => ?_)
  obtain ⟨iu_1, fu_1, xu_1⟩ := k_2
  have F_3 := (Fr.rf : Fr S S (pD4 147)).trans (fu_1.to (pB_sub rfl rfl))
  have bv_4 : bv u_1 143 = d.1 := xu_1.2.2.2.1.1
  refine lv_aload_n hx hb dX2_remainder_8 rfl (lv_at hl 1 rfl) ?_
  refine lv_aload_n hx hb dX2_remainder_9 rfl (lv_at hl 0 rfl) ?_
  refine g_X2_35 Cx hW (k := 135) (by decide) rfl (v := .ref (G.2.2.1 + 143)) (rf_135_6 iu_1) dX2_remainder_10 ?_
  refine lv_aload_n hx hb dX2_remainder_13 rfl (lv_at hl 0 rfl) ?_
  refine g_X2_50 Cx hW (k := 135) (by decide) rfl (v := .ref (G.2.2.1 + 153)) (rf_135_11 iu_1) dX2_remainder_14 ?_
  refine lv_aload_n hx hb dX2_remainder_17 rfl (lv_at hl 0 rfl) ?_
  refine g_X2_53 Cx hW (k := 135) (by decide) rfl (v := .ref (G.2.2.1 + 155)) (rf_135_12 iu_1) dX2_remainder_18 ?_
  have q_5 : 0 ≤ S.1 147 1 ∧ S.1 147 1 ≤ 32 := hI.fi 147 1 0 (by decide) rfl
  have lk_6 : u_1.1 147 1 = S.1 147 1 := (fu_1 147 rfl).1 1
  have q_7 : 0 ≤ u_1.1 143 1 ∧ u_1.1 143 1 ≤ 32 := iu_1.fi 143 1 0 (by decide) rfl
  have q_8 : (-1) ≤ S.1 147 2 ∧ S.1 147 2 ≤ 1 := hI.fi 147 2 0 (by decide) rfl
  have lk_9 : u_1.1 147 2 = S.1 147 2 := (fu_1 147 rfl).1 2
  have q_10 : (-1) ≤ u_1.1 143 2 ∧ u_1.1 143 2 ≤ 1 := iu_1.fi 143 2 0 (by decide) rfl
  refine sBv (sV (As := [.ref (G.2.2.1 + 143), .ref (G.2.2.1 + 153), .ref (G.2.2.1 + 155)]) (rest := []) (k := 147) Cx (b_X0_divide l G u_1 (o := 147) (b := 143) (q := 153) (h := 155) (n := 7) iu_1 rfl rfl rfl rfl (show (147 : Nat) ≠ 143 by decide) (show (147 : Nat) ≠ 153 by decide) (show (147 : Nat) ≠ 155 by decide) (show (143 : Nat) ≠ 153 by decide) (show (143 : Nat) ≠ 155 by decide) (show (153 : Nat) ≠ 155 by decide) (show Hd (bs u_1 147) from (bs_fr fu_1 rfl hbv)) (show Hd (bs u_1 143) from xu_1.2.2.2.1.2) (by omega)) (c_X2_141 Cx rfl rfl (rmk_ok (by omega) (by decide))) hW (by decide) rfl rfl rfl hl.1 rfl (Nat.le_of_ble_eq_true rfl) dX2_remainder_21 ⟨Nat.le_of_ble_eq_true rfl, Nat.le_of_ble_eq_true rfl⟩) hL (fun u_11 H locs k_12 hW hL => ?_)
  obtain ⟨iu_11, fu_11, xu_11⟩ := k_12
  have F_13 := F_3.trans (fu_11.to (pD_sub (pB_sub rfl rfl) (pB_sub rfl rfl) (pB_sub rfl rfl)))
  have bv_14 : bv u_11 153 = (bv S 147) / d.1 := (by have e : bv u_11 153 = _ := (xu_11.2.2.2.2.2.2.1 (by omega)).1; rw [(show bv u_1 147 = bv S 147 from bv_fr fu_1 rfl rfl), (show bv u_1 143 = d.1 from bv_4)] at e; exact e)
  have bv_15 : bv u_11 147 = (bv S 147) % d.1 := (by have e : bv u_11 147 = _ := (xu_11.2.2.2.2.2.2.1 (by omega)).2; rw [(show bv u_1 147 = bv S 147 from bv_fr fu_1 rfl rfl), (show bv u_1 143 = d.1 from bv_4)] at e; exact e)
  have q_16 : 0 ≤ u_11.1 147 1 ∧ u_11.1 147 1 ≤ 32 := iu_11.fi 147 1 0 (by decide) rfl
  have lk_17 : u_11.1 143 1 = u_1.1 143 1 := (fu_11 143 rfl).1 1
  have lk_18 : u_11.1 143 2 = u_1.1 143 2 := (fu_11 143 rfl).1 2
  have q_19 : (-1) ≤ u_11.1 147 2 ∧ u_11.1 147 2 ≤ 1 := iu_11.fi 147 2 0 (by decide) rfl
  exact sVret Cx hr hlk hW hL ⟨iu_11, F_13, ⟨by omega, by omega, by omega, by omega, by omega, ((show bv u_11 147 = (bv S 147) % d.1 from bv_15)), (show Hd (bs u_11 147) from xu_11.2.2.2.2.2.2.2.2), (show bv u_11 143 = d.1 from (show bv u_11 143 = d.1 from (bv_fr fu_11 rfl rfl).trans (bv_4))), (show Hd (bs u_11 143) from (bs_fr fu_11 rfl xu_1.2.2.2.1.2))⟩⟩ dX2_remainder_24

set_option maxRecDepth 100000 in
set_option maxHeartbeats 4000000 in
theorem v_X2_remainder_169 (l : Launch) (G : sG) (S : sS) {oc od : Nat} {n hw : Int} {d : dT} (hI : cX G S 0 0 0) (hdq : dcs G S oc od) (hDR : Hd (DRc S oc n hw d)) (hc : S.1 169 1 ≤ 7) (hDp : 0 < d.1) (hbv : Hd (bs S 169)) : Met l yX2_remainder (.code yX2_remainder cX2_remainder 2 none :: tb) (rmk 5 0 0) (sPc G 294 S [.ref (G.2.2.1 + 135), .ref (G.2.2.1 + 169)]) (sQv G 294 (fun u => cX G u 0 0 0 ∧ Fr S u (pD4 169) ∧ ((S.1 169 1 ≤ 6 → u.1 169 1 ≤ 6) ∧ u.1 169 1 ≤ 7 ∧ u.1 143 1 ≤ 6 ∧ 0 ≤ u.1 143 2 ∧ (0 < u.1 143 2 → 0 ≤ u.1 169 2) ∧ Hd (bv u 169 = bv S 169 % d.1) ∧ Hd (bs u 169) ∧ Hd (bv u 143 = d.1) ∧ Hd (bs u 143)))) 0 0 (sF G) := by
  refine sEnter (by decide) (Nat.le_of_ble_eq_true rfl) ?_
  intro p e s m args below meth c Cx hr hlk hnm hW ls hl
  have Cx : sC G p m c cX2_remainder 2 s args RX2 := Cx
  obtain ⟨hx, hb, hml, hown, hts⟩ := id Cx.1
  have hL : sL G [] := sL_nil
  have hl : lv_has ls 2 [(0, .ref (G.2.2.1 + 135)), (1, .ref (G.2.2.1 + 169))] := hl
  have hW0 := hW
  obtain ⟨hoc, hod, hcd, hec, hed⟩ := id hdq
  have hd13 := hDR.2.2.2.2.1; have hd14 := hDR.2.2.2.2.2.1; have hd15 := hDR.2.2.2.2.2.2.1; have hd16 := hDR.2.2.2.2.2.2.2; have hm40 : 0 ≤ S.1 135 14 ∧ S.1 135 14 ≤ 40 := hI.fi 135 14 2 (by decide) rfl; have hp13 : 0 ≤ S.1 135 15 ∧ S.1 135 15 ≤ 13 := hI.fi 135 15 2 (by decide) rfl
  refine lv_aload_n hx hb dX2_remainder_0 rfl (lv_at hl 0 rfl) ?_
  refine lv_aload_n hx hb dX2_remainder_1 rfl (lv_at hl 0 rfl) ?_
  refine g_X2_35 Cx hW (k := 135) (by decide) rfl (v := .ref (G.2.2.1 + 143)) (rf_135_6 hI) dX2_remainder_2 ?_
  refine sBv (sV (As := [.ref (G.2.2.1 + 143)]) (rest := []) (k := 135) Cx (v_X2_denominator l G S (v := 143) (oc := oc) (od := od) (n := n) (hw := hw) (d := d) hI ⟨hoc, hod, (neD hcd), hec, hed⟩ hDR rfl) (c_X2_121 Cx rfl rfl (rmk_ok (by omega) (by decide))) hW (by decide) rfl rfl rfl hl.1 rfl (Nat.le_of_ble_eq_true rfl) dX2_remainder_5 ⟨Nat.le_of_ble_eq_true rfl, Nat.le_of_ble_eq_true rfl⟩) hL (fun u_1 H locs k_2 hW hL => ?_)
  obtain ⟨iu_1, fu_1, xu_1⟩ := k_2
  have F_3 := (Fr.rf : Fr S S (pD4 169)).trans (fu_1.to (pB_sub rfl rfl))
  have bv_4 : bv u_1 143 = d.1 := xu_1.2.2.2.1.1
  refine lv_aload_n hx hb dX2_remainder_8 rfl (lv_at hl 1 rfl) ?_
  refine lv_aload_n hx hb dX2_remainder_9 rfl (lv_at hl 0 rfl) ?_
  refine g_X2_35 Cx hW (k := 135) (by decide) rfl (v := .ref (G.2.2.1 + 143)) (rf_135_6 iu_1) dX2_remainder_10 ?_
  refine lv_aload_n hx hb dX2_remainder_13 rfl (lv_at hl 0 rfl) ?_
  refine g_X2_50 Cx hW (k := 135) (by decide) rfl (v := .ref (G.2.2.1 + 153)) (rf_135_11 iu_1) dX2_remainder_14 ?_
  refine lv_aload_n hx hb dX2_remainder_17 rfl (lv_at hl 0 rfl) ?_
  refine g_X2_53 Cx hW (k := 135) (by decide) rfl (v := .ref (G.2.2.1 + 155)) (rf_135_12 iu_1) dX2_remainder_18 ?_
  have q_5 : 0 ≤ S.1 169 1 ∧ S.1 169 1 ≤ 32 := hI.fi 169 1 0 (by decide) rfl
  have lk_6 : u_1.1 169 1 = S.1 169 1 := (fu_1 169 rfl).1 1
  have q_7 : 0 ≤ u_1.1 143 1 ∧ u_1.1 143 1 ≤ 32 := iu_1.fi 143 1 0 (by decide) rfl
  have q_8 : (-1) ≤ S.1 169 2 ∧ S.1 169 2 ≤ 1 := hI.fi 169 2 0 (by decide) rfl
  have lk_9 : u_1.1 169 2 = S.1 169 2 := (fu_1 169 rfl).1 2
  have q_10 : (-1) ≤ u_1.1 143 2 ∧ u_1.1 143 2 ≤ 1 := iu_1.fi 143 2 0 (by decide) rfl
  refine sBv (sV (As := [.ref (G.2.2.1 + 143), .ref (G.2.2.1 + 153), .ref (G.2.2.1 + 155)]) (rest := []) (k := 169) Cx (b_X0_divide l G u_1 (o := 169) (b := 143) (q := 153) (h := 155) (n := 7) iu_1 rfl rfl rfl rfl (show (169 : Nat) ≠ 143 by decide) (show (169 : Nat) ≠ 153 by decide) (show (169 : Nat) ≠ 155 by decide) (show (143 : Nat) ≠ 153 by decide) (show (143 : Nat) ≠ 155 by decide) (show (153 : Nat) ≠ 155 by decide) (show Hd (bs u_1 169) from (bs_fr fu_1 rfl hbv)) (show Hd (bs u_1 143) from xu_1.2.2.2.1.2) (by omega)) (c_X2_141 Cx rfl rfl (rmk_ok (by omega) (by decide))) hW (by decide) rfl rfl rfl hl.1 rfl (Nat.le_of_ble_eq_true rfl) dX2_remainder_21 ⟨Nat.le_of_ble_eq_true rfl, Nat.le_of_ble_eq_true rfl⟩) hL (fun u_11 H locs k_12 hW hL => ?_)
  obtain ⟨iu_11, fu_11, xu_11⟩ := k_12
  have F_13 := F_3.trans (fu_11.to (pD_sub (pB_sub rfl rfl) (pB_sub rfl rfl) (pB_sub rfl rfl)))
  have bv_14 : bv u_11 153 = (bv S 169) / d.1 := (by have e : bv u_11 153 = _ := (xu_11.2.2.2.2.2.2.1 (by omega)).1; rw [(show bv u_1 169 = bv S 169 from bv_fr fu_1 rfl rfl), (show bv u_1 143 = d.1 from bv_4)] at e; exact e)
  have bv_15 : bv u_11 169 = (bv S 169) % d.1 := (by have e : bv u_11 169 = _ := (xu_11.2.2.2.2.2.2.1 (by omega)).2; rw [(show bv u_1 169 = bv S 169 from bv_fr fu_1 rfl rfl), (show bv u_1 143 = d.1 from bv_4)] at e; exact e)
  have q_16 : 0 ≤ u_11.1 169 1 ∧ u_11.1 169 1 ≤ 32 := iu_11.fi 169 1 0 (by decide) rfl
  have lk_17 : u_11.1 143 1 = u_1.1 143 1 := (fu_11 143 rfl).1 1
  have lk_18 : u_11.1 143 2 = u_1.1 143 2 := (fu_11 143 rfl).1 2
  have q_19 : (-1) ≤ u_11.1 169 2 ∧ u_11.1 169 2 ≤ 1 := iu_11.fi 169 2 0 (by decide) rfl
  exact sVret Cx hr hlk hW hL ⟨iu_11, F_13, ⟨by omega, by omega, by omega, by omega, by omega, ((show bv u_11 169 = (bv S 169) % d.1 from bv_15)), (show Hd (bs u_11 169) from xu_11.2.2.2.2.2.2.2.2), (show bv u_11 143 = d.1 from (show bv u_11 143 = d.1 from (bv_fr fu_11 rfl rfl).trans (bv_4))), (show Hd (bs u_11 143) from (bs_fr fu_11 rfl xu_1.2.2.2.1.2))⟩⟩ dX2_remainder_24

set_option maxRecDepth 100000 in
set_option maxHeartbeats 4000000 in
theorem v_X2_pivotGreat (l : Launch) (G : sG) (S : sS) {oc od : Nat} {a b1 c1 tn : Int} (hI : cX G S 0 0 0) (hdq : dcs G S oc od) (ha : a % 8 = 0 ∧ 0 ≤ a ∧ a + 7 < 4816) (hb1 : b1 % 8 = 0 ∧ 0 ≤ b1 ∧ b1 + 7 < 4816) (hc1 : c1 % 8 = 0 ∧ 0 ≤ c1 ∧ c1 + 7 < 4816) (ha1 : 1 ≤ a) (htn : tn = 1 ∨ tn = -1) (hld : S.1 141 1 ≤ 6 ∧ S.1 143 1 ≤ 6) (h3p : 0 < S.1 143 2) (hb1 : Hd (bs S 141)) (hb3_ : Hd (bs S 143)) : Met l yX2_pivotGreat (.code yX2_pivotGreat cX2_pivotGreat 5 (some .boolean) :: tb) (rmk 5 0 0) (sPc G 294 S [.ref (G.2.2.1 + 135), .int (iv a), .int (iv b1), .int (iv c1), .int (iv tn)]) (sQi G 294 (fun r u => cX G u 0 0 0 ∧ Fr S u pZ ∧ (0 ≤ r ∧ r ≤ 1 ∧ Hd (r = 1 → nv (u.2.1 od) a = tn * ((nv (S.2.1 oc) a * bv S 141 - nv (S.2.1 oc) b1 * nv (S.2.1 oc) c1) / bv S 143) ∧ (∀ y, y < a ∨ a + 8 ≤ y → u.2.1 od y = S.2.1 od y) ∧ ¬ bgN ((nv (S.2.1 oc) a * bv S 141 - nv (S.2.1 oc) b1 * nv (S.2.1 oc) c1) / bv S 143)) ∧ Hd (r = 0 → bgN ((nv (S.2.1 oc) a * bv S 141 - nv (S.2.1 oc) b1 * nv (S.2.1 oc) c1) / bv S 143)) ∧ Hd (u.2.1 oc = S.2.1 oc)))) 0 0 (sF G) := by
  refine sEnter (by decide) (Nat.le_of_ble_eq_true rfl) ?_
  intro p e s m args below meth c Cx hr hlk hnm hW ls hl
  have Cx : sC G p m c cX2_pivotGreat 5 s args RX2 := Cx
  obtain ⟨hx, hb, hml, hown, hts⟩ := id Cx.1
  have hL : sL G [] := sL_nil
  have hl : lv_has ls 5 [(0, .ref (G.2.2.1 + 135)), (1, .int (iv a)), (2, .int (iv b1)), (3, .int (iv c1)), (4, .int (iv tn))] := hl
  have hW0 := hW
  obtain ⟨hoc, hod, hcd, hec, hed⟩ := id hdq
  refine lv_aload_n hx hb dX2_pivotGreat_0 rfl (lv_at hl 0 rfl) ?_
  refine g_X2_38 Cx hW (k := 135) (by decide) rfl (v := .ref (G.2.2.1 + 145)) (rf_135_7 hI) dX2_pivotGreat_1 ?_
  refine lv_aload_n hx hb dX2_pivotGreat_4 rfl (lv_at hl 0 rfl) ?_
  refine g_X2_13 Cx hW (k := 135) (by decide) rfl (v := .ref (G.2.2.1 + oc)) hec dX2_pivotGreat_5 ?_
  refine lv_iload_n hx hb dX2_pivotGreat_8 rfl (lv_at hl 1 rfl) ?_
  refine sBv (sV (As := [.ref (G.2.2.1 + oc), .int (iv a)]) (rest := []) (k := 145) Cx (b_X0_load l G S (o := 145) (k := oc) (a := a) (N := 4816) hI rfl (dic_a hoc) (by omega)) (c_X2_106 Cx rfl rfl (rmk_ok (by omega) (by decide))) hW (by decide) rfl rfl rfl hl.1 rfl (Nat.le_of_ble_eq_true rfl) dX2_pivotGreat_9 ⟨Nat.le_of_ble_eq_true rfl, Nat.le_of_ble_eq_true rfl⟩) hL (fun u_1 H locs k_2 hW hL => ?_)
  obtain ⟨iu_1, fu_1, xu_1⟩ := k_2
  have F_3 := (Fr.rf : Fr S S pZ).trans (fu_1.to (pB_sub rfl rfl))
  have yu_1 : u_1.1 145 1 ≤ 6 := by have e := xu_1.1; rw [dic_L hoc] at e; exact e
  have bv_4 : bv u_1 145 = nv (S.2.1 oc) a := xu_1.2.2.2.2.2.2.2.1
  replace xu_1 : Hd _ := xu_1
  refine lv_aload_n hx hb dX2_pivotGreat_12 rfl (lv_at hl 0 rfl) ?_
  refine g_X2_44 Cx hW (k := 135) (by decide) rfl (v := .ref (G.2.2.1 + 149)) (rf_135_9 iu_1) dX2_pivotGreat_13 ?_
  refine lv_aload_n hx hb dX2_pivotGreat_16 rfl (lv_at hl 0 rfl) ?_
  refine g_X2_38 Cx hW (k := 135) (by decide) rfl (v := .ref (G.2.2.1 + 145)) (rf_135_7 iu_1) dX2_pivotGreat_17 ?_
  refine lv_aload_n hx hb dX2_pivotGreat_20 rfl (lv_at hl 0 rfl) ?_
  refine g_X2_31 Cx hW (k := 135) (by decide) rfl (v := .ref (G.2.2.1 + 141)) (rf_135_5 iu_1) dX2_pivotGreat_21 ?_
  have q_5 : 0 ≤ u_1.1 145 1 ∧ u_1.1 145 1 ≤ 32 := iu_1.fi 145 1 0 (by decide) rfl
  have q_6 : 0 ≤ S.1 141 1 ∧ S.1 141 1 ≤ 32 := hI.fi 141 1 0 (by decide) rfl
  have lk_7 : u_1.1 141 1 = S.1 141 1 := (fu_1 141 rfl).1 1
  refine sBv (sV (As := [.ref (G.2.2.1 + 145), .ref (G.2.2.1 + 141)]) (rest := []) (k := 149) Cx (b_X0_product l G u_1 (o := 149) (a := 145) (b := 141) iu_1 rfl rfl rfl (show (149 : Nat) ≠ 145 by decide) (show (149 : Nat) ≠ 141 by decide)) (c_X2_176 Cx rfl rfl (rmk_ok (by omega) (by decide))) hW (by decide) rfl rfl rfl hl.1 rfl (Nat.le_of_ble_eq_true rfl) dX2_pivotGreat_24 ⟨Nat.le_of_ble_eq_true rfl, Nat.le_of_ble_eq_true rfl⟩) hL (fun u_8 H locs k_9 hW hL => ?_)
  obtain ⟨iu_8, fu_8, xu_8⟩ := k_9
  have F_10 := F_3.trans (fu_8.to (pB_sub rfl rfl))
  have bv_11 : bv u_8 149 = (nv (S.2.1 oc) a) * (bv S 141) := (by have e : bv u_8 149 = _ := xu_8.2.1 (by omega); rw [(show bv u_1 145 = nv (S.2.1 oc) a from bv_4), (show bv u_1 141 = bv S 141 from bv_fr fu_1 rfl rfl)] at e; exact e)
  refine lv_aload_n hx hb dX2_pivotGreat_27 rfl (lv_at hl 0 rfl) ?_
  refine g_X2_38 Cx hW (k := 135) (by decide) rfl (v := .ref (G.2.2.1 + 145)) (rf_135_7 iu_8) dX2_pivotGreat_28 ?_
  refine lv_aload_n hx hb dX2_pivotGreat_31 rfl (lv_at hl 0 rfl) ?_
  refine g_X2_13 Cx hW (k := 135) (by decide) rfl (v := .ref (G.2.2.1 + oc)) ((((fu_8 135 rfl).2.2.2 0).trans ((fu_1 135 rfl).2.2.2 0)).trans hec) dX2_pivotGreat_32 ?_
  refine lv_iload_n hx hb dX2_pivotGreat_35 rfl (lv_at hl 2 rfl) ?_
  refine sBv (sV (As := [.ref (G.2.2.1 + oc), .int (iv b1)]) (rest := []) (k := 145) Cx (b_X0_load l G u_8 (o := 145) (k := oc) (a := b1) (N := 4816) iu_8 rfl (dic_a hoc) (by omega)) (c_X2_106 Cx rfl rfl (rmk_ok (by omega) (by decide))) hW (by decide) rfl rfl rfl hl.1 rfl (Nat.le_of_ble_eq_true rfl) dX2_pivotGreat_36 ⟨Nat.le_of_ble_eq_true rfl, Nat.le_of_ble_eq_true rfl⟩) hL (fun u_12 H locs k_13 hW hL => ?_)
  obtain ⟨iu_12, fu_12, xu_12⟩ := k_13
  have F_14 := F_10.trans (fu_12.to (pB_sub rfl rfl))
  have yu_12 : u_12.1 145 1 ≤ 6 := by have e := xu_12.1; rw [dic_L hoc] at e; exact e
  have bv_15 : bv u_12 145 = nv (u_8.2.1 oc) b1 := xu_12.2.2.2.2.2.2.2.1
  replace xu_12 : Hd _ := xu_12
  refine lv_aload_n hx hb dX2_pivotGreat_39 rfl (lv_at hl 0 rfl) ?_
  refine g_X2_41 Cx hW (k := 135) (by decide) rfl (v := .ref (G.2.2.1 + 147)) (rf_135_8 iu_12) dX2_pivotGreat_40 ?_
  refine lv_aload_n hx hb dX2_pivotGreat_43 rfl (lv_at hl 0 rfl) ?_
  refine g_X2_13 Cx hW (k := 135) (by decide) rfl (v := .ref (G.2.2.1 + oc)) ((((fu_12 135 rfl).2.2.2 0).trans (((fu_8 135 rfl).2.2.2 0).trans ((fu_1 135 rfl).2.2.2 0))).trans hec) dX2_pivotGreat_44 ?_
  refine lv_iload_n hx hb dX2_pivotGreat_47 rfl (lv_at hl 3 rfl) ?_
  refine sBv (sV (As := [.ref (G.2.2.1 + oc), .int (iv c1)]) (rest := []) (k := 147) Cx (b_X0_load l G u_12 (o := 147) (k := oc) (a := c1) (N := 4816) iu_12 rfl (dic_a hoc) (by omega)) (c_X2_106 Cx rfl rfl (rmk_ok (by omega) (by decide))) hW (by decide) rfl rfl rfl hl.1 rfl (Nat.le_of_ble_eq_true rfl) dX2_pivotGreat_48 ⟨Nat.le_of_ble_eq_true rfl, Nat.le_of_ble_eq_true rfl⟩) hL (fun u_16 H locs k_17 hW hL => ?_)
  obtain ⟨iu_16, fu_16, xu_16⟩ := k_17
  have F_18 := F_14.trans (fu_16.to (pB_sub rfl rfl))
  have yu_16 : u_16.1 147 1 ≤ 6 := by have e := xu_16.1; rw [dic_L hoc] at e; exact e
  have bv_19 : bv u_16 147 = nv (u_12.2.1 oc) c1 := xu_16.2.2.2.2.2.2.2.1
  replace xu_16 : Hd _ := xu_16
  refine lv_aload_n hx hb dX2_pivotGreat_51 rfl (lv_at hl 0 rfl) ?_
  refine g_X2_47 Cx hW (k := 135) (by decide) rfl (v := .ref (G.2.2.1 + 151)) (rf_135_10 iu_16) dX2_pivotGreat_52 ?_
  refine lv_aload_n hx hb dX2_pivotGreat_55 rfl (lv_at hl 0 rfl) ?_
  refine g_X2_38 Cx hW (k := 135) (by decide) rfl (v := .ref (G.2.2.1 + 145)) (rf_135_7 iu_16) dX2_pivotGreat_56 ?_
  refine lv_aload_n hx hb dX2_pivotGreat_59 rfl (lv_at hl 0 rfl) ?_
  refine g_X2_41 Cx hW (k := 135) (by decide) rfl (v := .ref (G.2.2.1 + 147)) (rf_135_8 iu_16) dX2_pivotGreat_60 ?_
  have q_20 : 0 ≤ u_12.1 145 1 ∧ u_12.1 145 1 ≤ 32 := iu_12.fi 145 1 0 (by decide) rfl
  have lk_21 : u_16.1 145 1 = u_12.1 145 1 := (fu_16 145 rfl).1 1
  have q_22 : 0 ≤ u_16.1 147 1 ∧ u_16.1 147 1 ≤ 32 := iu_16.fi 147 1 0 (by decide) rfl
  refine sBv (sV (As := [.ref (G.2.2.1 + 145), .ref (G.2.2.1 + 147)]) (rest := []) (k := 151) Cx (b_X0_product l G u_16 (o := 151) (a := 145) (b := 147) iu_16 rfl rfl rfl (show (151 : Nat) ≠ 145 by decide) (show (151 : Nat) ≠ 147 by decide)) (c_X2_176 Cx rfl rfl (rmk_ok (by omega) (by decide))) hW (by decide) rfl rfl rfl hl.1 rfl (Nat.le_of_ble_eq_true rfl) dX2_pivotGreat_63 ⟨Nat.le_of_ble_eq_true rfl, Nat.le_of_ble_eq_true rfl⟩) hL (fun u_23 H locs k_24 hW hL => ?_)
  obtain ⟨iu_23, fu_23, xu_23⟩ := k_24
  have F_25 := F_18.trans (fu_23.to (pB_sub rfl rfl))
  have bv_26 : bv u_23 151 = (nv (u_8.2.1 oc) b1) * (nv (u_12.2.1 oc) c1) := (by have e : bv u_23 151 = _ := xu_23.2.1 (by omega); rw [(show bv u_16 145 = nv (u_8.2.1 oc) b1 from (bv_fr fu_16 rfl rfl).trans (bv_15)), (show bv u_16 147 = nv (u_12.2.1 oc) c1 from bv_19)] at e; exact e)
  refine lv_aload_n hx hb dX2_pivotGreat_66 rfl (lv_at hl 0 rfl) ?_
  refine g_X2_44 Cx hW (k := 135) (by decide) rfl (v := .ref (G.2.2.1 + 149)) (rf_135_9 iu_23) dX2_pivotGreat_67 ?_
  refine lv_aload_n hx hb dX2_pivotGreat_70 rfl (lv_at hl 0 rfl) ?_
  refine g_X2_47 Cx hW (k := 135) (by decide) rfl (v := .ref (G.2.2.1 + 151)) (rf_135_10 iu_23) dX2_pivotGreat_71 ?_
  refine lv_iconst (v := iv (-1)) hx hb dX2_pivotGreat_74 (by decide) ?_
  have q_27 : 0 ≤ u_23.1 151 1 ∧ u_23.1 151 1 ≤ 32 := iu_23.fi 151 1 0 (by decide) rfl
  have q_28 : 0 ≤ u_8.1 149 1 ∧ u_8.1 149 1 ≤ 32 := iu_8.fi 149 1 0 (by decide) rfl
  have lk_29 : u_23.1 149 1 = u_8.1 149 1 := ((fu_23 149 rfl).1 1).trans (((fu_16 149 rfl).1 1).trans ((fu_12 149 rfl).1 1))
  have q_30 : (-1) ≤ u_8.1 149 2 ∧ u_8.1 149 2 ≤ 1 := iu_8.fi 149 2 0 (by decide) rfl
  have lk_31 : u_23.1 149 2 = u_8.1 149 2 := ((fu_23 149 rfl).1 2).trans (((fu_16 149 rfl).1 2).trans ((fu_12 149 rfl).1 2))
  have q_32 : (-1) ≤ u_23.1 151 2 ∧ u_23.1 151 2 ≤ 1 := iu_23.fi 151 2 0 (by decide) rfl
  refine sBv (sV (As := [.ref (G.2.2.1 + 151), .int (iv ((-1)))]) (rest := []) (k := 149) Cx (b_X0_add_m l G u_23 (o := 149) (a := 151) (n := 12) (t := 0) iu_23 rfl rfl (show (149 : Nat) ≠ 151 by decide) (by omega) (fun q => absurd q (by omega)) (show Hd (bs u_23 149) from (bs_fr fu_23 rfl (bs_fr fu_16 rfl (bs_fr fu_12 rfl xu_8.2.2)))) (show Hd (bs u_23 151) from xu_23.2.2)) (c_X2_196 Cx rfl rfl (rmk_ok (by omega) (by decide))) hW (by decide) rfl rfl rfl hl.1 rfl (Nat.le_of_ble_eq_true rfl) dX2_pivotGreat_75 ⟨Nat.le_of_ble_eq_true rfl, Nat.le_of_ble_eq_true rfl⟩) hL (fun u_33 H locs k_34 hW hL => ?_)
  obtain ⟨iu_33, fu_33, xu_33⟩ := k_34
  have F_35 := F_25.trans (fu_33.to (pB_sub rfl rfl))
  have bv_36 : bv u_33 149 = (nv (S.2.1 oc) a) * (bv S 141) - ((nv (u_8.2.1 oc) b1) * (nv (u_12.2.1 oc) c1)) := (by have e : bv u_33 149 = _ := xu_33.2.2.2.1; rw [(show bv u_23 149 = (nv (S.2.1 oc) a) * (bv S 141) from (bv_fr fu_23 rfl rfl).trans ((bv_fr fu_16 rfl rfl).trans ((bv_fr fu_12 rfl rfl).trans (bv_11)))), (show bv u_23 151 = (nv (u_8.2.1 oc) b1) * (nv (u_12.2.1 oc) c1) from bv_26)] at e; omega)
  refine lv_aload_n hx hb dX2_pivotGreat_78 rfl (lv_at hl 0 rfl) ?_
  refine g_X2_44 Cx hW (k := 135) (by decide) rfl (v := .ref (G.2.2.1 + 149)) (rf_135_9 iu_33) dX2_pivotGreat_79 ?_
  refine lv_aload_n hx hb dX2_pivotGreat_82 rfl (lv_at hl 0 rfl) ?_
  refine g_X2_35 Cx hW (k := 135) (by decide) rfl (v := .ref (G.2.2.1 + 143)) (rf_135_6 iu_33) dX2_pivotGreat_83 ?_
  refine lv_aload_n hx hb dX2_pivotGreat_86 rfl (lv_at hl 0 rfl) ?_
  refine g_X2_50 Cx hW (k := 135) (by decide) rfl (v := .ref (G.2.2.1 + 153)) (rf_135_11 iu_33) dX2_pivotGreat_87 ?_
  refine lv_aload_n hx hb dX2_pivotGreat_90 rfl (lv_at hl 0 rfl) ?_
  refine g_X2_53 Cx hW (k := 135) (by decide) rfl (v := .ref (G.2.2.1 + 155)) (rf_135_12 iu_33) dX2_pivotGreat_91 ?_
  have q_37 : 0 ≤ u_33.1 149 1 ∧ u_33.1 149 1 ≤ 32 := iu_33.fi 149 1 0 (by decide) rfl
  have q_38 : 0 ≤ S.1 143 1 ∧ S.1 143 1 ≤ 32 := hI.fi 143 1 0 (by decide) rfl
  have lk_39 : u_33.1 143 1 = S.1 143 1 := ((fu_33 143 rfl).1 1).trans (((fu_23 143 rfl).1 1).trans (((fu_16 143 rfl).1 1).trans (((fu_12 143 rfl).1 1).trans (((fu_8 143 rfl).1 1).trans ((fu_1 143 rfl).1 1)))))
  have q_40 : (-1) ≤ u_33.1 149 2 ∧ u_33.1 149 2 ≤ 1 := iu_33.fi 149 2 0 (by decide) rfl
  have q_41 : (-1) ≤ S.1 143 2 ∧ S.1 143 2 ≤ 1 := hI.fi 143 2 0 (by decide) rfl
  have lk_42 : u_33.1 143 2 = S.1 143 2 := ((fu_33 143 rfl).1 2).trans (((fu_23 143 rfl).1 2).trans (((fu_16 143 rfl).1 2).trans (((fu_12 143 rfl).1 2).trans (((fu_8 143 rfl).1 2).trans ((fu_1 143 rfl).1 2)))))
  refine sBv (sV (As := [.ref (G.2.2.1 + 143), .ref (G.2.2.1 + 153), .ref (G.2.2.1 + 155)]) (rest := []) (k := 149) Cx (b_X0_divide l G u_33 (o := 149) (b := 143) (q := 153) (h := 155) (n := 13) iu_33 rfl rfl rfl rfl (show (149 : Nat) ≠ 143 by decide) (show (149 : Nat) ≠ 153 by decide) (show (149 : Nat) ≠ 155 by decide) (show (143 : Nat) ≠ 153 by decide) (show (143 : Nat) ≠ 155 by decide) (show (153 : Nat) ≠ 155 by decide) (show Hd (bs u_33 149) from xu_33.2.2.2.2) (show Hd (bs u_33 143) from (bs_fr fu_33 rfl (bs_fr fu_23 rfl (bs_fr fu_16 rfl (bs_fr fu_12 rfl (bs_fr fu_8 rfl (bs_fr fu_1 rfl hb3_))))))) (by omega)) (c_X2_141 Cx rfl rfl (rmk_ok (by omega) (by decide))) hW (by decide) rfl rfl rfl hl.1 rfl (Nat.le_of_ble_eq_true rfl) dX2_pivotGreat_94 ⟨Nat.le_of_ble_eq_true rfl, Nat.le_of_ble_eq_true rfl⟩) hL (fun u_43 H locs k_44 hW hL => ?_)
  obtain ⟨iu_43, fu_43, xu_43⟩ := k_44
  have F_45 := F_35.trans (fu_43.to (pD_sub (pB_sub rfl rfl) (pB_sub rfl rfl) (pB_sub rfl rfl)))
  have bv_46 : bv u_43 153 = ((nv (S.2.1 oc) a) * (bv S 141) - ((nv (u_8.2.1 oc) b1) * (nv (u_12.2.1 oc) c1))) / (bv S 143) := (by have e : bv u_43 153 = _ := (xu_43.2.2.2.2.2.2.1 (by omega)).1; rw [(show bv u_33 149 = (nv (S.2.1 oc) a) * (bv S 141) - ((nv (u_8.2.1 oc) b1) * (nv (u_12.2.1 oc) c1)) from bv_36), (show bv u_33 143 = bv S 143 from (bv_fr fu_33 rfl rfl).trans ((bv_fr fu_23 rfl rfl).trans ((bv_fr fu_16 rfl rfl).trans ((bv_fr fu_12 rfl rfl).trans ((bv_fr fu_8 rfl rfl).trans (bv_fr fu_1 rfl rfl))))))] at e; exact e)
  have bv_47 : bv u_43 149 = ((nv (S.2.1 oc) a) * (bv S 141) - ((nv (u_8.2.1 oc) b1) * (nv (u_12.2.1 oc) c1))) % (bv S 143) := (by have e : bv u_43 149 = _ := (xu_43.2.2.2.2.2.2.1 (by omega)).2; rw [(show bv u_33 149 = (nv (S.2.1 oc) a) * (bv S 141) - ((nv (u_8.2.1 oc) b1) * (nv (u_12.2.1 oc) c1)) from bv_36), (show bv u_33 143 = bv S 143 from (bv_fr fu_33 rfl rfl).trans ((bv_fr fu_23 rfl rfl).trans ((bv_fr fu_16 rfl rfl).trans ((bv_fr fu_12 rfl rfl).trans ((bv_fr fu_8 rfl rfl).trans (bv_fr fu_1 rfl rfl))))))] at e; exact e)
  have hqv : bv u_43 153 = _ := (show bv u_43 153 = ((nv (S.2.1 oc) a) * (bv S 141) - ((nv (u_8.2.1 oc) b1) * (nv (u_12.2.1 oc) c1))) / (bv S 143) from bv_46)
  rw [show u_8.2.1 oc = S.2.1 oc from funext fun x => ((fu_8 oc (pB_no (tau_ne (dic_t hoc) (rfl : tau 149 = .inl 0) (fun h => by cases h)) (ac_ne (dic_c hoc) (rfl : acode 150 = 1) (by decide)))).2.1 x).trans ((fu_1 oc (pB_no (tau_ne (dic_t hoc) (rfl : tau 145 = .inl 0) (fun h => by cases h)) (ac_ne (dic_c hoc) (rfl : acode 146 = 1) (by decide)))).2.1 x)] at hqv
  rw [show u_12.2.1 oc = S.2.1 oc from funext fun x => ((fu_12 oc (pB_no (tau_ne (dic_t hoc) (rfl : tau 145 = .inl 0) (fun h => by cases h)) (ac_ne (dic_c hoc) (rfl : acode 146 = 1) (by decide)))).2.1 x).trans (((fu_8 oc (pB_no (tau_ne (dic_t hoc) (rfl : tau 149 = .inl 0) (fun h => by cases h)) (ac_ne (dic_c hoc) (rfl : acode 150 = 1) (by decide)))).2.1 x).trans ((fu_1 oc (pB_no (tau_ne (dic_t hoc) (rfl : tau 145 = .inl 0) (fun h => by cases h)) (ac_ne (dic_c hoc) (rfl : acode 146 = 1) (by decide)))).2.1 x))] at hqv
  have hqx : bv u_43 153 = ((nv (S.2.1 oc) a * bv S 141 - nv (S.2.1 oc) b1 * nv (S.2.1 oc) c1) / bv S 143) := hqv
  have hqb := bv_big iu_43 (o := 153) rfl (show Hd (bs u_43 153) from xu_43.2.2.2.2.2.2.2.1)
  refine lv_aload_n hx hb dX2_pivotGreat_97 rfl (lv_at hl 0 rfl) ?_
  refine g_X2_50 Cx hW (k := 135) (by decide) rfl (v := .ref (G.2.2.1 + 153)) (rf_135_11 iu_43) dX2_pivotGreat_98 ?_
  have q_48 : 0 ≤ u_43.1 153 1 ∧ u_43.1 153 1 ≤ 32 := iu_43.fi 153 1 0 (by decide) rfl
  refine g_X2_200 Cx hW (k := 153) (by decide) rfl (v := u_43.1 153 1) rfl dX2_pivotGreat_101 ?_
  refine lv_bipush (v := iv 6) hx hb dX2_pivotGreat_104 (by decide) ?_
  refine r_icmp_le (tgt := 111) hx hb ⟨(by omega), (by omega)⟩ ⟨(by omega), (by omega)⟩ dX2_pivotGreat_106 (by decide) (fun c_49 => ?_) (fun c_49 => ?_)
  · refine lv_aload_n hx hb dX2_pivotGreat_111 rfl (lv_at hl 0 rfl) ?_
    refine g_X2_50 Cx hW (k := 135) (by decide) rfl (v := .ref (G.2.2.1 + 153)) (rf_135_11 iu_43) dX2_pivotGreat_112 ?_
    refine lv_dup hx hb dX2_pivotGreat_115 rfl ?_
    have q_50 : (-1) ≤ u_43.1 153 2 ∧ u_43.1 153 2 ≤ 1 := iu_43.fi 153 2 0 (by decide) rfl
    refine g_X2_145 Cx hW (k := 153) (by decide) rfl (v := u_43.1 153 2) rfl dX2_pivotGreat_116 ?_
    refine lv_iload hx hb dX2_pivotGreat_119 (lv_at hl 4 rfl) ?_
    refine r_imul hx hb dX2_pivotGreat_121 ?_
    obtain ⟨sg, esg⟩ : ∃ z : Int, z = (u_43.1 153 2) * tn := ⟨_, rfl⟩
    refine r_i (b := sg) esg.symm ?_
    have hsg : -1 ≤ sg ∧ sg ≤ 1 := by rw [esg]; exact mul_s (by omega) (by omega)
    refine p_X2_145 Cx hW hL (k := 153) (by decide) rfl dX2_pivotGreat_122 (fun H locs hW hL => ?_)
    have F_51 : Fr S (uF u_43 153 2 sg) pZ := F_45.F rfl
    have i_52 : cX G (uF u_43 153 2 sg) 0 0 0 := iu_43.F rfl rfl (show (-1) ≤ sg ∧ sg ≤ 1 from ⟨by omega, by omega⟩)
    have hb3 : bv (uF u_43 153 2 sg) 153 = tn * ((nv (S.2.1 oc) a * bv S 141 - nv (S.2.1 oc) b1 * nv (S.2.1 oc) c1) / bv S 143) := by rw [bv_F2, ← hqx]; unfold bv; rw [esg, Int.mul_comm (u_43.1 153 2) tn, Int.mul_assoc]
    have hs3 : Hd (bs (uF u_43 153 2 sg) 153) := bs_F2 (show Hd (bs u_43 153) from xu_43.2.2.2.2.2.2.2.1) (by rw [esg]; refine ⟨fun q => ?_, fun q => by rw [q, Int.zero_mul]⟩; rcases (by omega : tn = 1 ∨ tn = -1) with z | z <;> rw [z] at q <;> omega)
    refine lv_aload_n hx hb dX2_pivotGreat_125 rfl (lv_at hl 0 rfl) ?_
    refine g_X2_50 Cx hW (k := 135) (by decide) rfl (v := .ref (G.2.2.1 + 153)) (rf_135_11 i_52) dX2_pivotGreat_126 ?_
    refine lv_aload_n hx hb dX2_pivotGreat_129 rfl (lv_at hl 0 rfl) ?_
    refine g_X2_17 Cx hW (k := 135) (by decide) rfl (v := .ref (G.2.2.1 + od)) (((uF_r).trans (((fu_43 135 rfl).2.2.2 1).trans (((fu_33 135 rfl).2.2.2 1).trans (((fu_23 135 rfl).2.2.2 1).trans (((fu_16 135 rfl).2.2.2 1).trans (((fu_12 135 rfl).2.2.2 1).trans (((fu_8 135 rfl).2.2.2 1).trans ((fu_1 135 rfl).2.2.2 1)))))))).trans hed) dX2_pivotGreat_130 ?_
    refine lv_iload_n hx hb dX2_pivotGreat_133 rfl (lv_at hl 1 rfl) ?_
    have lk_53 : (uF u_43 153 2 sg).1 153 1 = u_43.1 153 1 := uF_ne (fun h => absurd h.2 (by decide))
    have lk_54 : (uF u_43 153 2 sg).1 153 2 = sg := uF_on
    refine sBv (sV (As := [.ref (G.2.2.1 + od), .int (iv a)]) (rest := []) (k := 153) Cx (b_X0_save l G (uF u_43 153 2 sg) (o := 153) (k := od) (a := a) (N := 4816) i_52 rfl (dic_a hod) (by omega) (dicSv hod (by omega)) (fun _ q => by exfalso; omega)) (c_X2_154 Cx rfl rfl (rmk_ok (by omega) (by decide))) hW (by decide) rfl rfl rfl hl.1 rfl (Nat.le_of_ble_eq_true rfl) dX2_pivotGreat_134 ⟨Nat.le_of_ble_eq_true rfl, Nat.le_of_ble_eq_true rfl⟩) hL (fun u_55 H locs k_56 hW hL => ?_)
    obtain ⟨iu_55, fu_55, xu_55⟩ := k_56
    have F_57 := F_51.trans (fu_55.to (p1_sub (dic_z hod)))
    refine lv_iconst (v := iv 1) hx hb dX2_pivotGreat_137 (by decide) ?_
    exact sZret Cx hr hlk hW hL (by omega) ⟨iu_55, F_57, ⟨by omega, by omega, (fun _ => ⟨(xu_55.1 hs3).trans hb3, (fun y q => (xu_55.2 y q).trans ((uF_a).trans (((fu_43 od (pD_no (pB_no (tau_ne (dic_t hod) (rfl : tau 149 = .inl 0) (fun h => by cases h)) (ac_ne (dic_c hod) (rfl : acode 150 = 1) (by decide))) (pB_no (tau_ne (dic_t hod) (rfl : tau 153 = .inl 0) (fun h => by cases h)) (ac_ne (dic_c hod) (rfl : acode 154 = 1) (by decide))) (pB_no (tau_ne (dic_t hod) (rfl : tau 155 = .inl 0) (fun h => by cases h)) (ac_ne (dic_c hod) (rfl : acode 156 = 1) (by decide))))).2.1 y).trans (((fu_33 od (pB_no (tau_ne (dic_t hod) (rfl : tau 149 = .inl 0) (fun h => by cases h)) (ac_ne (dic_c hod) (rfl : acode 150 = 1) (by decide)))).2.1 y).trans (((fu_23 od (pB_no (tau_ne (dic_t hod) (rfl : tau 151 = .inl 0) (fun h => by cases h)) (ac_ne (dic_c hod) (rfl : acode 152 = 1) (by decide)))).2.1 y).trans (((fu_16 od (pB_no (tau_ne (dic_t hod) (rfl : tau 147 = .inl 0) (fun h => by cases h)) (ac_ne (dic_c hod) (rfl : acode 148 = 1) (by decide)))).2.1 y).trans (((fu_12 od (pB_no (tau_ne (dic_t hod) (rfl : tau 145 = .inl 0) (fun h => by cases h)) (ac_ne (dic_c hod) (rfl : acode 146 = 1) (by decide)))).2.1 y).trans (((fu_8 od (pB_no (tau_ne (dic_t hod) (rfl : tau 149 = .inl 0) (fun h => by cases h)) (ac_ne (dic_c hod) (rfl : acode 150 = 1) (by decide)))).2.1 y).trans ((fu_1 od (pB_no (tau_ne (dic_t hod) (rfl : tau 145 = .inl 0) (fun h => by cases h)) (ac_ne (dic_c hod) (rfl : acode 146 = 1) (by decide)))).2.1 y))))))))), by rw [← hqx]; exact hqb.2 (by omega)⟩), (fun q => absurd q (by omega)), (funext fun x => ((fu_55 oc (p1_no (neD hcd))).2.1 x).trans ((uF_a).trans (((fu_43 oc (pD_no (pB_no (tau_ne (dic_t hoc) (rfl : tau 149 = .inl 0) (fun h => by cases h)) (ac_ne (dic_c hoc) (rfl : acode 150 = 1) (by decide))) (pB_no (tau_ne (dic_t hoc) (rfl : tau 153 = .inl 0) (fun h => by cases h)) (ac_ne (dic_c hoc) (rfl : acode 154 = 1) (by decide))) (pB_no (tau_ne (dic_t hoc) (rfl : tau 155 = .inl 0) (fun h => by cases h)) (ac_ne (dic_c hoc) (rfl : acode 156 = 1) (by decide))))).2.1 x).trans (((fu_33 oc (pB_no (tau_ne (dic_t hoc) (rfl : tau 149 = .inl 0) (fun h => by cases h)) (ac_ne (dic_c hoc) (rfl : acode 150 = 1) (by decide)))).2.1 x).trans (((fu_23 oc (pB_no (tau_ne (dic_t hoc) (rfl : tau 151 = .inl 0) (fun h => by cases h)) (ac_ne (dic_c hoc) (rfl : acode 152 = 1) (by decide)))).2.1 x).trans (((fu_16 oc (pB_no (tau_ne (dic_t hoc) (rfl : tau 147 = .inl 0) (fun h => by cases h)) (ac_ne (dic_c hoc) (rfl : acode 148 = 1) (by decide)))).2.1 x).trans (((fu_12 oc (pB_no (tau_ne (dic_t hoc) (rfl : tau 145 = .inl 0) (fun h => by cases h)) (ac_ne (dic_c hoc) (rfl : acode 146 = 1) (by decide)))).2.1 x).trans (((fu_8 oc (pB_no (tau_ne (dic_t hoc) (rfl : tau 149 = .inl 0) (fun h => by cases h)) (ac_ne (dic_c hoc) (rfl : acode 150 = 1) (by decide)))).2.1 x).trans ((fu_1 oc (pB_no (tau_ne (dic_t hoc) (rfl : tau 145 = .inl 0) (fun h => by cases h)) (ac_ne (dic_c hoc) (rfl : acode 146 = 1) (by decide)))).2.1 x)))))))))⟩⟩ dX2_pivotGreat_138
  · refine lv_iconst (v := iv 0) hx hb dX2_pivotGreat_109 (by decide) ?_
    exact sZret Cx hr hlk hW hL (by omega) ⟨iu_43, F_45, ⟨by omega, by omega, (fun q => absurd q (by omega)), (fun _ => by rw [← hqx]; exact hqb.1 (by omega)), (funext fun x => ((fu_43 oc (pD_no (pB_no (tau_ne (dic_t hoc) (rfl : tau 149 = .inl 0) (fun h => by cases h)) (ac_ne (dic_c hoc) (rfl : acode 150 = 1) (by decide))) (pB_no (tau_ne (dic_t hoc) (rfl : tau 153 = .inl 0) (fun h => by cases h)) (ac_ne (dic_c hoc) (rfl : acode 154 = 1) (by decide))) (pB_no (tau_ne (dic_t hoc) (rfl : tau 155 = .inl 0) (fun h => by cases h)) (ac_ne (dic_c hoc) (rfl : acode 156 = 1) (by decide))))).2.1 x).trans (((fu_33 oc (pB_no (tau_ne (dic_t hoc) (rfl : tau 149 = .inl 0) (fun h => by cases h)) (ac_ne (dic_c hoc) (rfl : acode 150 = 1) (by decide)))).2.1 x).trans (((fu_23 oc (pB_no (tau_ne (dic_t hoc) (rfl : tau 151 = .inl 0) (fun h => by cases h)) (ac_ne (dic_c hoc) (rfl : acode 152 = 1) (by decide)))).2.1 x).trans (((fu_16 oc (pB_no (tau_ne (dic_t hoc) (rfl : tau 147 = .inl 0) (fun h => by cases h)) (ac_ne (dic_c hoc) (rfl : acode 148 = 1) (by decide)))).2.1 x).trans (((fu_12 oc (pB_no (tau_ne (dic_t hoc) (rfl : tau 145 = .inl 0) (fun h => by cases h)) (ac_ne (dic_c hoc) (rfl : acode 146 = 1) (by decide)))).2.1 x).trans (((fu_8 oc (pB_no (tau_ne (dic_t hoc) (rfl : tau 149 = .inl 0) (fun h => by cases h)) (ac_ne (dic_c hoc) (rfl : acode 150 = 1) (by decide)))).2.1 x).trans ((fu_1 oc (pB_no (tau_ne (dic_t hoc) (rfl : tau 145 = .inl 0) (fun h => by cases h)) (ac_ne (dic_c hoc) (rfl : acode 146 = 1) (by decide)))).2.1 x)))))))⟩⟩ dX2_pivotGreat_110

set_option maxRecDepth 100000 in
set_option maxHeartbeats 4000000 in
theorem v_X2_pivotRow (l : Launch) (G : sG) (S : sS) {oc od : Nat} {n hw : Int} {d : dT} {i tn rr ss : Int} (hI : cX G S 0 0 0) (hdq : dcs G S oc od) (hDR : Hd (DRc S oc n hw d)) (hi : -1 ≤ i ∧ i ≤ d.2.2.2.2.1) (hiw : i = -1 → hw = 1) (hir : i ≠ rr) (hDp : 0 < d.1) (hrr : S.1 135 17 = rr) (hss : S.1 135 18 = ss) (hrb : 1 ≤ rr ∧ rr ≤ d.2.2.2.2.1) (hsb : 1 ≤ ss ∧ ss ≤ d.2.2.2.2.2) (htn : tn = 1 ∨ tn = -1) (htg : tn = sgi (d.2.1 rr ss)) (hld : S.1 141 1 ≤ 6 ∧ S.1 143 1 ≤ 6) (h3p : 0 < S.1 143 2) (hb1 : Hd (bs S 141)) (hb3_ : Hd (bs S 143)) (hv1 : bv S 141 = d.2.1 rr ss) (hv3 : bv S 143 = d.1) (hex : Hd (∀ i j, -1 ≤ i → i ≤ d.2.2.2.2.1 → (i = -1 → hw = 1) → i ≠ rr → 0 ≤ j → j ≤ d.2.2.2.2.2 → d.1 * ((d.2.1 i j * d.2.1 rr ss - d.2.1 i ss * d.2.1 rr j) / d.1) = d.2.1 i j * d.2.1 rr ss - d.2.1 i ss * d.2.1 rr j)) : Met l yX2_pivotRow (.code yX2_pivotRow cX2_pivotRow 18 (some .boolean) :: tb) (rmk 6 0 0) (sPc G 294 S [.ref (G.2.2.1 + 135), .int (iv i), .int (iv tn)]) (sQi G 294 (fun r u => cX G u 0 0 0 ∧ Fr S u pZ ∧ (0 ≤ r ∧ r ≤ 1 ∧ Hd (r = 1 → (∀ b, 0 ≤ b → b ≤ d.2.2.2.2.2 → nv (u.2.1 od) ((i + 2) * 112 + b * 8) = pvT d rr ss i b ∧ (b ≠ ss → ¬ bgN (pvT d rr ss i b))) ∧ ∀ y, y < (i + 2) * 112 ∨ (i + 2) * 112 + 112 ≤ y → u.2.1 od y = S.2.1 od y) ∧ Hd (r = 0 → ∃ b, 0 ≤ b ∧ b ≤ d.2.2.2.2.2 ∧ b ≠ ss ∧ bgN (pvT d rr ss i b)) ∧ Hd (u.2.1 oc = S.2.1 oc)))) 0 0 (sF G) := by
  refine sEnter (by decide) (Nat.le_of_ble_eq_true rfl) ?_
  intro p e s m args below meth c Cx hr hlk hnm hW ls hl
  have Cx : sC G p m c cX2_pivotRow 18 s args RX2 := Cx
  obtain ⟨hx, hb, hml, hown, hts⟩ := id Cx.1
  have hL : sL G [] := sL_nil
  have hl : lv_has ls 18 [(0, .ref (G.2.2.1 + 135)), (1, .int (iv i)), (2, .int (iv tn))] := hl
  have hW0 := hW
  obtain ⟨hoc, hod, hcd, hec, hed⟩ := id hdq
  have hd13 := hDR.2.2.2.2.1; have hd14 := hDR.2.2.2.2.2.1; have hd15 := hDR.2.2.2.2.2.2.1; have hd16 := hDR.2.2.2.2.2.2.2; have hm40 : 0 ≤ S.1 135 14 ∧ S.1 135 14 ≤ 40 := hI.fi 135 14 2 (by decide) rfl; have hp13 : 0 ≤ S.1 135 15 ∧ S.1 135 15 ≤ 13 := hI.fi 135 15 2 (by decide) rfl
  refine lv_iload_n hx hb dX2_pivotRow_0 rfl (lv_at hl 1 rfl) ?_
  refine lv_iconst (v := iv 0) hx hb dX2_pivotRow_1 (by decide) ?_
  refine sBi (sSt (As := [.int (iv i), .int (iv 0)]) (rest := []) Cx (s_X2_at l G S (i := i) (j := 0) (by omega) (by omega)) (c_X2_77 Cx rfl rfl (rmk_ok (by omega) (by decide))) hW rfl hl.1 rfl (Nat.le_of_ble_eq_true rfl) dX2_pivotRow_2 ⟨Nat.le_of_ble_eq_true rfl, Nat.le_of_ble_eq_true rfl⟩) hL (fun r_3 u_1 H locs k_2 hW hL => ?_)
  obtain ⟨eu_1, xu_1⟩ := k_2
  rw [eu_1] at hW
  refine lv_istore_n (lv' := [(3, .int (iv r_3)), (0, .ref (G.2.2.1 + 135)), (1, .int (iv i)), (2, .int (iv tn))]) hx hb dX2_pivotRow_5 rfl hl (by decide) rfl (fun ls hl => ?_)
  refine lv_aload_n hx hb dX2_pivotRow_6 rfl (lv_at hl 1 rfl) ?_
  have q_4 : (-1) ≤ S.1 135 17 ∧ S.1 135 17 ≤ 40 := hI.fi 135 17 2 (by decide) rfl
  refine g_X2_147 Cx hW (k := 135) (by decide) rfl (v := S.1 135 17) rfl dX2_pivotRow_7 ?_
  refine lv_iconst (v := iv 0) hx hb dX2_pivotRow_10 (by decide) ?_
  refine sBi (sSt (As := [.int (iv (S.1 135 17)), .int (iv 0)]) (rest := []) Cx (s_X2_at l G S (i := S.1 135 17) (j := 0) (by omega) (by omega)) (c_X2_77 Cx rfl rfl (rmk_ok (by omega) (by decide))) hW rfl hl.1 rfl (Nat.le_of_ble_eq_true rfl) dX2_pivotRow_11 ⟨Nat.le_of_ble_eq_true rfl, Nat.le_of_ble_eq_true rfl⟩) hL (fun r_7 u_5 H locs k_6 hW hL => ?_)
  obtain ⟨eu_5, xu_5⟩ := k_6
  rw [eu_5] at hW
  refine lv_istore (lv' := [(4, .int (iv r_7)), (3, .int (iv r_3)), (0, .ref (G.2.2.1 + 135)), (1, .int (iv i)), (2, .int (iv tn))]) hx hb dX2_pivotRow_14 hl (by decide) rfl (fun ls hl => ?_)
  refine lv_aload_n hx hb dX2_pivotRow_16 rfl (lv_at hl 2 rfl) ?_
  have q_8 : (-1) ≤ S.1 135 18 ∧ S.1 135 18 ≤ 13 := hI.fi 135 18 2 (by decide) rfl
  refine g_X2_131 Cx hW (k := 135) (by decide) rfl (v := S.1 135 18) rfl dX2_pivotRow_17 ?_
  refine lv_bipush (v := iv 8) hx hb dX2_pivotRow_20 (by decide) ?_
  refine r_imul hx hb dX2_pivotRow_22 ?_
  refine lv_istore (lv' := [(5, .int (iv ((S.1 135 18) * 8))), (4, .int (iv r_7)), (3, .int (iv r_3)), (0, .ref (G.2.2.1 + 135)), (1, .int (iv i)), (2, .int (iv tn))]) hx hb dX2_pivotRow_23 hl (by decide) rfl (fun ls hl => ?_)
  refine lv_aload_n hx hb dX2_pivotRow_25 rfl (lv_at hl 3 rfl) ?_
  refine lv_bipush (v := iv (-2)) hx hb dX2_pivotRow_26 (by decide) ?_
  refine lv_iconst (v := iv 0) hx hb dX2_pivotRow_28 (by decide) ?_
  refine sBi (sSt (As := [.int (iv ((-2))), .int (iv 0)]) (rest := [.ref (G.2.2.1 + 135)]) Cx (s_X2_at l G S (i := (-2)) (j := 0) (by omega) (by omega)) (c_X2_77 Cx rfl rfl (rmk_ok (by omega) (by decide))) hW rfl hl.1 rfl (Nat.le_of_ble_eq_true rfl) dX2_pivotRow_29 ⟨Nat.le_of_ble_eq_true rfl, Nat.le_of_ble_eq_true rfl⟩) hL (fun r_11 u_9 H locs k_10 hW hL => ?_)
  obtain ⟨eu_9, xu_9⟩ := k_10
  rw [eu_9] at hW
  refine sBl (sV (As := [.int (iv r_11)]) (rest := []) (k := 135) Cx (v_X2_small l G S (a := r_11) (oc := oc) (od := od) hI ⟨hoc, hod, (neD hcd), hec, hed⟩ (by omega)) (c_X2_150 Cx rfl rfl (rmk_ok (by omega) (by decide))) hW (by decide) rfl rfl rfl hl.1 rfl (Nat.le_of_ble_eq_true rfl) dX2_pivotRow_32 ⟨Nat.le_of_ble_eq_true rfl, Nat.le_of_ble_eq_true rfl⟩) hL (fun by0 u_12 H locs k_13 hW hL => ?_)
  obtain ⟨eu_12, xu_12⟩ := k_13
  rw [eu_12] at hW
  have hbu_12 : -5999999994 ≤ by0 ∧ by0 ≤ 5999999994 := ⟨xu_12.1, xu_12.2.1⟩
  replace xu_12 : Hd _ := xu_12
  refine lv_lstore (lv' := [(6, .long (jv by0)), (5, .int (iv ((S.1 135 18) * 8))), (4, .int (iv r_7)), (3, .int (iv r_3)), (0, .ref (G.2.2.1 + 135)), (1, .int (iv i)), (2, .int (iv tn))]) hx hb dX2_pivotRow_35 hl (by decide) rfl (fun ls hl => ?_)
  refine lv_aload_n hx hb dX2_pivotRow_37 rfl (lv_at hl 4 rfl) ?_
  refine lv_iload hx hb dX2_pivotRow_38 (lv_at hl 2 rfl) ?_
  refine lv_iload hx hb dX2_pivotRow_40 (lv_at hl 1 rfl) ?_
  refine r_iadd hx hb dX2_pivotRow_42 ?_
  refine sBl (sV (As := [.int (iv (r_7 + ((S.1 135 18) * 8)))]) (rest := []) (k := 135) Cx (v_X2_small l G S (a := r_7 + ((S.1 135 18) * 8)) (oc := oc) (od := od) hI ⟨hoc, hod, (neD hcd), hec, hed⟩ (by omega)) (c_X2_150 Cx rfl rfl (rmk_ok (by omega) (by decide))) hW (by decide) rfl rfl rfl hl.1 rfl (Nat.le_of_ble_eq_true rfl) dX2_pivotRow_43 ⟨Nat.le_of_ble_eq_true rfl, Nat.le_of_ble_eq_true rfl⟩) hL (fun pv u_14 H locs k_15 hW hL => ?_)
  obtain ⟨eu_14, xu_14⟩ := k_15
  rw [eu_14] at hW
  have hbu_14 : -5999999994 ≤ pv ∧ pv ≤ 5999999994 := ⟨xu_14.1, xu_14.2.1⟩
  replace xu_14 : Hd _ := xu_14
  refine lv_lstore (lv' := [(8, .long (jv pv)), (6, .long (jv by0)), (5, .int (iv ((S.1 135 18) * 8))), (4, .int (iv r_7)), (3, .int (iv r_3)), (0, .ref (G.2.2.1 + 135)), (1, .int (iv i)), (2, .int (iv tn))]) hx hb dX2_pivotRow_46 hl (by decide) rfl (fun ls hl => ?_)
  refine lv_aload_n hx hb dX2_pivotRow_48 rfl (lv_at hl 5 rfl) ?_
  refine lv_iload_n hx hb dX2_pivotRow_49 rfl (lv_at hl 4 rfl) ?_
  refine lv_iload hx hb dX2_pivotRow_50 (lv_at hl 2 rfl) ?_
  refine r_iadd hx hb dX2_pivotRow_52 ?_
  refine sBl (sV (As := [.int (iv (r_3 + ((S.1 135 18) * 8)))]) (rest := []) (k := 135) Cx (v_X2_small l G S (a := r_3 + ((S.1 135 18) * 8)) (oc := oc) (od := od) hI ⟨hoc, hod, (neD hcd), hec, hed⟩ (by omega)) (c_X2_150 Cx rfl rfl (rmk_ok (by omega) (by decide))) hW (by decide) rfl rfl rfl hl.1 rfl (Nat.le_of_ble_eq_true rfl) dX2_pivotRow_53 ⟨Nat.le_of_ble_eq_true rfl, Nat.le_of_ble_eq_true rfl⟩) hL (fun tm u_16 H locs k_17 hW hL => ?_)
  obtain ⟨eu_16, xu_16⟩ := k_17
  rw [eu_16] at hW
  have hbu_16 : -5999999994 ≤ tm ∧ tm ≤ 5999999994 := ⟨xu_16.1, xu_16.2.1⟩
  replace xu_16 : Hd _ := xu_16
  refine lv_lstore (lv' := [(10, .long (jv tm)), (8, .long (jv pv)), (6, .long (jv by0)), (5, .int (iv ((S.1 135 18) * 8))), (4, .int (iv r_7)), (3, .int (iv r_3)), (0, .ref (G.2.2.1 + 135)), (1, .int (iv i)), (2, .int (iv tn))]) hx hb dX2_pivotRow_56 hl (by decide) rfl (fun ls hl => ?_)
  have join_106 : ∀ (sp : Int) (H : Heap) (locs : List Loc) (ls : Array Slot), (0 ≤ sp ∧ sp ≤ 1) → (sp = 1 → 1 ≤ by0 ∧ by0 ≤ 999999999 ∧ -999999999 ≤ pv ∧ pv ≤ 999999999 ∧ -999999999 ≤ tm ∧ tm ≤ 999999999) → (Hd (sp = 1 → by0 = d.1 ∧ pv = d.2.1 rr ss ∧ tm = d.2.1 i ss)) → sW G 294 S H → sL G locs → lv_has ls 18 [(10, .long (jv tm)), (8, .long (jv pv)), (6, .long (jv by0)), (5, .int (iv ((S.1 135 18) * 8))), (4, .int (iv r_7)), (3, .int (iv r_3)), (0, .ref (G.2.2.1 + 135)), (1, .int (iv i)), (2, .int (iv tn))] → W p l e (rmk 6 0 0) s m args below meth c H locs 0 0 (MQ below (sQi G 294 (fun r u => cX G u 0 0 0 ∧ Fr S u pZ ∧ (0 ≤ r ∧ r ≤ 1 ∧ Hd (r = 1 → (∀ b, 0 ≤ b → b ≤ d.2.2.2.2.2 → nv (u.2.1 od) ((i + 2) * 112 + b * 8) = pvT d rr ss i b ∧ (b ≠ ss → ¬ bgN (pvT d rr ss i b))) ∧ ∀ y, y < (i + 2) * 112 ∨ (i + 2) * 112 + 112 ≤ y → u.2.1 od y = S.2.1 od y) ∧ Hd (r = 0 → ∃ b, 0 ≤ b ∧ b ≤ d.2.2.2.2.2 ∧ b ≠ ss ∧ bgN (pvT d rr ss i b)) ∧ Hd (u.2.1 oc = S.2.1 oc)))) args s 0 0 (sF G)) (F0 m 106 ls [.int (iv sp)]) := by
    intro sp H locs ls hsp hs1 hs2 hW hL hl
    refine lv_istore (lv' := [(12, .int (iv sp)), (10, .long (jv tm)), (8, .long (jv pv)), (6, .long (jv by0)), (5, .int (iv ((S.1 135 18) * 8))), (4, .int (iv r_7)), (3, .int (iv r_3)), (0, .ref (G.2.2.1 + 135)), (1, .int (iv i)), (2, .int (iv tn))]) hx hb dX2_pivotRow_106 hl (by decide) rfl (fun ls hl => ?_)
    refine lv_iconst (v := iv 0) hx hb dX2_pivotRow_108 (by decide) ?_
    refine lv_istore (lv' := [(13, .int (iv 0)), (12, .int (iv sp)), (10, .long (jv tm)), (8, .long (jv pv)), (6, .long (jv by0)), (5, .int (iv ((S.1 135 18) * 8))), (4, .int (iv r_7)), (3, .int (iv r_3)), (0, .ref (G.2.2.1 + 135)), (1, .int (iv i)), (2, .int (iv tn))]) hx hb dX2_pivotRow_109 hl (by decide) rfl (fun ls hl => ?_)
    have loop_111 : ∀ (fuel : Nat) (S111 : sS) (j : Int) (H : Heap) (locs : List Loc) (ls : Array Slot), (14 - j).toNat < fuel → (cX G S111 0 0 0) → (Fr S S111 pZ) → (Fr S S111 pZ) → (0 ≤ j ∧ j ≤ d.2.2.2.2.2 + 1) → (Hd (∀ b, 0 ≤ b → b < j → nv (S111.2.1 od) ((i + 2) * 112 + b * 8) = pvT d rr ss i b ∧ (b ≠ ss → ¬ bgN (pvT d rr ss i b)))) → (Hd (∀ y, y < (i + 2) * 112 ∨ (i + 2) * 112 + j * 8 ≤ y → S111.2.1 od y = S.2.1 od y)) → (Hd (S111.2.1 oc = S.2.1 oc)) → sW G 294 S111 H → sL G locs → lv_has ls 18 [(13, .int (iv j)), (12, .int (iv sp)), (10, .long (jv tm)), (8, .long (jv pv)), (6, .long (jv by0)), (5, .int (iv ((S.1 135 18) * 8))), (4, .int (iv r_7)), (3, .int (iv r_3)), (0, .ref (G.2.2.1 + 135)), (1, .int (iv i)), (2, .int (iv tn))] → W p l e (rmk 6 0 0) s m args below meth c H locs 0 0 (MQ below (sQi G 294 (fun r u => cX G u 0 0 0 ∧ Fr S u pZ ∧ (0 ≤ r ∧ r ≤ 1 ∧ Hd (r = 1 → (∀ b, 0 ≤ b → b ≤ d.2.2.2.2.2 → nv (u.2.1 od) ((i + 2) * 112 + b * 8) = pvT d rr ss i b ∧ (b ≠ ss → ¬ bgN (pvT d rr ss i b))) ∧ ∀ y, y < (i + 2) * 112 ∨ (i + 2) * 112 + 112 ≤ y → u.2.1 od y = S.2.1 od y) ∧ Hd (r = 0 → ∃ b, 0 ≤ b ∧ b ≤ d.2.2.2.2.2 ∧ b ≠ ss ∧ bgN (pvT d rr ss i b)) ∧ Hd (u.2.1 oc = S.2.1 oc)))) args s 0 0 (sF G)) (F0 m 111 ls []) := by
      intro fuel
      induction fuel with
      | zero => intro S111 j H locs ls hmeas hI111 hFm111 hL111_ hj hrow hfar hocs hW hL hl; exact absurd hmeas (Nat.not_lt_zero _)
      | succ fuel ih_111 =>
        intro S111 j H locs ls hmeas hI111 hFm111 hL111_ hj hrow hfar hocs hW hL hl
        refine lv_iload hx hb dX2_pivotRow_111 (lv_at hl 0 rfl) ?_
        refine lv_aload_n hx hb dX2_pivotRow_113 rfl (lv_at hl 8 rfl) ?_
        have q_18 : 0 ≤ S.1 135 15 ∧ S.1 135 15 ≤ 13 := hI.fi 135 15 2 (by decide) rfl
        refine g_X2_67 Cx hW (k := 135) (by decide) rfl (v := S.1 135 15) ((hL111_ 135 rfl).1 15) dX2_pivotRow_114 ?_
        refine r_icmp_gt (tgt := 254) hx hb ⟨(by omega), (by omega)⟩ ⟨(by omega), (by omega)⟩ dX2_pivotRow_117 (by decide) (fun c_19 => ?_) (fun c_19 => ?_)
        · refine lv_iconst (v := iv 1) hx hb dX2_pivotRow_254 (by decide) ?_
          exact sZret Cx hr hlk hW hL (by omega) ⟨hI111, hFm111, ⟨by omega, by omega, (fun _ => ⟨(fun b b0 b1 => hrow b b0 (by omega)), (fun y q => hfar y (by omega))⟩), (fun q => absurd q (by omega)), hocs⟩⟩ dX2_pivotRow_255
        · refine lv_iload_n hx hb dX2_pivotRow_120 rfl (lv_at hl 7 rfl) ?_
          refine lv_iload hx hb dX2_pivotRow_121 (lv_at hl 0 rfl) ?_
          refine lv_bipush (v := iv 8) hx hb dX2_pivotRow_123 (by decide) ?_
          refine r_imul hx hb dX2_pivotRow_125 ?_
          refine r_iadd hx hb dX2_pivotRow_126 ?_
          refine lv_istore (lv' := [(14, .int (iv (r_3 + (j * 8)))), (13, .int (iv j)), (12, .int (iv sp)), (10, .long (jv tm)), (8, .long (jv pv)), (6, .long (jv by0)), (5, .int (iv ((S.1 135 18) * 8))), (4, .int (iv r_7)), (3, .int (iv r_3)), (0, .ref (G.2.2.1 + 135)), (1, .int (iv i)), (2, .int (iv tn))]) hx hb dX2_pivotRow_127 hl (by decide) rfl (fun ls hl => ?_)
          refine lv_iload hx hb dX2_pivotRow_129 (lv_at hl 7 rfl) ?_
          refine lv_iload hx hb dX2_pivotRow_131 (lv_at hl 1 rfl) ?_
          refine lv_bipush (v := iv 8) hx hb dX2_pivotRow_133 (by decide) ?_
          refine r_imul hx hb dX2_pivotRow_135 ?_
          refine r_iadd hx hb dX2_pivotRow_136 ?_
          refine lv_istore (lv' := [(15, .int (iv (r_7 + (j * 8)))), (14, .int (iv (r_3 + (j * 8)))), (13, .int (iv j)), (12, .int (iv sp)), (10, .long (jv tm)), (8, .long (jv pv)), (6, .long (jv by0)), (5, .int (iv ((S.1 135 18) * 8))), (4, .int (iv r_7)), (3, .int (iv r_3)), (0, .ref (G.2.2.1 + 135)), (1, .int (iv i)), (2, .int (iv tn))]) hx hb dX2_pivotRow_137 hl (by decide) rfl (fun ls hl => ?_)
          refine lv_iload hx hb dX2_pivotRow_139 (lv_at hl 2 rfl) ?_
          refine lv_aload_n hx hb dX2_pivotRow_141 rfl (lv_at hl 10 rfl) ?_
          refine g_X2_131 Cx hW (k := 135) (by decide) rfl (v := S.1 135 18) ((hL111_ 135 rfl).1 18) dX2_pivotRow_142 ?_
          refine r_icmp_ne (tgt := 166) hx hb ⟨(by omega), (by omega)⟩ ⟨(by omega), (by omega)⟩ dX2_pivotRow_145 (by decide) (fun c_20 => ?_) (fun c_20 => ?_)
          · refine lv_iload hx hb dX2_pivotRow_166 (lv_at hl 3 rfl) ?_
            refine r_if_eq (tgt := 230) hx hb ⟨(by omega), (by omega)⟩ dX2_pivotRow_168 (by decide) (fun c_21 => ?_) (fun c_21 => ?_)
            · refine lv_aload_n hx hb dX2_pivotRow_230 rfl (lv_at hl 10 rfl) ?_
              refine lv_iload hx hb dX2_pivotRow_231 (lv_at hl 1 rfl) ?_
              refine lv_iload_n hx hb dX2_pivotRow_233 rfl (lv_at hl 9 rfl) ?_
              refine lv_iload hx hb dX2_pivotRow_234 (lv_at hl 7 rfl) ?_
              refine r_iadd hx hb dX2_pivotRow_236 ?_
              refine lv_iload hx hb dX2_pivotRow_237 (lv_at hl 0 rfl) ?_
              refine lv_iload_n hx hb dX2_pivotRow_239 rfl (lv_at hl 12 rfl) ?_
              have q_22 : 0 ≤ S.1 141 1 ∧ S.1 141 1 ≤ 32 := hI.fi 141 1 0 (by decide) rfl
              have lk_23 : S111.1 141 1 = S.1 141 1 := (hL111_ 141 rfl).1 1
              have q_24 : 0 ≤ S.1 143 1 ∧ S.1 143 1 ≤ 32 := hI.fi 143 1 0 (by decide) rfl
              have lk_25 : S111.1 143 1 = S.1 143 1 := (hL111_ 143 rfl).1 1
              have q_26 : (-1) ≤ S.1 143 2 ∧ S.1 143 2 ≤ 1 := hI.fi 143 2 0 (by decide) rfl
              have lk_27 : S111.1 143 2 = S.1 143 2 := (hL111_ 143 rfl).1 2
              refine sBi (sV (As := [.int (iv (r_3 + (j * 8))), .int (iv (r_3 + ((S.1 135 18) * 8))), .int (iv (r_7 + (j * 8))), .int (iv tn)]) (rest := []) (k := 135) Cx (v_X2_pivotGreat l G S111 (a := r_3 + (j * 8)) (b1 := r_3 + ((S.1 135 18) * 8)) (c1 := r_7 + (j * 8)) (tn := tn) (oc := oc) (od := od) hI111 ⟨hoc, hod, (neD hcd), (((hL111_ 135 rfl).2.2.2 0).trans hec), (((hL111_ 135 rfl).2.2.2 1).trans hed)⟩ (by omega) (by omega) (by omega) (by omega) (by omega) (by omega) (by omega) (show Hd (bs S111 141) from (bs_fr hL111_ rfl hb1)) (show Hd (bs S111 143) from (bs_fr hL111_ rfl hb3_))) (c_X2_192 Cx rfl rfl (rmk_ok (by omega) (by decide))) hW (by decide) rfl rfl rfl hl.1 rfl (Nat.le_of_ble_eq_true rfl) dX2_pivotRow_240 ⟨Nat.le_of_ble_eq_true rfl, Nat.le_of_ble_eq_true rfl⟩) hL (fun r_30 u_28 H locs k_29 hW hL => ?_)
              obtain ⟨iu_28, fu_28, xu_28⟩ := k_29
              have F_31 := hFm111.trans fu_28
              have F_32 := hL111_.trans fu_28
              refine r_if_ne (tgt := 248) hx hb ⟨(by omega), (by omega)⟩ dX2_pivotRow_243 (by decide) (fun c_33 => ?_) (fun c_33 => ?_)
              · refine lv_iinc (v := iv (j + 1)) (lv' := [(13, .int (iv (j + 1))), (15, .int (iv (r_7 + (j * 8)))), (14, .int (iv (r_3 + (j * 8)))), (12, .int (iv sp)), (10, .long (jv tm)), (8, .long (jv pv)), (6, .long (jv by0)), (5, .int (iv ((S.1 135 18) * 8))), (4, .int (iv r_7)), (3, .int (iv r_3)), (0, .ref (G.2.2.1 + 135)), (1, .int (iv i)), (2, .int (iv tn))]) hx hb dX2_pivotRow_248 hl (k := 2) rfl ((Int32.ofInt_add _ _).symm) (by decide) rfl (fun ls hl => ?_)
                refine lv_goto (tgt := 111) hx hb dX2_pivotRow_251 (by decide) ?_
                exact ih_111 u_28 (j + 1) _ _ _ (by omega) iu_28 F_31 F_32 (by omega) (fun b b0 b1 => by by_cases q : b = j; (rw [q]; exact (by have y := xu_28.2.2.1 (by omega); rw [(show nv (S111.2.1 oc) (r_3 + (j * 8)) = d.2.1 i j by rw [hocs]; exact (show nv (S.2.1 oc) (r_3 + (j * 8)) = d.2.1 i j by rw [show r_3 + (j * 8) = (i + 2) * 112 + j * 8 by omega]; exact hDR.2.1 i j (by omega) (by omega) (by omega) (by omega) (by omega))), (show nv (S111.2.1 oc) (r_3 + ((S.1 135 18) * 8)) = d.2.1 i ss by rw [hocs]; exact (show nv (S.2.1 oc) (r_3 + ((S.1 135 18) * 8)) = d.2.1 i ss by rw [show r_3 + ((S.1 135 18) * 8) = (i + 2) * 112 + ss * 8 by omega]; exact hDR.2.1 i ss (by omega) (by omega) (by omega) (by omega) (by omega))), (show nv (S111.2.1 oc) (r_7 + (j * 8)) = d.2.1 rr j by rw [hocs]; exact (show nv (S.2.1 oc) (r_7 + (j * 8)) = d.2.1 rr j by rw [show r_7 + (j * 8) = (rr + 2) * 112 + j * 8 by omega]; exact hDR.2.1 rr j (by omega) (by omega) (by omega) (by omega) (by omega))), (show bv S111 141 = d.2.1 rr ss from (bv_fr hL111_ rfl rfl).trans (hv1)), (show bv S111 143 = d.1 from (bv_fr hL111_ rfl rfl).trans (hv3))] at y; rw [← show r_3 + (j * 8) = (i + 2) * 112 + j * 8 by omega, pvT_o (by omega) (by omega), ← htg]; exact ⟨y.1, fun _ q => y.2.2 ((bgN_sg htn).mp q)⟩)); (rw [nv_8 (f := S111.2.1 od) (hd7 hI111 hod _ (by omega) (by omega) (by omega)) (fun y y0 y1 => (xu_28.2.2.1 (by omega)).2.1 y (by omega))]; exact hrow b b0 (by omega))) (fun y q => ((xu_28.2.2.1 (by omega)).2.1 y (by omega)).trans (hfar y (by omega))) ((show _ = S111.2.1 oc from xu_28.2.2.2.2).trans hocs) hW hL (lv_sub hl [0, 3, 4, 5, 6, 7, 8, 9, 10, 11, 12] rfl)
              · refine lv_iconst (v := iv 0) hx hb dX2_pivotRow_246 (by decide) ?_
                exact sZret Cx hr hlk hW hL (by omega) ⟨iu_28, F_31, ⟨by omega, by omega, (fun q => absurd q (by omega)), (fun _ => ⟨j, by omega, by omega, by omega, by have y := xu_28.2.2.2.1 (by omega); rw [(show nv (S111.2.1 oc) (r_3 + (j * 8)) = d.2.1 i j by rw [hocs]; exact (show nv (S.2.1 oc) (r_3 + (j * 8)) = d.2.1 i j by rw [show r_3 + (j * 8) = (i + 2) * 112 + j * 8 by omega]; exact hDR.2.1 i j (by omega) (by omega) (by omega) (by omega) (by omega))), (show nv (S111.2.1 oc) (r_3 + ((S.1 135 18) * 8)) = d.2.1 i ss by rw [hocs]; exact (show nv (S.2.1 oc) (r_3 + ((S.1 135 18) * 8)) = d.2.1 i ss by rw [show r_3 + ((S.1 135 18) * 8) = (i + 2) * 112 + ss * 8 by omega]; exact hDR.2.1 i ss (by omega) (by omega) (by omega) (by omega) (by omega))), (show nv (S111.2.1 oc) (r_7 + (j * 8)) = d.2.1 rr j by rw [hocs]; exact (show nv (S.2.1 oc) (r_7 + (j * 8)) = d.2.1 rr j by rw [show r_7 + (j * 8) = (rr + 2) * 112 + j * 8 by omega]; exact hDR.2.1 rr j (by omega) (by omega) (by omega) (by omega) (by omega))), (show bv S111 141 = d.2.1 rr ss from (bv_fr hL111_ rfl rfl).trans (hv1)), (show bv S111 143 = d.1 from (bv_fr hL111_ rfl rfl).trans (hv3))] at y; rw [pvT_o (by omega) (by omega), ← htg]; exact (bgN_sg htn).mpr y⟩), ((show _ = S111.2.1 oc from xu_28.2.2.2.2).trans hocs)⟩⟩ dX2_pivotRow_247
            · refine lv_aload_n hx hb dX2_pivotRow_171 rfl (lv_at hl 10 rfl) ?_
              refine lv_iload hx hb dX2_pivotRow_172 (lv_at hl 1 rfl) ?_
              refine sBi (sV (As := [.int (iv (r_3 + (j * 8)))]) (rest := []) (k := 135) Cx (v_X2_isSmall l G S111 (a := r_3 + (j * 8)) (oc := oc) (od := od) hI111 ⟨hoc, hod, (neD hcd), (((hL111_ 135 rfl).2.2.2 0).trans hec), (((hL111_ 135 rfl).2.2.2 1).trans hed)⟩ (by omega)) (c_X2_167 Cx rfl rfl (rmk_ok (by omega) (by decide))) hW (by decide) rfl rfl rfl hl.1 rfl (Nat.le_of_ble_eq_true rfl) dX2_pivotRow_174 ⟨Nat.le_of_ble_eq_true rfl, Nat.le_of_ble_eq_true rfl⟩) hL (fun r_36 u_34 H locs k_35 hW hL => ?_)
              obtain ⟨eu_34, xu_34⟩ := k_35
              rw [eu_34] at hW
              refine r_if_eq (tgt := 230) hx hb ⟨(by omega), (by omega)⟩ dX2_pivotRow_177 (by decide) (fun c_37 => ?_) (fun c_37 => ?_)
              · refine lv_aload_n hx hb dX2_pivotRow_230 rfl (lv_at hl 10 rfl) ?_
                refine lv_iload hx hb dX2_pivotRow_231 (lv_at hl 1 rfl) ?_
                refine lv_iload_n hx hb dX2_pivotRow_233 rfl (lv_at hl 9 rfl) ?_
                refine lv_iload hx hb dX2_pivotRow_234 (lv_at hl 7 rfl) ?_
                refine r_iadd hx hb dX2_pivotRow_236 ?_
                refine lv_iload hx hb dX2_pivotRow_237 (lv_at hl 0 rfl) ?_
                refine lv_iload_n hx hb dX2_pivotRow_239 rfl (lv_at hl 12 rfl) ?_
                have q_38 : 0 ≤ S.1 141 1 ∧ S.1 141 1 ≤ 32 := hI.fi 141 1 0 (by decide) rfl
                have lk_39 : S111.1 141 1 = S.1 141 1 := (hL111_ 141 rfl).1 1
                have q_40 : 0 ≤ S.1 143 1 ∧ S.1 143 1 ≤ 32 := hI.fi 143 1 0 (by decide) rfl
                have lk_41 : S111.1 143 1 = S.1 143 1 := (hL111_ 143 rfl).1 1
                have q_42 : (-1) ≤ S.1 143 2 ∧ S.1 143 2 ≤ 1 := hI.fi 143 2 0 (by decide) rfl
                have lk_43 : S111.1 143 2 = S.1 143 2 := (hL111_ 143 rfl).1 2
                refine sBi (sV (As := [.int (iv (r_3 + (j * 8))), .int (iv (r_3 + ((S.1 135 18) * 8))), .int (iv (r_7 + (j * 8))), .int (iv tn)]) (rest := []) (k := 135) Cx (v_X2_pivotGreat l G S111 (a := r_3 + (j * 8)) (b1 := r_3 + ((S.1 135 18) * 8)) (c1 := r_7 + (j * 8)) (tn := tn) (oc := oc) (od := od) hI111 ⟨hoc, hod, (neD hcd), (((hL111_ 135 rfl).2.2.2 0).trans hec), (((hL111_ 135 rfl).2.2.2 1).trans hed)⟩ (by omega) (by omega) (by omega) (by omega) (by omega) (by omega) (by omega) (show Hd (bs S111 141) from (bs_fr hL111_ rfl hb1)) (show Hd (bs S111 143) from (bs_fr hL111_ rfl hb3_))) (c_X2_192 Cx rfl rfl (rmk_ok (by omega) (by decide))) hW (by decide) rfl rfl rfl hl.1 rfl (Nat.le_of_ble_eq_true rfl) dX2_pivotRow_240 ⟨Nat.le_of_ble_eq_true rfl, Nat.le_of_ble_eq_true rfl⟩) hL (fun r_46 u_44 H locs k_45 hW hL => ?_)
                obtain ⟨iu_44, fu_44, xu_44⟩ := k_45
                have F_47 := hFm111.trans fu_44
                have F_48 := hL111_.trans fu_44
                refine r_if_ne (tgt := 248) hx hb ⟨(by omega), (by omega)⟩ dX2_pivotRow_243 (by decide) (fun c_49 => ?_) (fun c_49 => ?_)
                · refine lv_iinc (v := iv (j + 1)) (lv' := [(13, .int (iv (j + 1))), (15, .int (iv (r_7 + (j * 8)))), (14, .int (iv (r_3 + (j * 8)))), (12, .int (iv sp)), (10, .long (jv tm)), (8, .long (jv pv)), (6, .long (jv by0)), (5, .int (iv ((S.1 135 18) * 8))), (4, .int (iv r_7)), (3, .int (iv r_3)), (0, .ref (G.2.2.1 + 135)), (1, .int (iv i)), (2, .int (iv tn))]) hx hb dX2_pivotRow_248 hl (k := 2) rfl ((Int32.ofInt_add _ _).symm) (by decide) rfl (fun ls hl => ?_)
                  refine lv_goto (tgt := 111) hx hb dX2_pivotRow_251 (by decide) ?_
                  exact ih_111 u_44 (j + 1) _ _ _ (by omega) iu_44 F_47 F_48 (by omega) (fun b b0 b1 => by by_cases q : b = j; (rw [q]; exact (by have y := xu_44.2.2.1 (by omega); rw [(show nv (S111.2.1 oc) (r_3 + (j * 8)) = d.2.1 i j by rw [hocs]; exact (show nv (S.2.1 oc) (r_3 + (j * 8)) = d.2.1 i j by rw [show r_3 + (j * 8) = (i + 2) * 112 + j * 8 by omega]; exact hDR.2.1 i j (by omega) (by omega) (by omega) (by omega) (by omega))), (show nv (S111.2.1 oc) (r_3 + ((S.1 135 18) * 8)) = d.2.1 i ss by rw [hocs]; exact (show nv (S.2.1 oc) (r_3 + ((S.1 135 18) * 8)) = d.2.1 i ss by rw [show r_3 + ((S.1 135 18) * 8) = (i + 2) * 112 + ss * 8 by omega]; exact hDR.2.1 i ss (by omega) (by omega) (by omega) (by omega) (by omega))), (show nv (S111.2.1 oc) (r_7 + (j * 8)) = d.2.1 rr j by rw [hocs]; exact (show nv (S.2.1 oc) (r_7 + (j * 8)) = d.2.1 rr j by rw [show r_7 + (j * 8) = (rr + 2) * 112 + j * 8 by omega]; exact hDR.2.1 rr j (by omega) (by omega) (by omega) (by omega) (by omega))), (show bv S111 141 = d.2.1 rr ss from (bv_fr hL111_ rfl rfl).trans (hv1)), (show bv S111 143 = d.1 from (bv_fr hL111_ rfl rfl).trans (hv3))] at y; rw [← show r_3 + (j * 8) = (i + 2) * 112 + j * 8 by omega, pvT_o (by omega) (by omega), ← htg]; exact ⟨y.1, fun _ q => y.2.2 ((bgN_sg htn).mp q)⟩)); (rw [nv_8 (f := S111.2.1 od) (hd7 hI111 hod _ (by omega) (by omega) (by omega)) (fun y y0 y1 => (xu_44.2.2.1 (by omega)).2.1 y (by omega))]; exact hrow b b0 (by omega))) (fun y q => ((xu_44.2.2.1 (by omega)).2.1 y (by omega)).trans (hfar y (by omega))) ((show _ = S111.2.1 oc from xu_44.2.2.2.2).trans hocs) hW hL (lv_sub hl [0, 3, 4, 5, 6, 7, 8, 9, 10, 11, 12] rfl)
                · refine lv_iconst (v := iv 0) hx hb dX2_pivotRow_246 (by decide) ?_
                  exact sZret Cx hr hlk hW hL (by omega) ⟨iu_44, F_47, ⟨by omega, by omega, (fun q => absurd q (by omega)), (fun _ => ⟨j, by omega, by omega, by omega, by have y := xu_44.2.2.2.1 (by omega); rw [(show nv (S111.2.1 oc) (r_3 + (j * 8)) = d.2.1 i j by rw [hocs]; exact (show nv (S.2.1 oc) (r_3 + (j * 8)) = d.2.1 i j by rw [show r_3 + (j * 8) = (i + 2) * 112 + j * 8 by omega]; exact hDR.2.1 i j (by omega) (by omega) (by omega) (by omega) (by omega))), (show nv (S111.2.1 oc) (r_3 + ((S.1 135 18) * 8)) = d.2.1 i ss by rw [hocs]; exact (show nv (S.2.1 oc) (r_3 + ((S.1 135 18) * 8)) = d.2.1 i ss by rw [show r_3 + ((S.1 135 18) * 8) = (i + 2) * 112 + ss * 8 by omega]; exact hDR.2.1 i ss (by omega) (by omega) (by omega) (by omega) (by omega))), (show nv (S111.2.1 oc) (r_7 + (j * 8)) = d.2.1 rr j by rw [hocs]; exact (show nv (S.2.1 oc) (r_7 + (j * 8)) = d.2.1 rr j by rw [show r_7 + (j * 8) = (rr + 2) * 112 + j * 8 by omega]; exact hDR.2.1 rr j (by omega) (by omega) (by omega) (by omega) (by omega))), (show bv S111 141 = d.2.1 rr ss from (bv_fr hL111_ rfl rfl).trans (hv1)), (show bv S111 143 = d.1 from (bv_fr hL111_ rfl rfl).trans (hv3))] at y; rw [pvT_o (by omega) (by omega), ← htg]; exact (bgN_sg htn).mpr y⟩), ((show _ = S111.2.1 oc from xu_44.2.2.2.2).trans hocs)⟩⟩ dX2_pivotRow_247
              · refine lv_aload_n hx hb dX2_pivotRow_180 rfl (lv_at hl 10 rfl) ?_
                refine lv_iload hx hb dX2_pivotRow_181 (lv_at hl 0 rfl) ?_
                refine sBi (sV (As := [.int (iv (r_7 + (j * 8)))]) (rest := []) (k := 135) Cx (v_X2_isSmall l G S111 (a := r_7 + (j * 8)) (oc := oc) (od := od) hI111 ⟨hoc, hod, (neD hcd), (((hL111_ 135 rfl).2.2.2 0).trans hec), (((hL111_ 135 rfl).2.2.2 1).trans hed)⟩ (by omega)) (c_X2_167 Cx rfl rfl (rmk_ok (by omega) (by decide))) hW (by decide) rfl rfl rfl hl.1 rfl (Nat.le_of_ble_eq_true rfl) dX2_pivotRow_183 ⟨Nat.le_of_ble_eq_true rfl, Nat.le_of_ble_eq_true rfl⟩) hL (fun r_52 u_50 H locs k_51 hW hL => ?_)
                obtain ⟨eu_50, xu_50⟩ := k_51
                rw [eu_50] at hW
                refine r_if_eq (tgt := 230) hx hb ⟨(by omega), (by omega)⟩ dX2_pivotRow_186 (by decide) (fun c_53 => ?_) (fun c_53 => ?_)
                · refine lv_aload_n hx hb dX2_pivotRow_230 rfl (lv_at hl 10 rfl) ?_
                  refine lv_iload hx hb dX2_pivotRow_231 (lv_at hl 1 rfl) ?_
                  refine lv_iload_n hx hb dX2_pivotRow_233 rfl (lv_at hl 9 rfl) ?_
                  refine lv_iload hx hb dX2_pivotRow_234 (lv_at hl 7 rfl) ?_
                  refine r_iadd hx hb dX2_pivotRow_236 ?_
                  refine lv_iload hx hb dX2_pivotRow_237 (lv_at hl 0 rfl) ?_
                  refine lv_iload_n hx hb dX2_pivotRow_239 rfl (lv_at hl 12 rfl) ?_
                  have q_54 : 0 ≤ S.1 141 1 ∧ S.1 141 1 ≤ 32 := hI.fi 141 1 0 (by decide) rfl
                  have lk_55 : S111.1 141 1 = S.1 141 1 := (hL111_ 141 rfl).1 1
                  have q_56 : 0 ≤ S.1 143 1 ∧ S.1 143 1 ≤ 32 := hI.fi 143 1 0 (by decide) rfl
                  have lk_57 : S111.1 143 1 = S.1 143 1 := (hL111_ 143 rfl).1 1
                  have q_58 : (-1) ≤ S.1 143 2 ∧ S.1 143 2 ≤ 1 := hI.fi 143 2 0 (by decide) rfl
                  have lk_59 : S111.1 143 2 = S.1 143 2 := (hL111_ 143 rfl).1 2
                  refine sBi (sV (As := [.int (iv (r_3 + (j * 8))), .int (iv (r_3 + ((S.1 135 18) * 8))), .int (iv (r_7 + (j * 8))), .int (iv tn)]) (rest := []) (k := 135) Cx (v_X2_pivotGreat l G S111 (a := r_3 + (j * 8)) (b1 := r_3 + ((S.1 135 18) * 8)) (c1 := r_7 + (j * 8)) (tn := tn) (oc := oc) (od := od) hI111 ⟨hoc, hod, (neD hcd), (((hL111_ 135 rfl).2.2.2 0).trans hec), (((hL111_ 135 rfl).2.2.2 1).trans hed)⟩ (by omega) (by omega) (by omega) (by omega) (by omega) (by omega) (by omega) (show Hd (bs S111 141) from (bs_fr hL111_ rfl hb1)) (show Hd (bs S111 143) from (bs_fr hL111_ rfl hb3_))) (c_X2_192 Cx rfl rfl (rmk_ok (by omega) (by decide))) hW (by decide) rfl rfl rfl hl.1 rfl (Nat.le_of_ble_eq_true rfl) dX2_pivotRow_240 ⟨Nat.le_of_ble_eq_true rfl, Nat.le_of_ble_eq_true rfl⟩) hL (fun r_62 u_60 H locs k_61 hW hL => ?_)
                  obtain ⟨iu_60, fu_60, xu_60⟩ := k_61
                  have F_63 := hFm111.trans fu_60
                  have F_64 := hL111_.trans fu_60
                  refine r_if_ne (tgt := 248) hx hb ⟨(by omega), (by omega)⟩ dX2_pivotRow_243 (by decide) (fun c_65 => ?_) (fun c_65 => ?_)
                  · refine lv_iinc (v := iv (j + 1)) (lv' := [(13, .int (iv (j + 1))), (15, .int (iv (r_7 + (j * 8)))), (14, .int (iv (r_3 + (j * 8)))), (12, .int (iv sp)), (10, .long (jv tm)), (8, .long (jv pv)), (6, .long (jv by0)), (5, .int (iv ((S.1 135 18) * 8))), (4, .int (iv r_7)), (3, .int (iv r_3)), (0, .ref (G.2.2.1 + 135)), (1, .int (iv i)), (2, .int (iv tn))]) hx hb dX2_pivotRow_248 hl (k := 2) rfl ((Int32.ofInt_add _ _).symm) (by decide) rfl (fun ls hl => ?_)
                    refine lv_goto (tgt := 111) hx hb dX2_pivotRow_251 (by decide) ?_
                    exact ih_111 u_60 (j + 1) _ _ _ (by omega) iu_60 F_63 F_64 (by omega) (fun b b0 b1 => by by_cases q : b = j; (rw [q]; exact (by have y := xu_60.2.2.1 (by omega); rw [(show nv (S111.2.1 oc) (r_3 + (j * 8)) = d.2.1 i j by rw [hocs]; exact (show nv (S.2.1 oc) (r_3 + (j * 8)) = d.2.1 i j by rw [show r_3 + (j * 8) = (i + 2) * 112 + j * 8 by omega]; exact hDR.2.1 i j (by omega) (by omega) (by omega) (by omega) (by omega))), (show nv (S111.2.1 oc) (r_3 + ((S.1 135 18) * 8)) = d.2.1 i ss by rw [hocs]; exact (show nv (S.2.1 oc) (r_3 + ((S.1 135 18) * 8)) = d.2.1 i ss by rw [show r_3 + ((S.1 135 18) * 8) = (i + 2) * 112 + ss * 8 by omega]; exact hDR.2.1 i ss (by omega) (by omega) (by omega) (by omega) (by omega))), (show nv (S111.2.1 oc) (r_7 + (j * 8)) = d.2.1 rr j by rw [hocs]; exact (show nv (S.2.1 oc) (r_7 + (j * 8)) = d.2.1 rr j by rw [show r_7 + (j * 8) = (rr + 2) * 112 + j * 8 by omega]; exact hDR.2.1 rr j (by omega) (by omega) (by omega) (by omega) (by omega))), (show bv S111 141 = d.2.1 rr ss from (bv_fr hL111_ rfl rfl).trans (hv1)), (show bv S111 143 = d.1 from (bv_fr hL111_ rfl rfl).trans (hv3))] at y; rw [← show r_3 + (j * 8) = (i + 2) * 112 + j * 8 by omega, pvT_o (by omega) (by omega), ← htg]; exact ⟨y.1, fun _ q => y.2.2 ((bgN_sg htn).mp q)⟩)); (rw [nv_8 (f := S111.2.1 od) (hd7 hI111 hod _ (by omega) (by omega) (by omega)) (fun y y0 y1 => (xu_60.2.2.1 (by omega)).2.1 y (by omega))]; exact hrow b b0 (by omega))) (fun y q => ((xu_60.2.2.1 (by omega)).2.1 y (by omega)).trans (hfar y (by omega))) ((show _ = S111.2.1 oc from xu_60.2.2.2.2).trans hocs) hW hL (lv_sub hl [0, 3, 4, 5, 6, 7, 8, 9, 10, 11, 12] rfl)
                  · refine lv_iconst (v := iv 0) hx hb dX2_pivotRow_246 (by decide) ?_
                    exact sZret Cx hr hlk hW hL (by omega) ⟨iu_60, F_63, ⟨by omega, by omega, (fun q => absurd q (by omega)), (fun _ => ⟨j, by omega, by omega, by omega, by have y := xu_60.2.2.2.1 (by omega); rw [(show nv (S111.2.1 oc) (r_3 + (j * 8)) = d.2.1 i j by rw [hocs]; exact (show nv (S.2.1 oc) (r_3 + (j * 8)) = d.2.1 i j by rw [show r_3 + (j * 8) = (i + 2) * 112 + j * 8 by omega]; exact hDR.2.1 i j (by omega) (by omega) (by omega) (by omega) (by omega))), (show nv (S111.2.1 oc) (r_3 + ((S.1 135 18) * 8)) = d.2.1 i ss by rw [hocs]; exact (show nv (S.2.1 oc) (r_3 + ((S.1 135 18) * 8)) = d.2.1 i ss by rw [show r_3 + ((S.1 135 18) * 8) = (i + 2) * 112 + ss * 8 by omega]; exact hDR.2.1 i ss (by omega) (by omega) (by omega) (by omega) (by omega))), (show nv (S111.2.1 oc) (r_7 + (j * 8)) = d.2.1 rr j by rw [hocs]; exact (show nv (S.2.1 oc) (r_7 + (j * 8)) = d.2.1 rr j by rw [show r_7 + (j * 8) = (rr + 2) * 112 + j * 8 by omega]; exact hDR.2.1 rr j (by omega) (by omega) (by omega) (by omega) (by omega))), (show bv S111 141 = d.2.1 rr ss from (bv_fr hL111_ rfl rfl).trans (hv1)), (show bv S111 143 = d.1 from (bv_fr hL111_ rfl rfl).trans (hv3))] at y; rw [pvT_o (by omega) (by omega), ← htg]; exact (bgN_sg htn).mpr y⟩), ((show _ = S111.2.1 oc from xu_60.2.2.2.2).trans hocs)⟩⟩ dX2_pivotRow_247
                · refine lv_aload_n hx hb dX2_pivotRow_189 rfl (lv_at hl 10 rfl) ?_
                  refine lv_iload hx hb dX2_pivotRow_190 (lv_at hl 1 rfl) ?_
                  refine sBl (sV (As := [.int (iv (r_3 + (j * 8)))]) (rest := []) (k := 135) Cx (v_X2_small l G S111 (a := r_3 + (j * 8)) (oc := oc) (od := od) hI111 ⟨hoc, hod, (neD hcd), (((hL111_ 135 rfl).2.2.2 0).trans hec), (((hL111_ 135 rfl).2.2.2 1).trans hed)⟩ (by omega)) (c_X2_150 Cx rfl rfl (rmk_ok (by omega) (by decide))) hW (by decide) rfl rfl rfl hl.1 rfl (Nat.le_of_ble_eq_true rfl) dX2_pivotRow_192 ⟨Nat.le_of_ble_eq_true rfl, Nat.le_of_ble_eq_true rfl⟩) hL (fun r_68 u_66 H locs k_67 hW hL => ?_)
                  obtain ⟨eu_66, xu_66⟩ := k_67
                  rw [eu_66] at hW
                  replace xu_66 := And.intro (xu_66.2.2.1 (by omega) (by omega)) (xu_66.2.2.2 (by omega) (by omega))
                  refine lv_lload hx hb dX2_pivotRow_195 (lv_at hl 5 rfl) ?_
                  refine r_lmul hx hb dX2_pivotRow_197 ?_
                  obtain ⟨p1, ep1⟩ : ∃ z : Int, z = r_68 * pv := ⟨_, rfl⟩
                  refine r_j (b := p1) ep1.symm ?_
                  have hp1 : -(999999999 * 999999999) ≤ p1 ∧ p1 ≤ 999999999 * 999999999 := by rw [ep1]; exact mulB (by omega) (by omega)
                  refine lv_lload hx hb dX2_pivotRow_198 (lv_at hl 4 rfl) ?_
                  refine lv_aload_n hx hb dX2_pivotRow_200 rfl (lv_at hl 10 rfl) ?_
                  refine lv_iload hx hb dX2_pivotRow_201 (lv_at hl 0 rfl) ?_
                  refine sBl (sV (As := [.int (iv (r_7 + (j * 8)))]) (rest := [.long (jv tm), .long (jv p1)]) (k := 135) Cx (v_X2_small l G S111 (a := r_7 + (j * 8)) (oc := oc) (od := od) hI111 ⟨hoc, hod, (neD hcd), (((hL111_ 135 rfl).2.2.2 0).trans hec), (((hL111_ 135 rfl).2.2.2 1).trans hed)⟩ (by omega)) (c_X2_150 Cx rfl rfl (rmk_ok (by omega) (by decide))) hW (by decide) rfl rfl rfl hl.1 rfl (Nat.le_of_ble_eq_true rfl) dX2_pivotRow_203 ⟨Nat.le_of_ble_eq_true rfl, Nat.le_of_ble_eq_true rfl⟩) hL (fun r_71 u_69 H locs k_70 hW hL => ?_)
                  obtain ⟨eu_69, xu_69⟩ := k_70
                  rw [eu_69] at hW
                  replace xu_69 := And.intro (xu_69.2.2.1 (by omega) (by omega)) (xu_69.2.2.2 (by omega) (by omega))
                  refine r_lmul hx hb dX2_pivotRow_206 ?_
                  obtain ⟨p2, ep2⟩ : ∃ z : Int, z = tm * r_71 := ⟨_, rfl⟩
                  refine r_j (b := p2) ep2.symm ?_
                  have hp2 : -(999999999 * 999999999) ≤ p2 ∧ p2 ≤ 999999999 * 999999999 := by rw [ep2]; exact mulB (by omega) (by omega)
                  refine r_lsub hx hb dX2_pivotRow_207 ?_
                  refine lv_lstore (lv' := [(16, .long (jv (p1 - p2))), (15, .int (iv (r_7 + (j * 8)))), (14, .int (iv (r_3 + (j * 8)))), (13, .int (iv j)), (12, .int (iv sp)), (10, .long (jv tm)), (8, .long (jv pv)), (6, .long (jv by0)), (5, .int (iv ((S.1 135 18) * 8))), (4, .int (iv r_7)), (3, .int (iv r_3)), (0, .ref (G.2.2.1 + 135)), (1, .int (iv i)), (2, .int (iv tn))]) hx hb dX2_pivotRow_208 hl (by decide) rfl (fun ls hl => ?_)
                  refine lv_aload_n hx hb dX2_pivotRow_210 rfl (lv_at hl 11 rfl) ?_
                  refine g_X2_17 Cx hW (k := 135) (by decide) rfl (v := .ref (G.2.2.1 + od)) (((hL111_ 135 rfl).2.2.2 1).trans hed) dX2_pivotRow_211 ?_
                  refine lv_iload hx hb dX2_pivotRow_214 (lv_at hl 2 rfl) ?_
                  refine lv_iload_n hx hb dX2_pivotRow_216 rfl (lv_at hl 13 rfl) ?_
                  refine r_i2l hx hb ⟨(by omega), (by omega)⟩ dX2_pivotRow_217 ?_
                  refine lv_lload hx hb dX2_pivotRow_218 (lv_at hl 0 rfl) ?_
                  refine lv_lload hx hb dX2_pivotRow_220 (lv_at hl 7 rfl) ?_
                  refine r_ldiv hx hb ⟨(by omega), (by omega)⟩ ⟨(by omega), (by omega)⟩ (by omega) dX2_pivotRow_222 ?_
                  obtain ⟨dv, edv⟩ : ∃ z : Int, z = (p1 - p2).tdiv by0 := ⟨_, rfl⟩
                  have hdv := tdivB (a := p1 - p2) (b := by0) (by omega)
                  rw [← edv] at hdv
                  refine r_j (b := dv) edv.symm ?_
                  refine r_lmul hx hb dX2_pivotRow_223 ?_
                  obtain ⟨p3, ep3⟩ : ∃ z : Int, z = tn * dv := ⟨_, rfl⟩
                  refine r_j (b := p3) ep3.symm ?_
                  have hp3 : -2000000000000000000 ≤ p3 ∧ p3 ≤ 2000000000000000000 := by rw [ep3]; exact mulT (by omega) (by omega)
                  refine sBv (sSt (As := [.ref (G.2.2.1 + od), .int (iv (r_3 + (j * 8))), .long (jv p3)]) (rest := []) Cx (b_X0_store l G S111 (k := od) (a := r_3 + (j * 8)) (v := p3) (N := 4816) hI111 (dic_a hod) (by omega) (by omega) (fun _ q => by exfalso; omega)) (c_X2_81 Cx rfl rfl (rmk_ok (by omega) (by decide))) hW rfl hl.1 rfl (Nat.le_of_ble_eq_true rfl) dX2_pivotRow_224 ⟨Nat.le_of_ble_eq_true rfl, Nat.le_of_ble_eq_true rfl⟩) hL (fun u_72 H locs k_73 hW hL => ?_)
                  obtain ⟨iu_72, fu_72, xu_72⟩ := k_73
                  have F_74 := hFm111.trans (fu_72.to (p1_sub (dic_z hod)))
                  have F_75 := hL111_.trans (fu_72.to (p1_sub (dic_z hod)))
                  refine lv_goto (tgt := 248) hx hb dX2_pivotRow_227 (by decide) ?_
                  refine lv_iinc (v := iv (j + 1)) (lv' := [(13, .int (iv (j + 1))), (16, .long (jv (p1 - p2))), (15, .int (iv (r_7 + (j * 8)))), (14, .int (iv (r_3 + (j * 8)))), (12, .int (iv sp)), (10, .long (jv tm)), (8, .long (jv pv)), (6, .long (jv by0)), (5, .int (iv ((S.1 135 18) * 8))), (4, .int (iv r_7)), (3, .int (iv r_3)), (0, .ref (G.2.2.1 + 135)), (1, .int (iv i)), (2, .int (iv tn))]) hx hb dX2_pivotRow_248 hl (k := 3) rfl ((Int32.ofInt_add _ _).symm) (by decide) rfl (fun ls hl => ?_)
                  refine lv_goto (tgt := 111) hx hb dX2_pivotRow_251 (by decide) ?_
                  exact ih_111 u_72 (j + 1) _ _ _ (by omega) iu_72 F_74 F_75 (by omega) (fun b b0 b1 => by by_cases q : b = j; (rw [q]; exact (by have s2 := hs2 (by omega); have ex := hex i j (by omega) (by omega) (by omega) (by omega) (by omega) (by omega); have n1 : r_68 = d.2.1 i j := (xu_66.2).trans (show nv (S111.2.1 oc) (r_3 + (j * 8)) = d.2.1 i j by rw [hocs]; exact (show nv (S.2.1 oc) (r_3 + (j * 8)) = d.2.1 i j by rw [show r_3 + (j * 8) = (i + 2) * 112 + j * 8 by omega]; exact hDR.2.1 i j (by omega) (by omega) (by omega) (by omega) (by omega))); have n2 : r_71 = d.2.1 rr j := (xu_69.2).trans (show nv (S111.2.1 oc) (r_7 + (j * 8)) = d.2.1 rr j by rw [hocs]; exact (show nv (S.2.1 oc) (r_7 + (j * 8)) = d.2.1 rr j by rw [show r_7 + (j * 8) = (rr + 2) * 112 + j * 8 by omega]; exact hDR.2.1 rr j (by omega) (by omega) (by omega) (by omega) (by omega))); have nq : dv = (d.2.1 i j * d.2.1 rr ss - d.2.1 i ss * d.2.1 rr j) / d.1 := (by rw [edv]; refine tdx (by omega) ?_; rw [ep1, ep2, n1, n2, s2.1, s2.2.1, s2.2.2]; exact ex); rw [← show r_3 + (j * 8) = (i + 2) * 112 + j * 8 by omega, pvT_o (by omega) (by omega), ← htg, ← nq]; refine ⟨(show nv _ _ = _ from xu_72.1).trans ep3, fun _ => ?_⟩; rw [← ep3]; exact bgN_no (by omega))); (rw [nv_8 (f := S111.2.1 od) (hd7 hI111 hod _ (by omega) (by omega) (by omega)) (fun y y0 y1 => xu_72.2 y (by omega))]; exact hrow b b0 (by omega))) (fun y q => (xu_72.2 y (by omega)).trans (hfar y (by omega))) ((show u_72.2.1 oc = S111.2.1 oc from funext fun x => (fu_72 oc (p1_no (neD hcd))).2.1 x).trans hocs) hW hL (lv_sub hl [0, 4, 5, 6, 7, 8, 9, 10, 11, 12, 13] rfl)
          · refine lv_aload_n hx hb dX2_pivotRow_148 rfl (lv_at hl 10 rfl) ?_
            refine g_X2_13 Cx hW (k := 135) (by decide) rfl (v := .ref (G.2.2.1 + oc)) (((hL111_ 135 rfl).2.2.2 0).trans hec) dX2_pivotRow_149 ?_
            refine lv_aload_n hx hb dX2_pivotRow_152 rfl (lv_at hl 10 rfl) ?_
            refine g_X2_17 Cx hW (k := 135) (by decide) rfl (v := .ref (G.2.2.1 + od)) (((hL111_ 135 rfl).2.2.2 1).trans hed) dX2_pivotRow_153 ?_
            refine lv_iload hx hb dX2_pivotRow_156 (lv_at hl 1 rfl) ?_
            refine lv_iload_n hx hb dX2_pivotRow_158 rfl (lv_at hl 12 rfl) ?_
            refine r_ineg hx hb dX2_pivotRow_159 ?_
            refine sBv (sSt (As := [.ref (G.2.2.1 + oc), .ref (G.2.2.1 + od), .int (iv (r_3 + (j * 8))), .int (iv (-tn))]) (rest := []) Cx (v_X0_move l G S111 (kf := oc) (kt := od) (a := r_3 + (j * 8)) (tn := -tn) hI111 hoc hod (neD hcd) (by omega) (by omega)) (c_X2_188 Cx rfl rfl (rmk_ok (by omega) (by decide))) hW rfl hl.1 rfl (Nat.le_of_ble_eq_true rfl) dX2_pivotRow_160 ⟨Nat.le_of_ble_eq_true rfl, Nat.le_of_ble_eq_true rfl⟩) hL (fun u_76 H locs k_77 hW hL => ?_)
            obtain ⟨iu_76, fu_76, xu_76⟩ := k_77
            have F_78 := hFm111.trans (fu_76.to (p1_sub (dic_z hod)))
            have F_79 := hL111_.trans (fu_76.to (p1_sub (dic_z hod)))
            refine lv_goto (tgt := 248) hx hb dX2_pivotRow_163 (by decide) ?_
            refine lv_iinc (v := iv (j + 1)) (lv' := [(13, .int (iv (j + 1))), (15, .int (iv (r_7 + (j * 8)))), (14, .int (iv (r_3 + (j * 8)))), (12, .int (iv sp)), (10, .long (jv tm)), (8, .long (jv pv)), (6, .long (jv by0)), (5, .int (iv ((S.1 135 18) * 8))), (4, .int (iv r_7)), (3, .int (iv r_3)), (0, .ref (G.2.2.1 + 135)), (1, .int (iv i)), (2, .int (iv tn))]) hx hb dX2_pivotRow_248 hl (k := 2) rfl ((Int32.ofInt_add _ _).symm) (by decide) rfl (fun ls hl => ?_)
            refine lv_goto (tgt := 111) hx hb dX2_pivotRow_251 (by decide) ?_
            exact ih_111 u_76 (j + 1) _ _ _ (by omega) iu_76 F_78 F_79 (by omega) (fun b b0 b1 => by by_cases q : b = j; (rw [q]; exact (by rw [show j = ss by omega, pvT_s (by omega), ← htg, ← show r_3 + (j * 8) = (i + 2) * 112 + ss * 8 by omega]; refine ⟨?_, fun q => absurd rfl q⟩; have y := xu_76.1; rw [(show nv (S111.2.1 oc) (r_3 + (j * 8)) = d.2.1 i ss by rw [hocs]; exact (show nv (S.2.1 oc) (r_3 + (j * 8)) = d.2.1 i ss by rw [show r_3 + (j * 8) = (i + 2) * 112 + ss * 8 by omega]; exact hDR.2.1 i ss (by omega) (by omega) (by omega) (by omega) (by omega)))] at y; rcases htn with z | z; (rw [z, Int.one_mul]; exact y.1 (by omega)); (rw [z, y.2 (by omega)]; omega))); (rw [nv_8 (f := S111.2.1 od) (hd7 hI111 hod _ (by omega) (by omega) (by omega)) (fun y y0 y1 => xu_76.2 y (by omega))]; exact hrow b b0 (by omega))) (fun y q => (xu_76.2 y (by omega)).trans (hfar y (by omega))) ((show u_76.2.1 oc = S111.2.1 oc from funext fun x => (fu_76 oc (p1_no (neD hcd))).2.1 x).trans hocs) hW hL (lv_sub hl [0, 3, 4, 5, 6, 7, 8, 9, 10, 11, 12] rfl)
    exact loop_111 (_ + 1) S 0 _ _ _ (Nat.lt_succ_self _) hI (Fr.rf : Fr S S pZ) Fr.rf (by omega) (fun b b0 b1 => absurd b1 (by omega)) (fun y q => rfl) rfl hW hL (lv_sub hl [0, 1, 2, 3, 4, 5, 6, 7, 8, 9, 10] rfl)
  refine lv_lload hx hb dX2_pivotRow_58 (lv_at hl 2 rfl) ?_
  refine lv_lconst (v := jv 0) hx hb dX2_pivotRow_60 (by decide) ?_
  refine r_lcmp hx hb ⟨(by omega), (by omega)⟩ ⟨(by omega), (by omega)⟩ dX2_pivotRow_61 (fun z_80 az_80 bz_80 cz_80 => ?_)
  refine r_if_le (tgt := 105) hx hb ⟨(by omega), (by omega)⟩ dX2_pivotRow_62 (by decide) (fun c_81 => ?_) (fun c_81 => ?_)
  · refine lv_iconst (v := iv 0) hx hb dX2_pivotRow_105 (by decide) ?_
    exact join_106 0 _ _ _ (by omega) (fun q => absurd q (by omega)) (fun q => absurd q (by omega)) hW hL (lv_sub hl [0, 1, 2, 3, 4, 5, 6, 7, 8] rfl)
  · refine lv_aload_n hx hb dX2_pivotRow_65 rfl (lv_at hl 6 rfl) ?_
    refine lv_bipush (v := iv (-2)) hx hb dX2_pivotRow_66 (by decide) ?_
    refine lv_iconst (v := iv 0) hx hb dX2_pivotRow_68 (by decide) ?_
    refine sBi (sSt (As := [.int (iv ((-2))), .int (iv 0)]) (rest := [.ref (G.2.2.1 + 135)]) Cx (s_X2_at l G S (i := (-2)) (j := 0) (by omega) (by omega)) (c_X2_77 Cx rfl rfl (rmk_ok (by omega) (by decide))) hW rfl hl.1 rfl (Nat.le_of_ble_eq_true rfl) dX2_pivotRow_69 ⟨Nat.le_of_ble_eq_true rfl, Nat.le_of_ble_eq_true rfl⟩) hL (fun r_84 u_82 H locs k_83 hW hL => ?_)
    obtain ⟨eu_82, xu_82⟩ := k_83
    rw [eu_82] at hW
    refine sBi (sV (As := [.int (iv r_84)]) (rest := []) (k := 135) Cx (v_X2_isSmall l G S (a := r_84) (oc := oc) (od := od) hI ⟨hoc, hod, (neD hcd), hec, hed⟩ (by omega)) (c_X2_167 Cx rfl rfl (rmk_ok (by omega) (by decide))) hW (by decide) rfl rfl rfl hl.1 rfl (Nat.le_of_ble_eq_true rfl) dX2_pivotRow_72 ⟨Nat.le_of_ble_eq_true rfl, Nat.le_of_ble_eq_true rfl⟩) hL (fun r_87 u_85 H locs k_86 hW hL => ?_)
    obtain ⟨eu_85, xu_85⟩ := k_86
    rw [eu_85] at hW
    have hi72 := xu_85; rw [show r_84 = r_11 by omega] at hi72
    refine r_if_eq (tgt := 105) hx hb ⟨(by omega), (by omega)⟩ dX2_pivotRow_75 (by decide) (fun c_88 => ?_) (fun c_88 => ?_)
    · refine lv_iconst (v := iv 0) hx hb dX2_pivotRow_105 (by decide) ?_
      exact join_106 0 _ _ _ (by omega) (fun q => absurd q (by omega)) (fun q => absurd q (by omega)) hW hL (lv_sub hl [0, 1, 2, 3, 4, 5, 6, 7, 8] rfl)
    · refine lv_aload_n hx hb dX2_pivotRow_78 rfl (lv_at hl 6 rfl) ?_
      refine lv_iload hx hb dX2_pivotRow_79 (lv_at hl 4 rfl) ?_
      refine lv_iload hx hb dX2_pivotRow_81 (lv_at hl 3 rfl) ?_
      refine r_iadd hx hb dX2_pivotRow_83 ?_
      refine sBi (sV (As := [.int (iv (r_7 + ((S.1 135 18) * 8)))]) (rest := []) (k := 135) Cx (v_X2_isSmall l G S (a := r_7 + ((S.1 135 18) * 8)) (oc := oc) (od := od) hI ⟨hoc, hod, (neD hcd), hec, hed⟩ (by omega)) (c_X2_167 Cx rfl rfl (rmk_ok (by omega) (by decide))) hW (by decide) rfl rfl rfl hl.1 rfl (Nat.le_of_ble_eq_true rfl) dX2_pivotRow_84 ⟨Nat.le_of_ble_eq_true rfl, Nat.le_of_ble_eq_true rfl⟩) hL (fun r_91 u_89 H locs k_90 hW hL => ?_)
      obtain ⟨eu_89, xu_89⟩ := k_90
      rw [eu_89] at hW
      refine r_if_eq (tgt := 105) hx hb ⟨(by omega), (by omega)⟩ dX2_pivotRow_87 (by decide) (fun c_92 => ?_) (fun c_92 => ?_)
      · refine lv_iconst (v := iv 0) hx hb dX2_pivotRow_105 (by decide) ?_
        exact join_106 0 _ _ _ (by omega) (fun q => absurd q (by omega)) (fun q => absurd q (by omega)) hW hL (lv_sub hl [0, 1, 2, 3, 4, 5, 6, 7, 8] rfl)
      · refine lv_aload_n hx hb dX2_pivotRow_90 rfl (lv_at hl 6 rfl) ?_
        refine lv_iload_n hx hb dX2_pivotRow_91 rfl (lv_at hl 5 rfl) ?_
        refine lv_iload hx hb dX2_pivotRow_92 (lv_at hl 3 rfl) ?_
        refine r_iadd hx hb dX2_pivotRow_94 ?_
        refine sBi (sV (As := [.int (iv (r_3 + ((S.1 135 18) * 8)))]) (rest := []) (k := 135) Cx (v_X2_isSmall l G S (a := r_3 + ((S.1 135 18) * 8)) (oc := oc) (od := od) hI ⟨hoc, hod, (neD hcd), hec, hed⟩ (by omega)) (c_X2_167 Cx rfl rfl (rmk_ok (by omega) (by decide))) hW (by decide) rfl rfl rfl hl.1 rfl (Nat.le_of_ble_eq_true rfl) dX2_pivotRow_95 ⟨Nat.le_of_ble_eq_true rfl, Nat.le_of_ble_eq_true rfl⟩) hL (fun r_95 u_93 H locs k_94 hW hL => ?_)
        obtain ⟨eu_93, xu_93⟩ := k_94
        rw [eu_93] at hW
        refine r_if_eq (tgt := 105) hx hb ⟨(by omega), (by omega)⟩ dX2_pivotRow_98 (by decide) (fun c_96 => ?_) (fun c_96 => ?_)
        · refine lv_iconst (v := iv 0) hx hb dX2_pivotRow_105 (by decide) ?_
          exact join_106 0 _ _ _ (by omega) (fun q => absurd q (by omega)) (fun q => absurd q (by omega)) hW hL (lv_sub hl [0, 1, 2, 3, 4, 5, 6, 7, 8] rfl)
        · refine lv_iconst (v := iv 1) hx hb dX2_pivotRow_101 (by decide) ?_
          refine lv_goto (tgt := 106) hx hb dX2_pivotRow_102 (by decide) ?_
          exact join_106 1 _ _ _ (by omega) (fun _ => ⟨by omega, (xu_12.2.2.1 (by omega) (by omega)).2, (xu_14.2.2.1 (by omega) (by omega)).1, (xu_14.2.2.1 (by omega) (by omega)).2, (xu_16.2.2.1 (by omega) (by omega)).1, (xu_16.2.2.1 (by omega) (by omega)).2⟩) (fun _ => ⟨(xu_12.2.2.2 (by omega) (by omega)).trans (by rw [show r_11 = 0 by omega]; exact hDR.1), (xu_14.2.2.2 (by omega) (by omega)).trans (show nv (S.2.1 oc) (r_7 + ((S.1 135 18) * 8)) = d.2.1 rr ss by rw [show r_7 + ((S.1 135 18) * 8) = (rr + 2) * 112 + ss * 8 by omega]; exact hDR.2.1 rr ss (by omega) (by omega) (by omega) (by omega) (by omega)), (xu_16.2.2.2 (by omega) (by omega)).trans (show nv (S.2.1 oc) (r_3 + ((S.1 135 18) * 8)) = d.2.1 i ss by rw [show r_3 + ((S.1 135 18) * 8) = (i + 2) * 112 + ss * 8 by omega]; exact hDR.2.1 i ss (by omega) (by omega) (by omega) (by omega) (by omega))⟩) hW hL (lv_sub hl [0, 1, 2, 3, 4, 5, 6, 7, 8] rfl)

set_option maxRecDepth 100000 in
set_option maxHeartbeats 4000000 in
theorem v_X2_pivot (l : Launch) (G : sG) (S : sS) {oc od : Nat} {n hw : Int} {d : dT} {rr ss : Int} (hI : cX G S 0 0 0) (hdq : dcs G S oc od) (hDR : Hd (DRc S oc n hw d)) (hDp : 0 < d.1) (hrr : S.1 135 17 = rr) (hss : S.1 135 18 = ss) (hrb : 1 ≤ rr ∧ rr ≤ d.2.2.2.2.1) (hsb : 1 ≤ ss ∧ ss ≤ d.2.2.2.2.2) (hpe : d.2.1 rr ss ≠ 0) (hex : Hd (∀ i j, -1 ≤ i → i ≤ d.2.2.2.2.1 → (i = -1 → hw = 1) → i ≠ rr → 0 ≤ j → j ≤ d.2.2.2.2.2 → d.1 * ((d.2.1 i j * d.2.1 rr ss - d.2.1 i ss * d.2.1 rr j) / d.1) = d.2.1 i j * d.2.1 rr ss - d.2.1 i ss * d.2.1 rr j)) : Met l yX2_pivot (.code yX2_pivot cX2_pivot 4 (some .boolean) :: tb) (rmk 7 0 0) (sPc G 294 S [.ref (G.2.2.1 + 135)]) (sQi G 294 (fun r u => cX G u 0 0 0 ∧ Fr S u pPv ∧ (0 ≤ r ∧ r ≤ 1 ∧ Hd (r = 1 → ¬ bgx hw d rr ss ∧ dcs G u od oc ∧ DRc u od n hw (pvD d rr ss)) ∧ Hd (r = 0 → bgx hw d rr ss ∧ dcs G u oc od ∧ DRc u oc n hw d) ∧ u.1 135 19 = S.1 135 19))) 0 0 (sF G) := by
  refine sEnter (by decide) (Nat.le_of_ble_eq_true rfl) ?_
  intro p e s m args below meth c Cx hr hlk hnm hW ls hl
  have Cx : sC G p m c cX2_pivot 4 s args RX2 := Cx
  obtain ⟨hx, hb, hml, hown, hts⟩ := id Cx.1
  have hL : sL G [] := sL_nil
  have hl : lv_has ls 4 [(0, .ref (G.2.2.1 + 135))] := hl
  have hW0 := hW
  obtain ⟨hoc, hod, hcd, hec, hed⟩ := id hdq
  have hd13 := hDR.2.2.2.2.1; have hd14 := hDR.2.2.2.2.2.1; have hd15 := hDR.2.2.2.2.2.2.1; have hd16 := hDR.2.2.2.2.2.2.2; have hm40 : 0 ≤ S.1 135 14 ∧ S.1 135 14 ≤ 40 := hI.fi 135 14 2 (by decide) rfl; have hp13 : 0 ≤ S.1 135 15 ∧ S.1 135 15 ≤ 13 := hI.fi 135 15 2 (by decide) rfl
  refine lv_aload_n hx hb dX2_pivot_0 rfl (lv_at hl 0 rfl) ?_
  have q_1 : (-1) ≤ S.1 135 17 ∧ S.1 135 17 ≤ 40 := hI.fi 135 17 2 (by decide) rfl
  refine g_X2_147 Cx hW (k := 135) (by decide) rfl (v := S.1 135 17) rfl dX2_pivot_1 ?_
  refine lv_iconst (v := iv 1) hx hb dX2_pivot_4 (by decide) ?_
  refine r_icmp_lt (tgt := 31) hx hb ⟨(by omega), (by omega)⟩ ⟨(by omega), (by omega)⟩ dX2_pivot_5 (by decide) (fun c_2 => ?_) (fun c_2 => ?_)
  · refine lv_iconst (v := iv 0) hx hb dX2_pivot_31 (by decide) ?_
    have q_3 : 0 ≤ S.1 135 19 ∧ S.1 135 19 ≤ 102220 := hI.fi 135 19 2 (by decide) rfl
    exact sZret Cx hr hlk hW hL (by omega) ⟨hI, (Fr.rf : Fr S S pPv), (by exfalso; have hty0 := hpe; omega)⟩ dX2_pivot_32
  · refine lv_aload_n hx hb dX2_pivot_8 rfl (lv_at hl 0 rfl) ?_
    have q_4 : (-1) ≤ S.1 135 18 ∧ S.1 135 18 ≤ 13 := hI.fi 135 18 2 (by decide) rfl
    refine g_X2_131 Cx hW (k := 135) (by decide) rfl (v := S.1 135 18) rfl dX2_pivot_9 ?_
    refine lv_iconst (v := iv 1) hx hb dX2_pivot_12 (by decide) ?_
    refine r_icmp_lt (tgt := 31) hx hb ⟨(by omega), (by omega)⟩ ⟨(by omega), (by omega)⟩ dX2_pivot_13 (by decide) (fun c_5 => ?_) (fun c_5 => ?_)
    · refine lv_iconst (v := iv 0) hx hb dX2_pivot_31 (by decide) ?_
      have q_6 : 0 ≤ S.1 135 19 ∧ S.1 135 19 ≤ 102220 := hI.fi 135 19 2 (by decide) rfl
      exact sZret Cx hr hlk hW hL (by omega) ⟨hI, (Fr.rf : Fr S S pPv), (by exfalso; have hty0 := hpe; omega)⟩ dX2_pivot_32
    · refine lv_aload_n hx hb dX2_pivot_16 rfl (lv_at hl 0 rfl) ?_
      refine lv_aload_n hx hb dX2_pivot_17 rfl (lv_at hl 0 rfl) ?_
      refine g_X2_147 Cx hW (k := 135) (by decide) rfl (v := S.1 135 17) rfl dX2_pivot_18 ?_
      refine lv_aload_n hx hb dX2_pivot_21 rfl (lv_at hl 0 rfl) ?_
      refine g_X2_131 Cx hW (k := 135) (by decide) rfl (v := S.1 135 18) rfl dX2_pivot_22 ?_
      refine sBi (sV (As := [.int (iv (S.1 135 17)), .int (iv (S.1 135 18))]) (rest := []) (k := 135) Cx (v_X2_sign l G S (i := S.1 135 17) (j := S.1 135 18) (oc := oc) (od := od) (n := n) (hw := hw) (d := d) hI ⟨hoc, hod, (neD hcd), hec, hed⟩ hDR (by omega) (by omega) (by omega)) (c_X2_95 Cx rfl rfl (rmk_ok (by omega) (by decide))) hW (by decide) rfl rfl rfl hl.1 rfl (Nat.le_of_ble_eq_true rfl) dX2_pivot_25 ⟨Nat.le_of_ble_eq_true rfl, Nat.le_of_ble_eq_true rfl⟩) hL (fun r_9 u_7 H locs k_8 hW hL => ?_)
      obtain ⟨eu_7, xu_7⟩ := k_8
      rw [eu_7] at hW
      refine r_if_ne (tgt := 33) hx hb ⟨(by omega), (by omega)⟩ dX2_pivot_28 (by decide) (fun c_10 => ?_) (fun c_10 => ?_)
      · refine lv_aload_n hx hb dX2_pivot_33 rfl (lv_at hl 0 rfl) ?_
        refine lv_aload_n hx hb dX2_pivot_34 rfl (lv_at hl 0 rfl) ?_
        refine g_X2_147 Cx hW (k := 135) (by decide) rfl (v := S.1 135 17) rfl dX2_pivot_35 ?_
        refine lv_aload_n hx hb dX2_pivot_38 rfl (lv_at hl 0 rfl) ?_
        refine g_X2_131 Cx hW (k := 135) (by decide) rfl (v := S.1 135 18) rfl dX2_pivot_39 ?_
        refine sBi (sV (As := [.int (iv (S.1 135 17)), .int (iv (S.1 135 18))]) (rest := []) (k := 135) Cx (v_X2_sign l G S (i := S.1 135 17) (j := S.1 135 18) (oc := oc) (od := od) (n := n) (hw := hw) (d := d) hI ⟨hoc, hod, (neD hcd), hec, hed⟩ hDR (by omega) (by omega) (by omega)) (c_X2_95 Cx rfl rfl (rmk_ok (by omega) (by decide))) hW (by decide) rfl rfl rfl hl.1 rfl (Nat.le_of_ble_eq_true rfl) dX2_pivot_42 ⟨Nat.le_of_ble_eq_true rfl, Nat.le_of_ble_eq_true rfl⟩) hL (fun r_13 u_11 H locs k_12 hW hL => ?_)
        obtain ⟨eu_11, xu_11⟩ := k_12
        rw [eu_11] at hW
        have hty := xu_11; rw [hrr, hss] at hty
        have htg : r_13 = sgi (d.2.1 rr ss) := sgi_e hpe ⟨hty.2.2.1, hty.2.2.2⟩ ⟨by omega, by omega⟩
        have htn : r_13 = 1 ∨ r_13 = -1 := by rw [htg]; exact sgi_1 _
        refine lv_istore_n (lv' := [(1, .int (iv r_13)), (0, .ref (G.2.2.1 + 135))]) hx hb dX2_pivot_45 rfl hl (by decide) rfl (fun ls hl => ?_)
        refine lv_aload_n hx hb dX2_pivot_46 rfl (lv_at hl 1 rfl) ?_
        refine g_X2_31 Cx hW (k := 135) (by decide) rfl (v := .ref (G.2.2.1 + 141)) (rf_135_5 hI) dX2_pivot_47 ?_
        refine lv_aload_n hx hb dX2_pivot_50 rfl (lv_at hl 1 rfl) ?_
        refine g_X2_13 Cx hW (k := 135) (by decide) rfl (v := .ref (G.2.2.1 + oc)) hec dX2_pivot_51 ?_
        refine lv_aload_n hx hb dX2_pivot_54 rfl (lv_at hl 1 rfl) ?_
        refine g_X2_147 Cx hW (k := 135) (by decide) rfl (v := S.1 135 17) rfl dX2_pivot_55 ?_
        refine lv_aload_n hx hb dX2_pivot_58 rfl (lv_at hl 1 rfl) ?_
        refine g_X2_131 Cx hW (k := 135) (by decide) rfl (v := S.1 135 18) rfl dX2_pivot_59 ?_
        refine sBi (sSt (As := [.int (iv (S.1 135 17)), .int (iv (S.1 135 18))]) (rest := [.ref (G.2.2.1 + oc), .ref (G.2.2.1 + 141)]) Cx (s_X2_at l G S (i := S.1 135 17) (j := S.1 135 18) (by omega) (by omega)) (c_X2_77 Cx rfl rfl (rmk_ok (by omega) (by decide))) hW rfl hl.1 rfl (Nat.le_of_ble_eq_true rfl) dX2_pivot_62 ⟨Nat.le_of_ble_eq_true rfl, Nat.le_of_ble_eq_true rfl⟩) hL (fun r_16 u_14 H locs k_15 hW hL => ?_)
        obtain ⟨eu_14, xu_14⟩ := k_15
        rw [eu_14] at hW
        refine sBv (sV (As := [.ref (G.2.2.1 + oc), .int (iv r_16)]) (rest := []) (k := 141) Cx (b_X0_load l G S (o := 141) (k := oc) (a := r_16) (N := 4816) hI rfl (dic_a hoc) (by omega)) (c_X2_106 Cx rfl rfl (rmk_ok (by omega) (by decide))) hW (by decide) rfl rfl rfl hl.1 rfl (Nat.le_of_ble_eq_true rfl) dX2_pivot_65 ⟨Nat.le_of_ble_eq_true rfl, Nat.le_of_ble_eq_true rfl⟩) hL (fun u_17 H locs k_18 hW hL => ?_)
        obtain ⟨iu_17, fu_17, xu_17⟩ := k_18
        have F_19 := (Fr.rf : Fr S S pPv).trans (fu_17.to (pB_sub rfl rfl))
        have yu_17 : u_17.1 141 1 ≤ 6 := by have e := xu_17.1; rw [dic_L hoc] at e; exact e
        have bv_20 : bv u_17 141 = nv (S.2.1 oc) r_16 := xu_17.2.2.2.2.2.2.2.1
        have hld1 : bv u_17 141 = d.2.1 rr ss := ((show bv u_17 141 = nv (S.2.1 oc) r_16 from bv_20)).trans (show nv (S.2.1 oc) r_16 = d.2.1 rr ss by rw [show r_16 = (rr + 2) * 112 + ss * 8 by omega]; exact hDR.2.1 rr ss (by omega) (by omega) (by omega) (by omega) (by omega))
        refine lv_aload_n hx hb dX2_pivot_68 rfl (lv_at hl 1 rfl) ?_
        refine lv_aload_n hx hb dX2_pivot_69 rfl (lv_at hl 1 rfl) ?_
        refine g_X2_35 Cx hW (k := 135) (by decide) rfl (v := .ref (G.2.2.1 + 143)) (rf_135_6 iu_17) dX2_pivot_70 ?_
        refine sBv (sV (As := [.ref (G.2.2.1 + 143)]) (rest := []) (k := 135) Cx (v_X2_denominator l G u_17 (v := 143) (oc := oc) (od := od) (n := n) (hw := hw) (d := d) iu_17 ⟨hoc, hod, (neD hcd), (((fu_17 135 rfl).2.2.2 0).trans hec), (((fu_17 135 rfl).2.2.2 1).trans hed)⟩ (DRc.of hDR (show u_17.1 135 13 = S.1 135 13 from (fu_17 135 rfl).1 13) (show u_17.1 135 14 = S.1 135 14 from (fu_17 135 rfl).1 14) (show u_17.1 135 15 = S.1 135 15 from (fu_17 135 rfl).1 15) (show u_17.1 135 16 = S.1 135 16 from (fu_17 135 rfl).1 16) (show u_17.2.1 oc = S.2.1 oc from funext fun x => (fu_17 oc (pB_no (tau_ne (dic_t hoc) (rfl : tau 141 = .inl 0) (fun h => by cases h)) (ac_ne (dic_c hoc) (rfl : acode 142 = 1) (by decide)))).2.1 x) (show u_17.2.1 138 = S.2.1 138 from funext fun x => (fu_17 138 rfl).2.1 x) (show u_17.2.1 139 = S.2.1 139 from funext fun x => (fu_17 139 rfl).2.1 x)) rfl) (c_X2_121 Cx rfl rfl (rmk_ok (by omega) (by decide))) hW (by decide) rfl rfl rfl hl.1 rfl (Nat.le_of_ble_eq_true rfl) dX2_pivot_73 ⟨Nat.le_of_ble_eq_true rfl, Nat.le_of_ble_eq_true rfl⟩) hL (fun u_21 H locs k_22 hW hL => ?_)
        obtain ⟨iu_21, fu_21, xu_21⟩ := k_22
        have F_23 := F_19.trans (fu_21.to (pB_sub rfl rfl))
        have bv_24 : bv u_21 143 = d.1 := xu_21.2.2.2.1.1
        have join_88 : ∀ (i0 : Int) (H : Heap) (locs : List Loc) (ls : Array Slot), (-1 ≤ i0 ∧ i0 ≤ 0) → ((i0 = -1 → hw = 1) ∧ (i0 = 0 → hw = 0)) → sW G 294 u_21 H → sL G locs → lv_has ls 4 [(1, .int (iv r_13)), (0, .ref (G.2.2.1 + 135))] → W p l e (rmk 7 0 0) s m args below meth c H locs 0 0 (MQ below (sQi G 294 (fun r u => cX G u 0 0 0 ∧ Fr S u pPv ∧ (0 ≤ r ∧ r ≤ 1 ∧ Hd (r = 1 → ¬ bgx hw d rr ss ∧ dcs G u od oc ∧ DRc u od n hw (pvD d rr ss)) ∧ Hd (r = 0 → bgx hw d rr ss ∧ dcs G u oc od ∧ DRc u oc n hw d) ∧ u.1 135 19 = S.1 135 19))) args s 0 0 (sF G)) (F0 m 88 ls [.int (iv i0)]) := by
          intro i0 H locs ls hi0 hi1 hW hL hl
          refine lv_istore_n (lv' := [(2, .int (iv i0)), (1, .int (iv r_13)), (0, .ref (G.2.2.1 + 135))]) hx hb dX2_pivot_88 rfl hl (by decide) rfl (fun ls hl => ?_)
          have loop_89 : ∀ (fuel : Nat) (S89 : sS) (i : Int) (H : Heap) (locs : List Loc) (ls : Array Slot), (41 - i).toNat < fuel → (cX G S89 0 0 0) → (Fr S S89 pPv) → (Fr u_21 S89 pZ) → (-1 ≤ i ∧ i ≤ d.2.2.2.2.1 + 1) → (i = -1 → hw = 1) → (Hd (FLc (S89.2.1 od) d hw rr ss i)) → (Hd (DRc S89 oc n hw d)) → sW G 294 S89 H → sL G locs → lv_has ls 4 [(2, .int (iv i)), (1, .int (iv r_13)), (0, .ref (G.2.2.1 + 135))] → W p l e (rmk 7 0 0) s m args below meth c H locs 0 0 (MQ below (sQi G 294 (fun r u => cX G u 0 0 0 ∧ Fr S u pPv ∧ (0 ≤ r ∧ r ≤ 1 ∧ Hd (r = 1 → ¬ bgx hw d rr ss ∧ dcs G u od oc ∧ DRc u od n hw (pvD d rr ss)) ∧ Hd (r = 0 → bgx hw d rr ss ∧ dcs G u oc od ∧ DRc u oc n hw d) ∧ u.1 135 19 = S.1 135 19))) args s 0 0 (sF G)) (F0 m 89 ls []) := by
            intro fuel
            induction fuel with
            | zero => intro S89 i H locs ls hmeas hI89 hFm89 hL89_ hi hiw hFL hDl hW hL hl; exact absurd hmeas (Nat.not_lt_zero _)
            | succ fuel ih_89 =>
              intro S89 i H locs ls hmeas hI89 hFm89 hL89_ hi hiw hFL hDl hW hL hl
              have hDl14 := hDl.2.2.2.2.2.1; have hDl15 := hDl.2.2.2.2.2.2.1; have hDl16 := hDl.2.2.2.2.2.2.2
              refine lv_iload_n hx hb dX2_pivot_89 rfl (lv_at hl 0 rfl) ?_
              refine lv_aload_n hx hb dX2_pivot_90 rfl (lv_at hl 2 rfl) ?_
              have q_25 : 0 ≤ S.1 135 14 ∧ S.1 135 14 ≤ 40 := hI.fi 135 14 2 (by decide) rfl
              refine g_X2_66 Cx hW (k := 135) (by decide) rfl (v := S.1 135 14) (((hL89_ 135 rfl).1 14).trans (((fu_21 135 rfl).1 14).trans ((fu_17 135 rfl).1 14))) dX2_pivot_91 ?_
              refine r_icmp_gt (tgt := 122) hx hb ⟨(by omega), (by omega)⟩ ⟨(by omega), (by omega)⟩ dX2_pivot_94 (by decide) (fun c_26 => ?_) (fun c_26 => ?_)
              · refine lv_iconst (v := iv 0) hx hb dX2_pivot_122 (by decide) ?_
                refine lv_istore_n (lv' := [(2, .int (iv 0)), (1, .int (iv r_13)), (0, .ref (G.2.2.1 + 135))]) hx hb dX2_pivot_123 rfl hl (by decide) rfl (fun ls hl => ?_)
                have loop_124 : ∀ (fuel : Nat) (S124 : sS) (j : Int) (H : Heap) (locs : List Loc) (ls : Array Slot), (14 - j).toNat < fuel → (cX G S124 0 0 0) → (Fr S S124 pPv) → (Fr u_21 S124 pZ) → (Fr S89 S124 pZ) → (0 ≤ j ∧ j ≤ d.2.2.2.2.2 + 1) → (Hd (FLc (S124.2.1 od) d hw rr ss (d.2.2.2.2.1 + 1))) → (Hd (∀ b, 0 ≤ b → b < j → nv (S124.2.1 od) ((rr + 2) * 112 + b * 8) = r_13 * d.2.1 rr b)) → (Hd (DRc S124 oc n hw d)) → sW G 294 S124 H → sL G locs → lv_has ls 4 [(2, .int (iv j)), (1, .int (iv r_13)), (0, .ref (G.2.2.1 + 135))] → W p l e (rmk 7 0 0) s m args below meth c H locs 0 0 (MQ below (sQi G 294 (fun r u => cX G u 0 0 0 ∧ Fr S u pPv ∧ (0 ≤ r ∧ r ≤ 1 ∧ Hd (r = 1 → ¬ bgx hw d rr ss ∧ dcs G u od oc ∧ DRc u od n hw (pvD d rr ss)) ∧ Hd (r = 0 → bgx hw d rr ss ∧ dcs G u oc od ∧ DRc u oc n hw d) ∧ u.1 135 19 = S.1 135 19))) args s 0 0 (sF G)) (F0 m 124 ls []) := by
                  intro fuel
                  induction fuel with
                  | zero => intro S124 j H locs ls hmeas hI124 hFm124 hFL89124 hL124_ hj hFM hRM hDm hW hL hl; exact absurd hmeas (Nat.not_lt_zero _)
                  | succ fuel ih_124 =>
                    intro S124 j H locs ls hmeas hI124 hFm124 hFL89124 hL124_ hj hFM hRM hDm hW hL hl
                    have hDm14 := hDm.2.2.2.2.2.1; have hDm15 := hDm.2.2.2.2.2.2.1; have hDm16 := hDm.2.2.2.2.2.2.2
                    refine lv_iload_n hx hb dX2_pivot_124 rfl (lv_at hl 0 rfl) ?_
                    refine lv_aload_n hx hb dX2_pivot_125 rfl (lv_at hl 2 rfl) ?_
                    have q_27 : 0 ≤ S.1 135 15 ∧ S.1 135 15 ≤ 13 := hI.fi 135 15 2 (by decide) rfl
                    refine g_X2_67 Cx hW (k := 135) (by decide) rfl (v := S.1 135 15) (((hL124_ 135 rfl).1 15).trans (((hL89_ 135 rfl).1 15).trans (((fu_21 135 rfl).1 15).trans ((fu_17 135 rfl).1 15)))) dX2_pivot_126 ?_
                    refine r_icmp_gt (tgt := 158) hx hb ⟨(by omega), (by omega)⟩ ⟨(by omega), (by omega)⟩ dX2_pivot_129 (by decide) (fun c_28 => ?_) (fun c_28 => ?_)
                    · refine lv_aload_n hx hb dX2_pivot_158 rfl (lv_at hl 2 rfl) ?_
                      refine g_X2_35 Cx hW (k := 135) (by decide) rfl (v := .ref (G.2.2.1 + 143)) (rf_135_6 hI124) dX2_pivot_159 ?_
                      refine lv_iload_n hx hb dX2_pivot_162 rfl (lv_at hl 1 rfl) ?_
                      refine p_X2_145 Cx hW hL (k := 143) (by decide) rfl dX2_pivot_163 (fun H locs hW hL => ?_)
                      have F_29 : Fr S (uF S124 143 2 r_13) pPv := hFm124.F rfl
                      have i_30 : cX G (uF S124 143 2 r_13) 0 0 0 := hI124.F rfl rfl (show (-1) ≤ r_13 ∧ r_13 ≤ 1 from ⟨by omega, by omega⟩)
                      have q_31 : (-1) ≤ u_21.1 143 2 ∧ u_21.1 143 2 ≤ 1 := iu_21.fi 143 2 0 (by decide) rfl
                      have lk_32 : S124.1 143 2 = u_21.1 143 2 := ((hL124_ 143 rfl).1 2).trans ((hL89_ 143 rfl).1 2)
                      have hd3 : bv (uF S124 143 2 r_13) 143 = r_13 * d.1 := by rw [bv_F2]; congr 1; rw [← bv_p (S := S124) (o := 143) (by omega) (by omega) (show Hd (bs S124 143) from (bs_fr hL124_ rfl (bs_fr hL89_ rfl xu_21.2.2.2.1.2)))]; exact (show bv S124 143 = d.1 from (bv_fr hL124_ rfl rfl).trans ((bv_fr hL89_ rfl rfl).trans (bv_24)))
                      have hd3s : Hd (bs (uF S124 143 2 r_13) 143) := bs_F2 (show Hd (bs S124 143) from (bs_fr hL124_ rfl (bs_fr hL89_ rfl xu_21.2.2.2.1.2))) (by omega)
                      refine lv_aload_n hx hb dX2_pivot_166 rfl (lv_at hl 2 rfl) ?_
                      refine g_X2_35 Cx hW (k := 135) (by decide) rfl (v := .ref (G.2.2.1 + 143)) (rf_135_6 i_30) dX2_pivot_167 ?_
                      refine lv_aload_n hx hb dX2_pivot_170 rfl (lv_at hl 2 rfl) ?_
                      refine g_X2_17 Cx hW (k := 135) (by decide) rfl (v := .ref (G.2.2.1 + od)) (((uF_r).trans (((hL124_ 135 rfl).2.2.2 1).trans (((hL89_ 135 rfl).2.2.2 1).trans (((fu_21 135 rfl).2.2.2 1).trans ((fu_17 135 rfl).2.2.2 1))))).trans hed) dX2_pivot_171 ?_
                      refine lv_aload_n hx hb dX2_pivot_174 rfl (lv_at hl 2 rfl) ?_
                      refine g_X2_147 Cx hW (k := 135) (by decide) rfl (v := S.1 135 17) ((uF_ne (fun h => absurd h.2 (by decide))).trans (((hL124_ 135 rfl).1 17).trans (((hL89_ 135 rfl).1 17).trans (((fu_21 135 rfl).1 17).trans ((fu_17 135 rfl).1 17))))) dX2_pivot_175 ?_
                      refine lv_aload_n hx hb dX2_pivot_178 rfl (lv_at hl 2 rfl) ?_
                      refine g_X2_131 Cx hW (k := 135) (by decide) rfl (v := S.1 135 18) ((uF_ne (fun h => absurd h.2 (by decide))).trans (((hL124_ 135 rfl).1 18).trans (((hL89_ 135 rfl).1 18).trans (((fu_21 135 rfl).1 18).trans ((fu_17 135 rfl).1 18))))) dX2_pivot_179 ?_
                      refine sBi (sSt (As := [.int (iv (S.1 135 17)), .int (iv (S.1 135 18))]) (rest := [.ref (G.2.2.1 + od), .ref (G.2.2.1 + 143)]) Cx (s_X2_at l G (uF S124 143 2 r_13) (i := S.1 135 17) (j := S.1 135 18) (by omega) (by omega)) (c_X2_77 Cx rfl rfl (rmk_ok (by omega) (by decide))) hW rfl hl.1 rfl (Nat.le_of_ble_eq_true rfl) dX2_pivot_182 ⟨Nat.le_of_ble_eq_true rfl, Nat.le_of_ble_eq_true rfl⟩) hL (fun r_35 u_33 H locs k_34 hW hL => ?_)
                      obtain ⟨eu_33, xu_33⟩ := k_34
                      rw [eu_33] at hW
                      have q_36 : 0 ≤ u_21.1 143 1 ∧ u_21.1 143 1 ≤ 32 := iu_21.fi 143 1 0 (by decide) rfl
                      have lk_37 : (uF S124 143 2 r_13).1 143 1 = u_21.1 143 1 := (uF_ne (fun h => absurd h.2 (by decide))).trans (((hL124_ 143 rfl).1 1).trans ((hL89_ 143 rfl).1 1))
                      have lk_38 : (uF S124 143 2 r_13).1 143 2 = r_13 := uF_on
                      refine sBv (sV (As := [.ref (G.2.2.1 + od), .int (iv r_35)]) (rest := []) (k := 143) Cx (b_X0_save l G (uF S124 143 2 r_13) (o := 143) (k := od) (a := r_35) (N := 4816) i_30 rfl (dic_a hod) (by omega) (dicSv hod (by omega)) (fun _ q => by exfalso; omega)) (c_X2_154 Cx rfl rfl (rmk_ok (by omega) (by decide))) hW (by decide) rfl rfl rfl hl.1 rfl (Nat.le_of_ble_eq_true rfl) dX2_pivot_185 ⟨Nat.le_of_ble_eq_true rfl, Nat.le_of_ble_eq_true rfl⟩) hL (fun u_39 H locs k_40 hW hL => ?_)
                      obtain ⟨iu_39, fu_39, xu_39⟩ := k_40
                      have F_41 := F_29.trans (fu_39.to (p1_sub (dic_pPv hod)))
                      have hq0 : Hd (∀ y, y < r_35 ∨ r_35 + 8 ≤ y → u_39.2.1 od y = S124.2.1 od y) := fun y q => (xu_39.2 y q).trans (congrFun (show (uF S124 143 2 r_13).2.1 od = S124.2.1 od from funext fun x => uF_a) y)
                      have hFn : Hd (FLc (u_39.2.1 od) d hw rr ss (d.2.2.2.2.1 + 1)) := FLc.sv hFM (hd7 hI124 hod) (by omega) (by omega) (A := r_35) (by omega) hq0
                      have hRn : Hd (∀ b, 0 ≤ b → b ≤ d.2.2.2.2.2 → nv (u_39.2.1 od) ((rr + 2) * 112 + b * 8) = pvT d rr ss rr b) := fun b b0 b1 => by by_cases q : b = ss; (rw [q, pvT_p, ← htg, ← show r_35 = (rr + 2) * 112 + ss * 8 by omega]; exact (xu_39.1 hd3s).trans hd3); (rw [nv_8 (f := S124.2.1 od) (hd7 hI124 hod _ (by omega) (by omega) (by omega)) (fun y y0 y1 => hq0 y (by omega)), pvT_r q, ← htg]; exact hRM b b0 (by omega))
                      refine lv_aload_n hx hb dX2_pivot_188 rfl (lv_at hl 2 rfl) ?_
                      refine g_X2_31 Cx hW (k := 135) (by decide) rfl (v := .ref (G.2.2.1 + 141)) (rf_135_5 iu_39) dX2_pivot_189 ?_
                      refine lv_iconst (v := iv 1) hx hb dX2_pivot_192 (by decide) ?_
                      refine p_X2_145 Cx hW hL (k := 141) (by decide) rfl dX2_pivot_193 (fun H locs hW hL => ?_)
                      have F_42 : Fr S (uF u_39 141 2 1) pPv := F_41.F rfl
                      have i_43 : cX G (uF u_39 141 2 1) 0 0 0 := iu_39.F rfl rfl (show (-1) ≤ 1 ∧ 1 ≤ 1 from ⟨by omega, by omega⟩)
                      have hl3 : bv (uF u_39 141 2 1) 141 = sgi (d.2.1 rr ss) * d.2.1 rr ss := bv_F2.trans (VR_ab (iu_39.fi 141 2 0 (by decide) rfl) (VR_0 iu_39 rfl) (show bv u_39 141 = d.2.1 rr ss from (bv_fr fu_39 (p1_no (tau_ne (rfl : tau 141 = .inl 0) (dic_t hod) (fun h => by cases h))) (p1_no (ac_ne (rfl : acode 142 = 1) (dic_c hod) (by decide)))).trans ((bv_F (fun h => absurd h (by decide))).trans ((bv_fr hL124_ rfl rfl).trans ((bv_fr hL89_ rfl rfl).trans ((bv_fr fu_21 rfl rfl).trans (hld1)))))) hpe)
                      have q_44 : (-1) ≤ u_17.1 141 2 ∧ u_17.1 141 2 ≤ 1 := iu_17.fi 141 2 0 (by decide) rfl
                      have lk_45 : u_39.1 141 2 = u_17.1 141 2 := ((fu_39 141 (p1_no (tau_ne (rfl : tau 141 = .inl 0) (dic_t hod) (fun h => by cases h)))).1 2).trans ((uF_ne (fun h => absurd h.1 (by decide))).trans (((hL124_ 141 rfl).1 2).trans (((hL89_ 141 rfl).1 2).trans ((fu_21 141 rfl).1 2))))
                      have hl3s : Hd (bs (uF u_39 141 2 1) 141) := bs_F2 (show Hd (bs u_39 141) from (bs_fr fu_39 (p1_no (tau_ne (rfl : tau 141 = .inl 0) (dic_t hod) (fun h => by cases h))) (bs_F (fun h => absurd h (by decide)) (bs_fr hL124_ rfl (bs_fr hL89_ rfl (bs_fr fu_21 rfl xu_17.2.2.2.2.2.2.2.2)))))) ⟨fun q => absurd q (by decide), fun q => absurd ((bv_0 iu_39 (o := 141) rfl (show Hd (bs u_39 141) from (bs_fr fu_39 (p1_no (tau_ne (rfl : tau 141 = .inl 0) (dic_t hod) (fun h => by cases h))) (bs_F (fun h => absurd h (by decide)) (bs_fr hL124_ rfl (bs_fr hL89_ rfl (bs_fr fu_21 rfl xu_17.2.2.2.2.2.2.2.2))))))).mp q) (by rw [(show bv u_39 141 = d.2.1 rr ss from (bv_fr fu_39 (p1_no (tau_ne (rfl : tau 141 = .inl 0) (dic_t hod) (fun h => by cases h))) (p1_no (ac_ne (rfl : acode 142 = 1) (dic_c hod) (by decide)))).trans ((bv_F (fun h => absurd h (by decide))).trans ((bv_fr hL124_ rfl rfl).trans ((bv_fr hL89_ rfl rfl).trans ((bv_fr fu_21 rfl rfl).trans (hld1))))))]; exact hpe)⟩
                      refine lv_aload_n hx hb dX2_pivot_196 rfl (lv_at hl 2 rfl) ?_
                      refine g_X2_31 Cx hW (k := 135) (by decide) rfl (v := .ref (G.2.2.1 + 141)) (rf_135_5 i_43) dX2_pivot_197 ?_
                      refine lv_aload_n hx hb dX2_pivot_200 rfl (lv_at hl 2 rfl) ?_
                      refine g_X2_17 Cx hW (k := 135) (by decide) rfl (v := .ref (G.2.2.1 + od)) (((uF_r).trans (((fu_39 135 (p1_no (tau_ne (rfl : tau 135 = .inl 2) (dic_t hod) (fun h => by cases h)))).2.2.2 1).trans ((uF_r).trans (((hL124_ 135 rfl).2.2.2 1).trans (((hL89_ 135 rfl).2.2.2 1).trans (((fu_21 135 rfl).2.2.2 1).trans ((fu_17 135 rfl).2.2.2 1))))))).trans hed) dX2_pivot_201 ?_
                      refine lv_bipush (v := iv (-2)) hx hb dX2_pivot_204 (by decide) ?_
                      refine lv_iconst (v := iv 0) hx hb dX2_pivot_206 (by decide) ?_
                      refine sBi (sSt (As := [.int (iv ((-2))), .int (iv 0)]) (rest := [.ref (G.2.2.1 + od), .ref (G.2.2.1 + 141)]) Cx (s_X2_at l G (uF u_39 141 2 1) (i := (-2)) (j := 0) (by omega) (by omega)) (c_X2_77 Cx rfl rfl (rmk_ok (by omega) (by decide))) hW rfl hl.1 rfl (Nat.le_of_ble_eq_true rfl) dX2_pivot_207 ⟨Nat.le_of_ble_eq_true rfl, Nat.le_of_ble_eq_true rfl⟩) hL (fun r_48 u_46 H locs k_47 hW hL => ?_)
                      obtain ⟨eu_46, xu_46⟩ := k_47
                      rw [eu_46] at hW
                      have q_49 : 0 ≤ u_17.1 141 1 ∧ u_17.1 141 1 ≤ 32 := iu_17.fi 141 1 0 (by decide) rfl
                      have lk_50 : (uF u_39 141 2 1).1 141 1 = u_17.1 141 1 := (uF_ne (fun h => absurd h.2 (by decide))).trans (((fu_39 141 (p1_no (tau_ne (rfl : tau 141 = .inl 0) (dic_t hod) (fun h => by cases h)))).1 1).trans ((uF_ne (fun h => absurd h.2 (by decide))).trans (((hL124_ 141 rfl).1 1).trans (((hL89_ 141 rfl).1 1).trans ((fu_21 141 rfl).1 1)))))
                      have lk_51 : (uF u_39 141 2 1).1 141 2 = 1 := uF_on
                      refine sBv (sV (As := [.ref (G.2.2.1 + od), .int (iv r_48)]) (rest := []) (k := 141) Cx (b_X0_save l G (uF u_39 141 2 1) (o := 141) (k := od) (a := r_48) (N := 4816) i_43 rfl (dic_a hod) (by omega) (dicSv hod (by omega)) (fun _ _ => by omega)) (c_X2_154 Cx rfl rfl (rmk_ok (by omega) (by decide))) hW (by decide) rfl rfl rfl hl.1 rfl (Nat.le_of_ble_eq_true rfl) dX2_pivot_210 ⟨Nat.le_of_ble_eq_true rfl, Nat.le_of_ble_eq_true rfl⟩) hL (fun u_52 H locs k_53 hW hL => ?_)
                      obtain ⟨iu_52, fu_52, xu_52⟩ := k_53
                      have F_54 := F_42.trans (fu_52.to (p1_sub (dic_pPv hod)))
                      have ha0 : r_48 = 0 := by omega
                      have hq1 : Hd (∀ y, y < 0 ∨ 0 + 8 ≤ y → u_52.2.1 od y = u_39.2.1 od y) := fun y q => (xu_52.2 y (by rw [ha0]; exact q)).trans (congrFun (show (uF u_39 141 2 1).2.1 od = u_39.2.1 od from funext fun x => uF_a) y)
                      have hFz : Hd (FLc (u_52.2.1 od) d hw rr ss (d.2.2.2.2.1 + 1)) := FLc.sv hFn (hd7 iu_39 hod) (by omega) (by omega) (A := 0) (.inl rfl) hq1
                      have hRz : Hd (∀ b, 0 ≤ b → b ≤ d.2.2.2.2.2 → nv (u_52.2.1 od) ((rr + 2) * 112 + b * 8) = pvT d rr ss rr b) := fun b b0 b1 => by rw [nv_8 (f := u_39.2.1 od) (hd7 iu_39 hod _ (by omega) (by omega) (by omega)) (fun y y0 y1 => hq1 y (by omega))]; exact hRn b b0 b1
                      have hDz : nv (u_52.2.1 od) 0 = sgi (d.2.1 rr ss) * d.2.1 rr ss := by have y := xu_52.1 hl3s; rw [ha0] at y; exact y.trans hl3
                      refine lv_aload_n hx hb dX2_pivot_213 rfl (lv_at hl 2 rfl) ?_
                      refine g_X2_13 Cx hW (k := 135) (by decide) rfl (v := .ref (G.2.2.1 + oc)) ((((fu_52 135 (p1_no (tau_ne (rfl : tau 135 = .inl 2) (dic_t hod) (fun h => by cases h)))).2.2.2 0).trans ((uF_r).trans (((fu_39 135 (p1_no (tau_ne (rfl : tau 135 = .inl 2) (dic_t hod) (fun h => by cases h)))).2.2.2 0).trans ((uF_r).trans (((hL124_ 135 rfl).2.2.2 0).trans (((hL89_ 135 rfl).2.2.2 0).trans (((fu_21 135 rfl).2.2.2 0).trans ((fu_17 135 rfl).2.2.2 0)))))))).trans hec) dX2_pivot_214 ?_
                      refine lv_astore_n (lv' := [(2, .ref (G.2.2.1 + oc)), (1, .int (iv r_13)), (0, .ref (G.2.2.1 + 135))]) hx hb dX2_pivot_217 rfl hl (by decide) rfl (fun ls hl => ?_)
                      refine lv_aload_n hx hb dX2_pivot_218 rfl (lv_at hl 2 rfl) ?_
                      refine lv_aload_n hx hb dX2_pivot_219 rfl (lv_at hl 2 rfl) ?_
                      refine g_X2_17 Cx hW (k := 135) (by decide) rfl (v := .ref (G.2.2.1 + od)) ((((fu_52 135 (p1_no (tau_ne (rfl : tau 135 = .inl 2) (dic_t hod) (fun h => by cases h)))).2.2.2 1).trans ((uF_r).trans (((fu_39 135 (p1_no (tau_ne (rfl : tau 135 = .inl 2) (dic_t hod) (fun h => by cases h)))).2.2.2 1).trans ((uF_r).trans (((hL124_ 135 rfl).2.2.2 1).trans (((hL89_ 135 rfl).2.2.2 1).trans (((fu_21 135 rfl).2.2.2 1).trans ((fu_17 135 rfl).2.2.2 1)))))))).trans hed) dX2_pivot_220 ?_
                      refine p_X2_13 Cx hW hL (k := 135) (by decide) rfl dX2_pivot_223 (fun H locs hW hL => ?_)
                      have F_55 : Fr S (uR u_52 135 0 (.ref (G.2.2.1 + od))) pPv := F_54.R rfl
                      refine lv_aload_n hx hb dX2_pivot_226 rfl (lv_at hl 2 rfl) ?_
                      refine lv_aload_n hx hb dX2_pivot_227 rfl (lv_at hl 0 rfl) ?_
                      refine p_X2_17 Cx hW hL (k := 135) (by decide) rfl dX2_pivot_228 (fun H locs hW hL => ?_)
                      have F_56 : Fr S (uR (uR u_52 135 0 (.ref (G.2.2.1 + od))) 135 1 (.ref (G.2.2.1 + oc))) pPv := F_55.R rfl
                      have i_57 : cX G (uR (uR u_52 135 0 (.ref (G.2.2.1 + od))) 135 1 (.ref (G.2.2.1 + oc))) 0 0 0 := iu_52.swap ((((fu_52 135 (p1_no (tau_ne (rfl : tau 135 = .inl 2) (dic_t hod) (fun h => by cases h)))).2.2.2 0).trans ((uF_r).trans (((fu_39 135 (p1_no (tau_ne (rfl : tau 135 = .inl 2) (dic_t hod) (fun h => by cases h)))).2.2.2 0).trans ((uF_r).trans (((hL124_ 135 rfl).2.2.2 0).trans (((hL89_ 135 rfl).2.2.2 0).trans (((fu_21 135 rfl).2.2.2 0).trans ((fu_17 135 rfl).2.2.2 0)))))))).trans hec) ((((fu_52 135 (p1_no (tau_ne (rfl : tau 135 = .inl 2) (dic_t hod) (fun h => by cases h)))).2.2.2 1).trans ((uF_r).trans (((fu_39 135 (p1_no (tau_ne (rfl : tau 135 = .inl 2) (dic_t hod) (fun h => by cases h)))).2.2.2 1).trans ((uF_r).trans (((hL124_ 135 rfl).2.2.2 1).trans (((hL89_ 135 rfl).2.2.2 1).trans (((fu_21 135 rfl).2.2.2 1).trans ((fu_17 135 rfl).2.2.2 1)))))))).trans hed)
                      refine lv_aload_n hx hb dX2_pivot_231 rfl (lv_at hl 2 rfl) ?_
                      refine g_X2_20 Cx hW (k := 135) (by decide) rfl (v := .ref (G.2.2.1 + 138)) (rf_135_2 i_57) dX2_pivot_232 ?_
                      refine lv_aload_n hx hb dX2_pivot_235 rfl (lv_at hl 2 rfl) ?_
                      refine g_X2_147 Cx hW (k := 135) (by decide) rfl (v := S.1 135 17) ((uR_f).trans ((uR_f).trans (((fu_52 135 (p1_no (tau_ne (rfl : tau 135 = .inl 2) (dic_t hod) (fun h => by cases h)))).1 17).trans ((uF_ne (fun h => absurd h.2 (by decide))).trans (((fu_39 135 (p1_no (tau_ne (rfl : tau 135 = .inl 2) (dic_t hod) (fun h => by cases h)))).1 17).trans ((uF_ne (fun h => absurd h.2 (by decide))).trans (((hL124_ 135 rfl).1 17).trans (((hL89_ 135 rfl).1 17).trans (((fu_21 135 rfl).1 17).trans ((fu_17 135 rfl).1 17)))))))))) dX2_pivot_236 ?_
                      refine rIald Cx hW (k := 138) (by decide) rfl (by decide) (by omega) (by omega) dX2_pivot_239 ?_
                      have q_58 : (-2147483648) ≤ S.2.1 138 (S.1 135 17) ∧ S.2.1 138 (S.1 135 17) ≤ 2147483647 := hI.ai 138 (S.1 135 17) (by decide)
                      refine r_i (b := S.2.1 138 (S.1 135 17)) ((uR_a).trans ((uR_a).trans (((fu_52 138 (p1_no (ac_ne (rfl : acode 138 = 0) (dic_c hod) (by decide)))).2.1 (S.1 135 17)).trans ((uF_a).trans (((fu_39 138 (p1_no (ac_ne (rfl : acode 138 = 0) (dic_c hod) (by decide)))).2.1 (S.1 135 17)).trans ((uF_a).trans (((hL124_ 138 rfl).2.1 (S.1 135 17)).trans (((hL89_ 138 rfl).2.1 (S.1 135 17)).trans (((fu_21 138 rfl).2.1 (S.1 135 17)).trans ((fu_17 138 rfl).2.1 (S.1 135 17))))))))))) ?_
                      refine lv_istore_n (lv' := [(3, .int (iv (S.2.1 138 (S.1 135 17)))), (2, .ref (G.2.2.1 + oc)), (1, .int (iv r_13)), (0, .ref (G.2.2.1 + 135))]) hx hb dX2_pivot_240 rfl hl (by decide) rfl (fun ls hl => ?_)
                      refine lv_aload_n hx hb dX2_pivot_241 rfl (lv_at hl 3 rfl) ?_
                      refine g_X2_20 Cx hW (k := 135) (by decide) rfl (v := .ref (G.2.2.1 + 138)) (rf_135_2 i_57) dX2_pivot_242 ?_
                      refine lv_aload_n hx hb dX2_pivot_245 rfl (lv_at hl 3 rfl) ?_
                      refine g_X2_147 Cx hW (k := 135) (by decide) rfl (v := S.1 135 17) ((uR_f).trans ((uR_f).trans (((fu_52 135 (p1_no (tau_ne (rfl : tau 135 = .inl 2) (dic_t hod) (fun h => by cases h)))).1 17).trans ((uF_ne (fun h => absurd h.2 (by decide))).trans (((fu_39 135 (p1_no (tau_ne (rfl : tau 135 = .inl 2) (dic_t hod) (fun h => by cases h)))).1 17).trans ((uF_ne (fun h => absurd h.2 (by decide))).trans (((hL124_ 135 rfl).1 17).trans (((hL89_ 135 rfl).1 17).trans (((fu_21 135 rfl).1 17).trans ((fu_17 135 rfl).1 17)))))))))) dX2_pivot_246 ?_
                      refine lv_aload_n hx hb dX2_pivot_249 rfl (lv_at hl 3 rfl) ?_
                      refine g_X2_23 Cx hW (k := 135) (by decide) rfl (v := .ref (G.2.2.1 + 139)) (rf_135_3 i_57) dX2_pivot_250 ?_
                      refine lv_aload_n hx hb dX2_pivot_253 rfl (lv_at hl 3 rfl) ?_
                      refine g_X2_131 Cx hW (k := 135) (by decide) rfl (v := S.1 135 18) ((uR_f).trans ((uR_f).trans (((fu_52 135 (p1_no (tau_ne (rfl : tau 135 = .inl 2) (dic_t hod) (fun h => by cases h)))).1 18).trans ((uF_ne (fun h => absurd h.2 (by decide))).trans (((fu_39 135 (p1_no (tau_ne (rfl : tau 135 = .inl 2) (dic_t hod) (fun h => by cases h)))).1 18).trans ((uF_ne (fun h => absurd h.2 (by decide))).trans (((hL124_ 135 rfl).1 18).trans (((hL89_ 135 rfl).1 18).trans (((fu_21 135 rfl).1 18).trans ((fu_17 135 rfl).1 18)))))))))) dX2_pivot_254 ?_
                      refine rIald Cx hW (k := 139) (by decide) rfl (by decide) (by omega) (by omega) dX2_pivot_257 ?_
                      have q_59 : (-2147483648) ≤ S.2.1 139 (S.1 135 18) ∧ S.2.1 139 (S.1 135 18) ≤ 2147483647 := hI.ai 139 (S.1 135 18) (by decide)
                      refine r_i (b := S.2.1 139 (S.1 135 18)) ((uR_a).trans ((uR_a).trans (((fu_52 139 (p1_no (ac_ne (rfl : acode 139 = 0) (dic_c hod) (by decide)))).2.1 (S.1 135 18)).trans ((uF_a).trans (((fu_39 139 (p1_no (ac_ne (rfl : acode 139 = 0) (dic_c hod) (by decide)))).2.1 (S.1 135 18)).trans ((uF_a).trans (((hL124_ 139 rfl).2.1 (S.1 135 18)).trans (((hL89_ 139 rfl).2.1 (S.1 135 18)).trans (((fu_21 139 rfl).2.1 (S.1 135 18)).trans ((fu_17 139 rfl).2.1 (S.1 135 18))))))))))) ?_
                      refine rIast Cx hW hL (k := 138) (by decide) rfl (by decide) (by omega) (by omega) dX2_pivot_258 (fun H locs hW hL => ?_)
                      have F_60 : Fr S (uA (uR (uR u_52 135 0 (.ref (G.2.2.1 + od))) 135 1 (.ref (G.2.2.1 + oc))) 138 (S.1 135 17) (S.2.1 139 (S.1 135 18))) pPv := F_56.A rfl
                      have i_61 : cX G (uA (uR (uR u_52 135 0 (.ref (G.2.2.1 + od))) 135 1 (.ref (G.2.2.1 + oc))) 138 (S.1 135 17) (S.2.1 139 (S.1 135 18))) 0 0 0 := i_57.A (by decide) (by decide) (by decide) (show (-2147483648) ≤ S.2.1 139 (S.1 135 18) ∧ S.2.1 139 (S.1 135 18) ≤ 2147483647 from ⟨by omega, by omega⟩)
                      refine lv_aload_n hx hb dX2_pivot_259 rfl (lv_at hl 3 rfl) ?_
                      refine g_X2_23 Cx hW (k := 135) (by decide) rfl (v := .ref (G.2.2.1 + 139)) (rf_135_3 i_61) dX2_pivot_260 ?_
                      refine lv_aload_n hx hb dX2_pivot_263 rfl (lv_at hl 3 rfl) ?_
                      refine g_X2_131 Cx hW (k := 135) (by decide) rfl (v := S.1 135 18) ((uA_f).trans ((uR_f).trans ((uR_f).trans (((fu_52 135 (p1_no (tau_ne (rfl : tau 135 = .inl 2) (dic_t hod) (fun h => by cases h)))).1 18).trans ((uF_ne (fun h => absurd h.2 (by decide))).trans (((fu_39 135 (p1_no (tau_ne (rfl : tau 135 = .inl 2) (dic_t hod) (fun h => by cases h)))).1 18).trans ((uF_ne (fun h => absurd h.2 (by decide))).trans (((hL124_ 135 rfl).1 18).trans (((hL89_ 135 rfl).1 18).trans (((fu_21 135 rfl).1 18).trans ((fu_17 135 rfl).1 18))))))))))) dX2_pivot_264 ?_
                      refine lv_iload_n hx hb dX2_pivot_267 rfl (lv_at hl 0 rfl) ?_
                      refine rIast Cx hW hL (k := 139) (by decide) rfl (by decide) (by omega) (by omega) dX2_pivot_268 (fun H locs hW hL => ?_)
                      have F_62 : Fr S (uA (uA (uR (uR u_52 135 0 (.ref (G.2.2.1 + od))) 135 1 (.ref (G.2.2.1 + oc))) 138 (S.1 135 17) (S.2.1 139 (S.1 135 18))) 139 (S.1 135 18) (S.2.1 138 (S.1 135 17))) pPv := F_60.A rfl
                      have i_63 : cX G (uA (uA (uR (uR u_52 135 0 (.ref (G.2.2.1 + od))) 135 1 (.ref (G.2.2.1 + oc))) 138 (S.1 135 17) (S.2.1 139 (S.1 135 18))) 139 (S.1 135 18) (S.2.1 138 (S.1 135 17))) 0 0 0 := i_61.A (by decide) (by decide) (by decide) (show (-2147483648) ≤ S.2.1 138 (S.1 135 17) ∧ S.2.1 138 (S.1 135 17) ≤ 2147483647 from ⟨by omega, by omega⟩)
                      refine lv_iconst (v := iv 1) hx hb dX2_pivot_269 (by decide) ?_
                      have q_64 : 0 ≤ S.1 135 19 ∧ S.1 135 19 ≤ 102220 := hI.fi 135 19 2 (by decide) rfl
                      have lk_65 : (uA (uA (uR (uR u_52 135 0 (.ref (G.2.2.1 + od))) 135 1 (.ref (G.2.2.1 + oc))) 138 (S.1 135 17) (S.2.1 139 (S.1 135 18))) 139 (S.1 135 18) (S.2.1 138 (S.1 135 17))).1 135 19 = S.1 135 19 := (uA_f).trans ((uA_f).trans ((uR_f).trans ((uR_f).trans (((fu_52 135 (p1_no (tau_ne (rfl : tau 135 = .inl 2) (dic_t hod) (fun h => by cases h)))).1 19).trans ((uF_ne (fun h => absurd h.2 (by decide))).trans (((fu_39 135 (p1_no (tau_ne (rfl : tau 135 = .inl 2) (dic_t hod) (fun h => by cases h)))).1 19).trans ((uF_ne (fun h => absurd h.2 (by decide))).trans (((hL124_ 135 rfl).1 19).trans (((hL89_ 135 rfl).1 19).trans (((fu_21 135 rfl).1 19).trans ((fu_17 135 rfl).1 19)))))))))))
                      exact sZret Cx hr hlk hW hL (by omega) ⟨i_63, F_62, ⟨by omega, by omega, (fun _ => ⟨(by rintro ⟨a, b, a0, a1, b0, ar, bs_, hbg⟩; exact (hFz a b a0.1 (by omega) a0.2 a1 ar b0.1 b0.2).2 bs_ hbg), ⟨hod, hoc, (neS hcd), ((uA_r).trans ((uA_r).trans ((uR_ne (fun h => absurd h.2 (by decide))).trans (uR_on)))), ((uA_r).trans ((uA_r).trans (uR_on)))⟩, (DRc.pv (od := od) (r := rr) (s := ss) hDR (by omega) (by omega) (by rw [show (uA (uA (uR (uR u_52 135 0 (.ref (G.2.2.1 + od))) 135 1 (.ref (G.2.2.1 + oc))) 138 (S.1 135 17) (S.2.1 139 (S.1 135 18))) 139 (S.1 135 18) (S.2.1 138 (S.1 135 17))).2.1 od = u_52.2.1 od from funext fun x => (uA_ne (fun h => absurd h.1 (ac_ne (dic_c hod) (rfl : acode 139 = 0) (by decide)))).trans ((uA_ne (fun h => absurd h.1 (ac_ne (dic_c hod) (rfl : acode 138 = 0) (by decide)))).trans ((uR_a).trans (uR_a)))]; exact hFz) (by rw [show (uA (uA (uR (uR u_52 135 0 (.ref (G.2.2.1 + od))) 135 1 (.ref (G.2.2.1 + oc))) 138 (S.1 135 17) (S.2.1 139 (S.1 135 18))) 139 (S.1 135 18) (S.2.1 138 (S.1 135 17))).2.1 od = u_52.2.1 od from funext fun x => (uA_ne (fun h => absurd h.1 (ac_ne (dic_c hod) (rfl : acode 139 = 0) (by decide)))).trans ((uA_ne (fun h => absurd h.1 (ac_ne (dic_c hod) (rfl : acode 138 = 0) (by decide)))).trans ((uR_a).trans (uR_a)))]; exact hRz) (by rw [show (uA (uA (uR (uR u_52 135 0 (.ref (G.2.2.1 + od))) 135 1 (.ref (G.2.2.1 + oc))) 138 (S.1 135 17) (S.2.1 139 (S.1 135 18))) 139 (S.1 135 18) (S.2.1 138 (S.1 135 17))).2.1 od = u_52.2.1 od from funext fun x => (uA_ne (fun h => absurd h.1 (ac_ne (dic_c hod) (rfl : acode 139 = 0) (by decide)))).trans ((uA_ne (fun h => absurd h.1 (ac_ne (dic_c hod) (rfl : acode 138 = 0) (by decide)))).trans ((uR_a).trans (uR_a)))]; exact hDz) ((uA_f).trans ((uA_f).trans ((uR_f).trans ((uR_f).trans (((fu_52 135 (p1_no (tau_ne (rfl : tau 135 = .inl 2) (dic_t hod) (fun h => by cases h)))).1 13).trans ((uF_ne (fun h => absurd h.2 (by decide))).trans (((fu_39 135 (p1_no (tau_ne (rfl : tau 135 = .inl 2) (dic_t hod) (fun h => by cases h)))).1 13).trans ((uF_ne (fun h => absurd h.2 (by decide))).trans (((hL124_ 135 rfl).1 13).trans (((hL89_ 135 rfl).1 13).trans (((fu_21 135 rfl).1 13).trans ((fu_17 135 rfl).1 13)))))))))))) ((uA_f).trans ((uA_f).trans ((uR_f).trans ((uR_f).trans (((fu_52 135 (p1_no (tau_ne (rfl : tau 135 = .inl 2) (dic_t hod) (fun h => by cases h)))).1 14).trans ((uF_ne (fun h => absurd h.2 (by decide))).trans (((fu_39 135 (p1_no (tau_ne (rfl : tau 135 = .inl 2) (dic_t hod) (fun h => by cases h)))).1 14).trans ((uF_ne (fun h => absurd h.2 (by decide))).trans (((hL124_ 135 rfl).1 14).trans (((hL89_ 135 rfl).1 14).trans (((fu_21 135 rfl).1 14).trans ((fu_17 135 rfl).1 14)))))))))))) ((uA_f).trans ((uA_f).trans ((uR_f).trans ((uR_f).trans (((fu_52 135 (p1_no (tau_ne (rfl : tau 135 = .inl 2) (dic_t hod) (fun h => by cases h)))).1 15).trans ((uF_ne (fun h => absurd h.2 (by decide))).trans (((fu_39 135 (p1_no (tau_ne (rfl : tau 135 = .inl 2) (dic_t hod) (fun h => by cases h)))).1 15).trans ((uF_ne (fun h => absurd h.2 (by decide))).trans (((hL124_ 135 rfl).1 15).trans (((hL89_ 135 rfl).1 15).trans (((fu_21 135 rfl).1 15).trans ((fu_17 135 rfl).1 15)))))))))))) ((uA_f).trans ((uA_f).trans ((uR_f).trans ((uR_f).trans (((fu_52 135 (p1_no (tau_ne (rfl : tau 135 = .inl 2) (dic_t hod) (fun h => by cases h)))).1 16).trans ((uF_ne (fun h => absurd h.2 (by decide))).trans (((fu_39 135 (p1_no (tau_ne (rfl : tau 135 = .inl 2) (dic_t hod) (fun h => by cases h)))).1 16).trans ((uF_ne (fun h => absurd h.2 (by decide))).trans (((hL124_ 135 rfl).1 16).trans (((hL89_ 135 rfl).1 16).trans (((fu_21 135 rfl).1 16).trans ((fu_17 135 rfl).1 16)))))))))))) (fun i => by rw [show (uA (uA (uR (uR u_52 135 0 (.ref (G.2.2.1 + od))) 135 1 (.ref (G.2.2.1 + oc))) 138 (S.1 135 17) (S.2.1 139 (S.1 135 18))) 139 (S.1 135 18) (S.2.1 138 (S.1 135 17))).2.1 138 i = (uA (uR (uR u_52 135 0 (.ref (G.2.2.1 + od))) 135 1 (.ref (G.2.2.1 + oc))) 138 (S.1 135 17) (S.2.1 139 (S.1 135 18))).2.1 138 i from uA_ne (fun h => absurd h.1 (by decide)), uA_get]; by_cases q : i = rr; (rw [if_pos ⟨rfl, by omega⟩, if_pos q]; rw [← hss]; try rfl); (rw [if_neg (fun h => q (by omega)), if_neg q]; exact (uR_a).trans ((uR_a).trans (((fu_52 138 (p1_no (ac_ne (rfl : acode 138 = 0) (dic_c hod) (by decide)))).2.1 i).trans ((uF_a).trans (((fu_39 138 (p1_no (ac_ne (rfl : acode 138 = 0) (dic_c hod) (by decide)))).2.1 i).trans ((uF_a).trans (((hL124_ 138 rfl).2.1 i).trans (((hL89_ 138 rfl).2.1 i).trans (((fu_21 138 rfl).2.1 i).trans ((fu_17 138 rfl).2.1 i))))))))))) (fun j => by rw [uA_get]; by_cases q : j = ss; (rw [if_pos ⟨rfl, by omega⟩, if_pos q]; rw [← hrr]; try rfl); (rw [if_neg (fun h => q (by omega)), if_neg q]; exact (uA_ne (fun h => absurd h.1 (by decide))).trans ((uR_a).trans ((uR_a).trans (((fu_52 139 (p1_no (ac_ne (rfl : acode 139 = 0) (dic_c hod) (by decide)))).2.1 j).trans ((uF_a).trans (((fu_39 139 (p1_no (ac_ne (rfl : acode 139 = 0) (dic_c hod) (by decide)))).2.1 j).trans ((uF_a).trans (((hL124_ 139 rfl).2.1 j).trans (((hL89_ 139 rfl).2.1 j).trans (((fu_21 139 rfl).2.1 j).trans ((fu_17 139 rfl).2.1 j)))))))))))))⟩), (fun q => absurd q (by omega)), ((uA_f).trans ((uA_f).trans ((uR_f).trans ((uR_f).trans (((fu_52 135 (p1_no (tau_ne (rfl : tau 135 = .inl 2) (dic_t hod) (fun h => by cases h)))).1 19).trans ((uF_ne (fun h => absurd h.2 (by decide))).trans (((fu_39 135 (p1_no (tau_ne (rfl : tau 135 = .inl 2) (dic_t hod) (fun h => by cases h)))).1 19).trans ((uF_ne (fun h => absurd h.2 (by decide))).trans (((hL124_ 135 rfl).1 19).trans (((hL89_ 135 rfl).1 19).trans (((fu_21 135 rfl).1 19).trans ((fu_17 135 rfl).1 19))))))))))))⟩⟩ dX2_pivot_270
                    · refine lv_aload_n hx hb dX2_pivot_132 rfl (lv_at hl 2 rfl) ?_
                      refine g_X2_13 Cx hW (k := 135) (by decide) rfl (v := .ref (G.2.2.1 + oc)) ((((hL124_ 135 rfl).2.2.2 0).trans (((hL89_ 135 rfl).2.2.2 0).trans (((fu_21 135 rfl).2.2.2 0).trans ((fu_17 135 rfl).2.2.2 0)))).trans hec) dX2_pivot_133 ?_
                      refine lv_aload_n hx hb dX2_pivot_136 rfl (lv_at hl 2 rfl) ?_
                      refine g_X2_17 Cx hW (k := 135) (by decide) rfl (v := .ref (G.2.2.1 + od)) ((((hL124_ 135 rfl).2.2.2 1).trans (((hL89_ 135 rfl).2.2.2 1).trans (((fu_21 135 rfl).2.2.2 1).trans ((fu_17 135 rfl).2.2.2 1)))).trans hed) dX2_pivot_137 ?_
                      refine lv_aload_n hx hb dX2_pivot_140 rfl (lv_at hl 2 rfl) ?_
                      refine g_X2_147 Cx hW (k := 135) (by decide) rfl (v := S.1 135 17) (((hL124_ 135 rfl).1 17).trans (((hL89_ 135 rfl).1 17).trans (((fu_21 135 rfl).1 17).trans ((fu_17 135 rfl).1 17)))) dX2_pivot_141 ?_
                      refine lv_iload_n hx hb dX2_pivot_144 rfl (lv_at hl 0 rfl) ?_
                      refine sBi (sSt (As := [.int (iv (S.1 135 17)), .int (iv j)]) (rest := [.ref (G.2.2.1 + od), .ref (G.2.2.1 + oc)]) Cx (s_X2_at l G S124 (i := S.1 135 17) (j := j) (by omega) (by omega)) (c_X2_77 Cx rfl rfl (rmk_ok (by omega) (by decide))) hW rfl hl.1 rfl (Nat.le_of_ble_eq_true rfl) dX2_pivot_145 ⟨Nat.le_of_ble_eq_true rfl, Nat.le_of_ble_eq_true rfl⟩) hL (fun r_68 u_66 H locs k_67 hW hL => ?_)
                      obtain ⟨eu_66, xu_66⟩ := k_67
                      rw [eu_66] at hW
                      refine lv_iload_n hx hb dX2_pivot_148 rfl (lv_at hl 1 rfl) ?_
                      refine sBv (sSt (As := [.ref (G.2.2.1 + oc), .ref (G.2.2.1 + od), .int (iv r_68), .int (iv r_13)]) (rest := []) Cx (v_X0_move l G S124 (kf := oc) (kt := od) (a := r_68) (tn := r_13) hI124 hoc hod (neD hcd) (by omega) (by omega)) (c_X2_188 Cx rfl rfl (rmk_ok (by omega) (by decide))) hW rfl hl.1 rfl (Nat.le_of_ble_eq_true rfl) dX2_pivot_149 ⟨Nat.le_of_ble_eq_true rfl, Nat.le_of_ble_eq_true rfl⟩) hL (fun u_69 H locs k_70 hW hL => ?_)
                      obtain ⟨iu_69, fu_69, xu_69⟩ := k_70
                      have F_71 := hFm124.trans (fu_69.to (p1_sub (dic_pPv hod)))
                      have F_72 := hFL89124.trans (fu_69.to (p1_sub (dic_z hod)))
                      have F_73 := hL124_.trans (fu_69.to (p1_sub (dic_z hod)))
                      refine lv_iinc (v := iv (j + 1)) (lv' := [(2, .int (iv (j + 1))), (1, .int (iv r_13)), (0, .ref (G.2.2.1 + 135))]) hx hb dX2_pivot_152 hl (k := 0) rfl ((Int32.ofInt_add _ _).symm) (by decide) rfl (fun ls hl => ?_)
                      refine lv_goto (tgt := 124) hx hb dX2_pivot_155 (by decide) ?_
                      exact ih_124 u_69 (j + 1) _ _ _ (by omega) iu_69 F_71 F_72 F_73 (by omega) (FLc.sv hFM (hd7 hI124 hod) (by omega) (by omega) (A := r_68) (by omega) (fun y q => xu_69.2 y q)) (fun b b0 b1 => by by_cases q : b = j; (rw [q, ← show r_68 = (rr + 2) * 112 + j * 8 by omega]; have y := xu_69.1; rw [(show nv (S124.2.1 oc) r_68 = d.2.1 rr j by rw [show r_68 = (rr + 2) * 112 + j * 8 by omega]; exact hDm.2.1 rr j (by omega) (by omega) (by omega) (by omega) (by omega))] at y; rcases htn with z | z; (rw [z, Int.one_mul]; exact y.2 (by omega)); (rw [z, y.1 (by omega)]; omega)); (rw [nv_8 (f := S124.2.1 od) (hd7 hI124 hod _ (by omega) (by omega) (by omega)) (fun y y0 y1 => xu_69.2 y (by omega))]; exact hRM b b0 (by omega))) (DRc.of hDm (show u_69.1 135 13 = S124.1 135 13 from (fu_69 135 (p1_no (tau_ne (rfl : tau 135 = .inl 2) (dic_t hod) (fun h => by cases h)))).1 13) (show u_69.1 135 14 = S124.1 135 14 from (fu_69 135 (p1_no (tau_ne (rfl : tau 135 = .inl 2) (dic_t hod) (fun h => by cases h)))).1 14) (show u_69.1 135 15 = S124.1 135 15 from (fu_69 135 (p1_no (tau_ne (rfl : tau 135 = .inl 2) (dic_t hod) (fun h => by cases h)))).1 15) (show u_69.1 135 16 = S124.1 135 16 from (fu_69 135 (p1_no (tau_ne (rfl : tau 135 = .inl 2) (dic_t hod) (fun h => by cases h)))).1 16) (show u_69.2.1 oc = S124.2.1 oc from funext fun x => (fu_69 oc (p1_no (neD hcd))).2.1 x) (funext fun x => (fu_69 138 (p1_no (ac_ne (rfl : acode 138 = 0) (dic_c hod) (by decide)))).2.1 x) (funext fun x => (fu_69 139 (p1_no (ac_ne (rfl : acode 139 = 0) (dic_c hod) (by decide)))).2.1 x)) hW hL (lv_sub hl [0, 1, 2] rfl)
                exact loop_124 (_ + 1) S89 0 _ _ _ (Nat.lt_succ_self _) hI89 hFm89 hL89_ Fr.rf (by omega) (by have e := hFL; rw [show i = d.2.2.2.2.1 + 1 by omega] at e; exact e) (fun b b0 b1 => absurd b1 (by omega)) hDl hW hL (lv_sub hl [0, 1, 2] rfl)
              · refine lv_iload_n hx hb dX2_pivot_97 rfl (lv_at hl 0 rfl) ?_
                refine lv_aload_n hx hb dX2_pivot_98 rfl (lv_at hl 2 rfl) ?_
                refine g_X2_147 Cx hW (k := 135) (by decide) rfl (v := S.1 135 17) (((hL89_ 135 rfl).1 17).trans (((fu_21 135 rfl).1 17).trans ((fu_17 135 rfl).1 17))) dX2_pivot_99 ?_
                refine r_icmp_eq (tgt := 116) hx hb ⟨(by omega), (by omega)⟩ ⟨(by omega), (by omega)⟩ dX2_pivot_102 (by decide) (fun c_74 => ?_) (fun c_74 => ?_)
                · refine lv_iinc (v := iv (i + 1)) (lv' := [(2, .int (iv (i + 1))), (1, .int (iv r_13)), (0, .ref (G.2.2.1 + 135))]) hx hb dX2_pivot_116 hl (k := 0) rfl ((Int32.ofInt_add _ _).symm) (by decide) rfl (fun ls hl => ?_)
                  refine lv_goto (tgt := 89) hx hb dX2_pivot_119 (by decide) ?_
                  exact ih_89 S89 (i + 1) _ _ _ (by omega) hI89 hFm89 hL89_ (by omega) (by omega) (FLc.st hFL (hd7 hI89 hod) (by omega) (by omega) (by omega) (fun y q => rfl) (fun q => absurd (by omega) q)) hDl hW hL (lv_sub hl [0, 1, 2] rfl)
                · refine lv_aload_n hx hb dX2_pivot_105 rfl (lv_at hl 2 rfl) ?_
                  refine lv_iload_n hx hb dX2_pivot_106 rfl (lv_at hl 0 rfl) ?_
                  refine lv_iload_n hx hb dX2_pivot_107 rfl (lv_at hl 1 rfl) ?_
                  have lk_75 : S89.1 135 17 = S.1 135 17 := ((hL89_ 135 rfl).1 17).trans (((fu_21 135 rfl).1 17).trans ((fu_17 135 rfl).1 17))
                  have lk_76 : S89.1 135 18 = S.1 135 18 := ((hL89_ 135 rfl).1 18).trans (((fu_21 135 rfl).1 18).trans ((fu_17 135 rfl).1 18))
                  have q_77 : 0 ≤ u_17.1 141 1 ∧ u_17.1 141 1 ≤ 32 := iu_17.fi 141 1 0 (by decide) rfl
                  have lk_78 : S89.1 141 1 = u_17.1 141 1 := ((hL89_ 141 rfl).1 1).trans ((fu_21 141 rfl).1 1)
                  have q_79 : 0 ≤ u_21.1 143 1 ∧ u_21.1 143 1 ≤ 32 := iu_21.fi 143 1 0 (by decide) rfl
                  have lk_80 : S89.1 143 1 = u_21.1 143 1 := (hL89_ 143 rfl).1 1
                  have q_81 : (-1) ≤ u_21.1 143 2 ∧ u_21.1 143 2 ≤ 1 := iu_21.fi 143 2 0 (by decide) rfl
                  have lk_82 : S89.1 143 2 = u_21.1 143 2 := (hL89_ 143 rfl).1 2
                  refine sBi (sV (As := [.int (iv i), .int (iv r_13)]) (rest := []) (k := 135) Cx (v_X2_pivotRow l G S89 (i := i) (tn := r_13) (oc := oc) (od := od) (n := n) (hw := hw) (d := d) (rr := rr) (ss := ss) hI89 ⟨hoc, hod, (neD hcd), ((((hL89_ 135 rfl).2.2.2 0).trans (((fu_21 135 rfl).2.2.2 0).trans ((fu_17 135 rfl).2.2.2 0))).trans hec), ((((hL89_ 135 rfl).2.2.2 1).trans (((fu_21 135 rfl).2.2.2 1).trans ((fu_17 135 rfl).2.2.2 1))).trans hed)⟩ hDl (by omega) (by omega) (by omega) (by omega) (by omega) (by omega) (by omega) (by omega) (by omega) (by omega) (by omega) (by omega) (show Hd (bs S89 141) from (bs_fr hL89_ rfl (bs_fr fu_21 rfl xu_17.2.2.2.2.2.2.2.2))) (show Hd (bs S89 143) from (bs_fr hL89_ rfl xu_21.2.2.2.1.2)) (show bv S89 141 = d.2.1 rr ss from (bv_fr hL89_ rfl rfl).trans ((bv_fr fu_21 rfl rfl).trans (hld1))) (show bv S89 143 = d.1 from (bv_fr hL89_ rfl rfl).trans (bv_24)) hex) (c_X2_184 Cx rfl rfl (rmk_ok (by omega) (by decide))) hW (by decide) rfl rfl rfl hl.1 rfl (Nat.le_of_ble_eq_true rfl) dX2_pivot_108 ⟨Nat.le_of_ble_eq_true rfl, Nat.le_of_ble_eq_true rfl⟩) hL (fun r_85 u_83 H locs k_84 hW hL => ?_)
                  obtain ⟨iu_83, fu_83, xu_83⟩ := k_84
                  have F_86 := hFm89.trans (fu_83.to pZ_Pv)
                  have F_87 := hL89_.trans fu_83
                  refine r_if_ne (tgt := 116) hx hb ⟨(by omega), (by omega)⟩ dX2_pivot_111 (by decide) (fun c_88 => ?_) (fun c_88 => ?_)
                  · refine lv_iinc (v := iv (i + 1)) (lv' := [(2, .int (iv (i + 1))), (1, .int (iv r_13)), (0, .ref (G.2.2.1 + 135))]) hx hb dX2_pivot_116 hl (k := 0) rfl ((Int32.ofInt_add _ _).symm) (by decide) rfl (fun ls hl => ?_)
                    refine lv_goto (tgt := 89) hx hb dX2_pivot_119 (by decide) ?_
                    exact ih_89 u_83 (i + 1) _ _ _ (by omega) iu_83 F_86 F_87 (by omega) (by omega) (FLc.st hFL (hd7 hI89 hod) (by omega) (by omega) (by omega) (fun y q => (xu_83.2.2.1 (by omega)).2 y (by omega)) (fun _ b b0 b1 => (xu_83.2.2.1 (by omega)).1 b b0 b1)) (DRc.of hDl (show u_83.1 135 13 = S89.1 135 13 from (fu_83 135 rfl).1 13) (show u_83.1 135 14 = S89.1 135 14 from (fu_83 135 rfl).1 14) (show u_83.1 135 15 = S89.1 135 15 from (fu_83 135 rfl).1 15) (show u_83.1 135 16 = S89.1 135 16 from (fu_83 135 rfl).1 16) xu_83.2.2.2.2 (funext fun x => (fu_83 138 rfl).2.1 x) (funext fun x => (fu_83 139 rfl).2.1 x)) hW hL (lv_sub hl [0, 1, 2] rfl)
                  · refine lv_iconst (v := iv 0) hx hb dX2_pivot_114 (by decide) ?_
                    have q_89 : 0 ≤ S.1 135 19 ∧ S.1 135 19 ≤ 102220 := hI.fi 135 19 2 (by decide) rfl
                    have lk_90 : u_83.1 135 19 = S.1 135 19 := ((fu_83 135 rfl).1 19).trans (((hL89_ 135 rfl).1 19).trans (((fu_21 135 rfl).1 19).trans ((fu_17 135 rfl).1 19)))
                    exact sZret Cx hr hlk hW hL (by omega) ⟨iu_83, F_86, ⟨by omega, by omega, (fun q => absurd q (by omega)), (fun _ => ⟨by obtain ⟨b, b0, b1, b2, b3⟩ := xu_83.2.2.2.1 (by omega); exact ⟨i, b, by omega, by omega, by omega, by omega, b2, b3⟩, ⟨hoc, hod, (neD hcd), ((((fu_83 135 rfl).2.2.2 0).trans (((hL89_ 135 rfl).2.2.2 0).trans (((fu_21 135 rfl).2.2.2 0).trans ((fu_17 135 rfl).2.2.2 0)))).trans hec), ((((fu_83 135 rfl).2.2.2 1).trans (((hL89_ 135 rfl).2.2.2 1).trans (((fu_21 135 rfl).2.2.2 1).trans ((fu_17 135 rfl).2.2.2 1)))).trans hed)⟩, (DRc.of hDl (show u_83.1 135 13 = S89.1 135 13 from (fu_83 135 rfl).1 13) (show u_83.1 135 14 = S89.1 135 14 from (fu_83 135 rfl).1 14) (show u_83.1 135 15 = S89.1 135 15 from (fu_83 135 rfl).1 15) (show u_83.1 135 16 = S89.1 135 16 from (fu_83 135 rfl).1 16) xu_83.2.2.2.2 (funext fun x => (fu_83 138 rfl).2.1 x) (funext fun x => (fu_83 139 rfl).2.1 x))⟩), (((fu_83 135 rfl).1 19).trans (((hL89_ 135 rfl).1 19).trans (((fu_21 135 rfl).1 19).trans ((fu_17 135 rfl).1 19))))⟩⟩ dX2_pivot_115
          exact loop_89 (_ + 1) u_21 i0 _ _ _ (Nat.lt_succ_self _) iu_21 F_23 Fr.rf (by omega) (by omega) (fun a b a0 a1 a2 a3 a4 b0 b1 => by exfalso; have := a3; omega) (DRc.of hDR (show u_21.1 135 13 = S.1 135 13 from ((fu_21 135 rfl).1 13).trans ((fu_17 135 rfl).1 13)) (show u_21.1 135 14 = S.1 135 14 from ((fu_21 135 rfl).1 14).trans ((fu_17 135 rfl).1 14)) (show u_21.1 135 15 = S.1 135 15 from ((fu_21 135 rfl).1 15).trans ((fu_17 135 rfl).1 15)) (show u_21.1 135 16 = S.1 135 16 from ((fu_21 135 rfl).1 16).trans ((fu_17 135 rfl).1 16)) (show u_21.2.1 oc = S.2.1 oc from funext fun x => ((fu_21 oc (pB_no (tau_ne (dic_t hoc) (rfl : tau 143 = .inl 0) (fun h => by cases h)) (ac_ne (dic_c hoc) (rfl : acode 144 = 1) (by decide)))).2.1 x).trans ((fu_17 oc (pB_no (tau_ne (dic_t hoc) (rfl : tau 141 = .inl 0) (fun h => by cases h)) (ac_ne (dic_c hoc) (rfl : acode 142 = 1) (by decide)))).2.1 x)) (funext fun x => ((fu_21 138 rfl).2.1 x).trans ((fu_17 138 rfl).2.1 x)) (funext fun x => ((fu_21 139 rfl).2.1 x).trans ((fu_17 139 rfl).2.1 x))) hW hL (lv_sub hl [0, 1, 2] rfl)
        refine lv_aload_n hx hb dX2_pivot_76 rfl (lv_at hl 1 rfl) ?_
        have q_91 : 0 ≤ S.1 135 16 ∧ S.1 135 16 ≤ 1 := hI.fi 135 16 2 (by decide) rfl
        refine g_X2_70 Cx hW (k := 135) (by decide) rfl (v := S.1 135 16) (((fu_21 135 rfl).1 16).trans ((fu_17 135 rfl).1 16)) dX2_pivot_77 ?_
        refine r_if_eq (tgt := 87) hx hb ⟨(by omega), (by omega)⟩ dX2_pivot_80 (by decide) (fun c_92 => ?_) (fun c_92 => ?_)
        · refine lv_iconst (v := iv 0) hx hb dX2_pivot_87 (by decide) ?_
          exact join_88 0 _ _ _ (by omega) (by omega) hW hL (lv_sub hl [0, 1] rfl)
        · refine lv_iconst (v := iv (-1)) hx hb dX2_pivot_83 (by decide) ?_
          refine lv_goto (tgt := 88) hx hb dX2_pivot_84 (by decide) ?_
          exact join_88 ((-1)) _ _ _ (by omega) (by omega) hW hL (lv_sub hl [0, 1] rfl)
      · refine lv_iconst (v := iv 0) hx hb dX2_pivot_31 (by decide) ?_
        have q_93 : 0 ≤ S.1 135 19 ∧ S.1 135 19 ≤ 102220 := hI.fi 135 19 2 (by decide) rfl
        exact sZret Cx hr hlk hW hL (by omega) ⟨hI, (Fr.rf : Fr S S pPv), (by exfalso; have hty0 := hpe; have hty := xu_7; rw [hrr, hss] at hty; omega)⟩ dX2_pivot_32

set_option maxRecDepth 100000 in
set_option maxHeartbeats 4000000 in
theorem v_X2_brokenRow (l : Launch) (G : sG) (S : sS) {oc od : Nat} {n hw : Int} {d : dT} {md : Nat} {wh : Int → Int} (hI : cX G S 0 0 0) (hdq : dcs G S oc od) (hDR : Hd (DRc S oc n hw d)) (hm2 : mdl md) (hDp : 0 < d.1) (hxi : Hd (dIx n hw d)) (hmn : S.1 md 2 = n) (hwh : Hd (∀ k, 1 ≤ k → k ≤ n → S.2.1 (md + 2) k = wh k)) : Met l yX2_brokenRow (.code yX2_brokenRow cX2_brokenRow 4 (some .int) :: tb) (rmk 5 0 0) (sPc G 294 S [.ref (G.2.2.1 + 135), .ref (G.2.2.1 + md)]) (sQi G 294 (fun r u => cX G u 0 0 0 ∧ Fr S u pBk ∧ (0 ≤ r ∧ r ≤ 40 ∧ Hd (r = bRk n wh d) ∧ Hd (DRc u oc n hw d)))) 0 0 (sF G) := by
  refine sEnter (by decide) (Nat.le_of_ble_eq_true rfl) ?_
  intro p e s m args below meth c Cx hr hlk hnm hW ls hl
  have Cx : sC G p m c cX2_brokenRow 4 s args RX2 := Cx
  obtain ⟨hx, hb, hml, hown, hts⟩ := id Cx.1
  have hL : sL G [] := sL_nil
  have hl : lv_has ls 4 [(0, .ref (G.2.2.1 + 135)), (1, .ref (G.2.2.1 + md))] := hl
  have hW0 := hW
  obtain ⟨hoc, hod, hcd, hec, hed⟩ := id hdq
  have hd13 := hDR.2.2.2.2.1; have hd14 := hDR.2.2.2.2.2.1; have hd15 := hDR.2.2.2.2.2.2.1; have hd16 := hDR.2.2.2.2.2.2.2; have hm40 : 0 ≤ S.1 135 14 ∧ S.1 135 14 ≤ 40 := hI.fi 135 14 2 (by decide) rfl; have hp13 : 0 ≤ S.1 135 15 ∧ S.1 135 15 ≤ 13 := hI.fi 135 15 2 (by decide) rfl
  have hn12 : 0 ≤ S.1 135 13 ∧ S.1 135 13 ≤ 12 := hI.fi 135 13 2 (by decide) rfl
  refine lv_aload_n hx hb dX2_brokenRow_0 rfl (lv_at hl 0 rfl) ?_
  refine lv_aload_n hx hb dX2_brokenRow_1 rfl (lv_at hl 0 rfl) ?_
  refine g_X2_35 Cx hW (k := 135) (by decide) rfl (v := .ref (G.2.2.1 + 143)) (rf_135_6 hI) dX2_brokenRow_2 ?_
  refine sBv (sV (As := [.ref (G.2.2.1 + 143)]) (rest := []) (k := 135) Cx (v_X2_denominator l G S (v := 143) (oc := oc) (od := od) (n := n) (hw := hw) (d := d) hI ⟨hoc, hod, (neD hcd), hec, hed⟩ hDR rfl) (c_X2_121 Cx rfl rfl (rmk_ok (by omega) (by decide))) hW (by decide) rfl rfl rfl hl.1 rfl (Nat.le_of_ble_eq_true rfl) dX2_brokenRow_5 ⟨Nat.le_of_ble_eq_true rfl, Nat.le_of_ble_eq_true rfl⟩) hL (fun u_1 H locs k_2 hW hL => ?_)
  obtain ⟨iu_1, fu_1, xu_1⟩ := k_2
  have F_3 := (Fr.rf : Fr S S pBk).trans (fu_1.to (pB_sub rfl rfl))
  have bv_4 : bv u_1 143 = d.1 := xu_1.2.2.2.1.1
  refine lv_iconst (v := iv 1) hx hb dX2_brokenRow_8 (by decide) ?_
  refine lv_istore_n (lv' := [(2, .int (iv 1)), (0, .ref (G.2.2.1 + 135)), (1, .ref (G.2.2.1 + md))]) hx hb dX2_brokenRow_9 rfl hl (by decide) rfl (fun ls hl => ?_)
  have loop_10 : ∀ (fuel : Nat) (S10 : sS) (k : Int) (H : Heap) (locs : List Loc) (ls : Array Slot), (13 - k).toNat < fuel → (cX G S10 0 0 0) → (Fr S S10 pBk) → (Fr u_1 S10 pBk) → (1 ≤ k ∧ k ≤ n + 1) → (S10.1 143 1 ≤ 30) → (0 < S10.1 143 2) → (Hd (bs S10 143)) → (bv S10 143 = d.1) → (Hd (DRc S10 oc n hw d)) → (Hd (∀ v, 1 ≤ v → v < k → wh v = 1 → ∀ l, 1 ≤ l → l ≤ d.2.2.2.2.1 → d.2.2.1 l = v → d.2.1 l 0 % d.1 = 0)) → sW G 294 S10 H → sL G locs → lv_has ls 4 [(2, .int (iv k)), (0, .ref (G.2.2.1 + 135)), (1, .ref (G.2.2.1 + md))] → W p l e (rmk 5 0 0) s m args below meth c H locs 0 0 (MQ below (sQi G 294 (fun r u => cX G u 0 0 0 ∧ Fr S u pBk ∧ (0 ≤ r ∧ r ≤ 40 ∧ Hd (r = bRk n wh d) ∧ Hd (DRc u oc n hw d)))) args s 0 0 (sF G)) (F0 m 10 ls []) := by
    intro fuel
    induction fuel with
    | zero => intro S10 k H locs ls hmeas hI10 hFm10 hL10_ hk hd6 hd2 hbl hvl hDl hbr hW hL hl; exact absurd hmeas (Nat.not_lt_zero _)
    | succ fuel ih_10 =>
      intro S10 k H locs ls hmeas hI10 hFm10 hL10_ hk hd6 hd2 hbl hvl hDl hbr hW hL hl
      have hDl14 := hDl.2.2.2.2.2.1; have hDl15 := hDl.2.2.2.2.2.2.1; have hDl13 := hDl.2.2.2.2.1
      refine lv_iload_n hx hb dX2_brokenRow_10 rfl (lv_at hl 0 rfl) ?_
      refine lv_aload_n hx hb dX2_brokenRow_11 rfl (lv_at hl 1 rfl) ?_
      have q_5 : 0 ≤ S.1 135 13 ∧ S.1 135 13 ≤ 12 := hI.fi 135 13 2 (by decide) rfl
      refine g_X2_62 Cx hW (k := 135) (by decide) rfl (v := S.1 135 13) (((hL10_ 135 rfl).1 13).trans ((fu_1 135 rfl).1 13)) dX2_brokenRow_12 ?_
      refine r_icmp_gt (tgt := 93) hx hb ⟨(by omega), (by omega)⟩ ⟨(by omega), (by omega)⟩ dX2_brokenRow_15 (by decide) (fun c_6 => ?_) (fun c_6 => ?_)
      · refine lv_iconst (v := iv 0) hx hb dX2_brokenRow_93 (by decide) ?_
        exact sIret Cx hr hlk hW hL ⟨hI10, hFm10, ⟨by omega, by omega, (show (0 : Int) = bRk n wh d from (bRk_z (fun v v0 v1 vw => hbr v v0 (by omega) vw)).symm), hDl⟩⟩ dX2_brokenRow_94
      · refine lv_aload_n hx hb dX2_brokenRow_18 rfl (lv_at hl 2 rfl) ?_
        refine lv_iload_n hx hb dX2_brokenRow_19 rfl (lv_at hl 0 rfl) ?_
        have q_7 : 0 ≤ S.1 md 2 ∧ S.1 md 2 ≤ 12 := hI.fi md 2 3 (mdl_k hm2) hm2.1
        have lk_8 : S10.1 md 2 = S.1 md 2 := ((hL10_ md (mo_pBk hm2).1).1 2).trans ((fu_1 md (pB_no (tau_ne hm2.1 (rfl : tau 143 = .inl 0) (fun h => by cases h)) (tau_ne hm2.1 (rfl : tau 144 = .inr (.int, 32)) (fun h => by cases h)))).1 2)
        refine sBi (sV (As := [.int (iv k)]) (rest := []) (k := md) Cx (b_X3_isWhole l G S10 (o := md) (j := k) hI10 hm2 (by omega)) (c_X2_137 Cx rfl rfl (rmk_ok (by omega) (by decide))) hW (mdl_l hm2) hm2.1 rfl rfl hl.1 rfl (Nat.le_of_ble_eq_true rfl) dX2_brokenRow_20 ⟨Nat.le_of_ble_eq_true rfl, Nat.le_of_ble_eq_true rfl⟩) hL (fun r_11 u_9 H locs k_10 hW hL => ?_)
        obtain ⟨eu_9, xu_9⟩ := k_10
        rw [eu_9] at hW
        refine r_if_eq (tgt := 34) hx hb ⟨(by omega), (by omega)⟩ dX2_brokenRow_23 (by decide) (fun c_12 => ?_) (fun c_12 => ?_)
        · refine lv_iconst (v := iv (-1)) hx hb dX2_brokenRow_34 (by decide) ?_
          refine lv_istore_n (lv' := [(3, .int (iv ((-1)))), (2, .int (iv k)), (0, .ref (G.2.2.1 + 135)), (1, .ref (G.2.2.1 + md))]) hx hb dX2_brokenRow_35 rfl hl (by decide) rfl (fun ls hl => ?_)
          refine lv_iload_n hx hb dX2_brokenRow_36 rfl (lv_at hl 0 rfl) ?_
          refine r_if_le (tgt := 87) hx hb ⟨(by omega), (by omega)⟩ dX2_brokenRow_37 (by decide) (fun _ => ?_) (fun c => absurd (by omega) c)
          refine lv_iinc (v := iv (k + 1)) (lv' := [(2, .int (iv (k + 1))), (3, .int (iv ((-1)))), (0, .ref (G.2.2.1 + 135)), (1, .ref (G.2.2.1 + md))]) hx hb dX2_brokenRow_87 hl (k := 1) rfl ((Int32.ofInt_add _ _).symm) (by decide) rfl (fun ls hl => ?_)
          refine lv_goto (tgt := 10) hx hb dX2_brokenRow_90 (by decide) ?_
          have q_13 : 0 ≤ S10.1 143 1 ∧ S10.1 143 1 ≤ 32 := hI10.fi 143 1 0 (by decide) rfl
          have q_14 : (-1) ≤ S10.1 143 2 ∧ S10.1 143 2 ≤ 1 := hI10.fi 143 2 0 (by decide) rfl
          exact ih_10 S10 (k + 1) _ _ _ (by omega) hI10 hFm10 hL10_ (by omega) (by omega) (by omega) (show Hd (bs S10 143) from hbl) (show bv S10 143 = d.1 from hvl) hDl (fun v v0 v1 vw l l0 l1 lv => by by_cases q : v = k; (have q2 := q.symm; subst q2; have hw0 := xu_9.2.2.2; have hwk := hwh k (by omega) (by omega); rw [(show S10.2.1 (md + 2) k = S.2.1 (md + 2) k from ((hL10_ (md + 2) (mo_pBk hm2).2.2).2.1 k).trans ((fu_1 (md + 2) (pB_no (tau_ne hm2.2.2.1 (rfl : tau 143 = .inl 0) (fun h => by cases h)) (tau_ne hm2.2.2.1 (rfl : tau 144 = .inr (.int, 32)) (fun h => by cases h)))).2.1 k))] at hw0; exfalso; have : _ := hw0.mpr ⟨by omega, by omega, by omega⟩; omega); exact hbr v v0 (by omega) vw l l0 l1 lv) hW hL (lv_sub hl [0, 2, 3] rfl)
        · refine lv_aload_n hx hb dX2_brokenRow_26 rfl (lv_at hl 1 rfl) ?_
          refine lv_iload_n hx hb dX2_brokenRow_27 rfl (lv_at hl 0 rfl) ?_
          refine sBi (sV (As := [.int (iv k)]) (rest := []) (k := 135) Cx (v_X2_rowOf l G S10 (k := k) (oc := oc) (od := od) (n := n) (hw := hw) (d := d) hI10 ⟨hoc, hod, (neD hcd), ((((hL10_ 135 rfl).2.2.2 0).trans ((fu_1 135 rfl).2.2.2 0)).trans hec), ((((hL10_ 135 rfl).2.2.2 1).trans ((fu_1 135 rfl).2.2.2 1)).trans hed)⟩ hDl (by omega)) (c_X2_128 Cx rfl rfl (rmk_ok (by omega) (by decide))) hW (by decide) rfl rfl rfl hl.1 rfl (Nat.le_of_ble_eq_true rfl) dX2_brokenRow_28 ⟨Nat.le_of_ble_eq_true rfl, Nat.le_of_ble_eq_true rfl⟩) hL (fun r_17 u_15 H locs k_16 hW hL => ?_)
          obtain ⟨eu_15, xu_15⟩ := k_16
          rw [eu_15] at hW
          refine lv_goto (tgt := 35) hx hb dX2_brokenRow_31 (by decide) ?_
          refine lv_istore_n (lv' := [(3, .int (iv r_17)), (2, .int (iv k)), (0, .ref (G.2.2.1 + 135)), (1, .ref (G.2.2.1 + md))]) hx hb dX2_brokenRow_35 rfl hl (by decide) rfl (fun ls hl => ?_)
          refine lv_iload_n hx hb dX2_brokenRow_36 rfl (lv_at hl 0 rfl) ?_
          refine r_if_le (tgt := 87) hx hb ⟨(by omega), (by omega)⟩ dX2_brokenRow_37 (by decide) (fun c_18 => ?_) (fun c_18 => ?_)
          · refine lv_iinc (v := iv (k + 1)) (lv' := [(2, .int (iv (k + 1))), (3, .int (iv r_17)), (0, .ref (G.2.2.1 + 135)), (1, .ref (G.2.2.1 + md))]) hx hb dX2_brokenRow_87 hl (k := 1) rfl ((Int32.ofInt_add _ _).symm) (by decide) rfl (fun ls hl => ?_)
            refine lv_goto (tgt := 10) hx hb dX2_brokenRow_90 (by decide) ?_
            have q_19 : 0 ≤ S10.1 143 1 ∧ S10.1 143 1 ≤ 32 := hI10.fi 143 1 0 (by decide) rfl
            have q_20 : (-1) ≤ S10.1 143 2 ∧ S10.1 143 2 ≤ 1 := hI10.fi 143 2 0 (by decide) rfl
            exact ih_10 S10 (k + 1) _ _ _ (by omega) hI10 hFm10 hL10_ (by omega) (by omega) (by omega) (show Hd (bs S10 143) from hbl) (show bv S10 143 = d.1 from hvl) hDl (fun v v0 v1 vw l l0 l1 lv => by by_cases q : v = k; (have q2 := q.symm; subst q2; have e := xu_15.2.2.2.2 (by omega); exact absurd lv (pick_0 _ e l l0 (by omega))); exact hbr v v0 (by omega) vw l l0 l1 lv) hW hL (lv_sub hl [0, 2, 3] rfl)
          · refine lv_aload_n hx hb dX2_brokenRow_40 rfl (lv_at hl 2 rfl) ?_
            refine g_X2_38 Cx hW (k := 135) (by decide) rfl (v := .ref (G.2.2.1 + 145)) (rf_135_7 hI10) dX2_brokenRow_41 ?_
            refine lv_aload_n hx hb dX2_brokenRow_44 rfl (lv_at hl 2 rfl) ?_
            refine g_X2_13 Cx hW (k := 135) (by decide) rfl (v := .ref (G.2.2.1 + oc)) ((((hL10_ 135 rfl).2.2.2 0).trans ((fu_1 135 rfl).2.2.2 0)).trans hec) dX2_brokenRow_45 ?_
            refine lv_iload_n hx hb dX2_brokenRow_48 rfl (lv_at hl 0 rfl) ?_
            refine lv_iconst (v := iv 0) hx hb dX2_brokenRow_49 (by decide) ?_
            refine sBi (sSt (As := [.int (iv r_17), .int (iv 0)]) (rest := [.ref (G.2.2.1 + oc), .ref (G.2.2.1 + 145)]) Cx (s_X2_at l G S10 (i := r_17) (j := 0) (by omega) (by omega)) (c_X2_77 Cx rfl rfl (rmk_ok (by omega) (by decide))) hW rfl hl.1 rfl (Nat.le_of_ble_eq_true rfl) dX2_brokenRow_50 ⟨Nat.le_of_ble_eq_true rfl, Nat.le_of_ble_eq_true rfl⟩) hL (fun r_23 u_21 H locs k_22 hW hL => ?_)
            obtain ⟨eu_21, xu_21⟩ := k_22
            rw [eu_21] at hW
            refine sBv (sV (As := [.ref (G.2.2.1 + oc), .int (iv r_23)]) (rest := []) (k := 145) Cx (b_X0_load l G S10 (o := 145) (k := oc) (a := r_23) (N := 4816) hI10 rfl (dic_a hoc) (by omega)) (c_X2_106 Cx rfl rfl (rmk_ok (by omega) (by decide))) hW (by decide) rfl rfl rfl hl.1 rfl (Nat.le_of_ble_eq_true rfl) dX2_brokenRow_53 ⟨Nat.le_of_ble_eq_true rfl, Nat.le_of_ble_eq_true rfl⟩) hL (fun u_24 H locs k_25 hW hL => ?_)
            obtain ⟨iu_24, fu_24, xu_24⟩ := k_25
            have F_26 := hFm10.trans (fu_24.to (pB_sub rfl rfl))
            have F_27 := hL10_.trans (fu_24.to (pB_sub rfl rfl))
            have yu_24 : u_24.1 145 1 ≤ 6 := by have e := xu_24.1; rw [dic_L hoc] at e; exact e
            have bv_28 : bv u_24 145 = nv (S10.2.1 oc) r_23 := xu_24.2.2.2.2.2.2.2.1
            refine lv_aload_n hx hb dX2_brokenRow_56 rfl (lv_at hl 2 rfl) ?_
            refine g_X2_38 Cx hW (k := 135) (by decide) rfl (v := .ref (G.2.2.1 + 145)) (rf_135_7 iu_24) dX2_brokenRow_57 ?_
            refine lv_aload_n hx hb dX2_brokenRow_60 rfl (lv_at hl 2 rfl) ?_
            refine g_X2_35 Cx hW (k := 135) (by decide) rfl (v := .ref (G.2.2.1 + 143)) (rf_135_6 iu_24) dX2_brokenRow_61 ?_
            refine lv_aload_n hx hb dX2_brokenRow_64 rfl (lv_at hl 2 rfl) ?_
            refine g_X2_50 Cx hW (k := 135) (by decide) rfl (v := .ref (G.2.2.1 + 153)) (rf_135_11 iu_24) dX2_brokenRow_65 ?_
            refine lv_aload_n hx hb dX2_brokenRow_68 rfl (lv_at hl 2 rfl) ?_
            refine g_X2_53 Cx hW (k := 135) (by decide) rfl (v := .ref (G.2.2.1 + 155)) (rf_135_12 iu_24) dX2_brokenRow_69 ?_
            have q_29 : 0 ≤ u_24.1 145 1 ∧ u_24.1 145 1 ≤ 32 := iu_24.fi 145 1 0 (by decide) rfl
            have q_30 : 0 ≤ S10.1 143 1 ∧ S10.1 143 1 ≤ 32 := hI10.fi 143 1 0 (by decide) rfl
            have lk_31 : u_24.1 143 1 = S10.1 143 1 := (fu_24 143 rfl).1 1
            have q_32 : (-1) ≤ u_24.1 145 2 ∧ u_24.1 145 2 ≤ 1 := iu_24.fi 145 2 0 (by decide) rfl
            have q_33 : (-1) ≤ S10.1 143 2 ∧ S10.1 143 2 ≤ 1 := hI10.fi 143 2 0 (by decide) rfl
            have lk_34 : u_24.1 143 2 = S10.1 143 2 := (fu_24 143 rfl).1 2
            refine sBv (sV (As := [.ref (G.2.2.1 + 143), .ref (G.2.2.1 + 153), .ref (G.2.2.1 + 155)]) (rest := []) (k := 145) Cx (b_X0_divide l G u_24 (o := 145) (b := 143) (q := 153) (h := 155) (n := 6) iu_24 rfl rfl rfl rfl (show (145 : Nat) ≠ 143 by decide) (show (145 : Nat) ≠ 153 by decide) (show (145 : Nat) ≠ 155 by decide) (show (143 : Nat) ≠ 153 by decide) (show (143 : Nat) ≠ 155 by decide) (show (153 : Nat) ≠ 155 by decide) (show Hd (bs u_24 145) from xu_24.2.2.2.2.2.2.2.2) (show Hd (bs u_24 143) from (bs_fr fu_24 rfl hbl)) (by omega)) (c_X2_141 Cx rfl rfl (rmk_ok (by omega) (by decide))) hW (by decide) rfl rfl rfl hl.1 rfl (Nat.le_of_ble_eq_true rfl) dX2_brokenRow_72 ⟨Nat.le_of_ble_eq_true rfl, Nat.le_of_ble_eq_true rfl⟩) hL (fun u_35 H locs k_36 hW hL => ?_)
            obtain ⟨iu_35, fu_35, xu_35⟩ := k_36
            have F_37 := F_26.trans (fu_35.to (pD_sub (pB_sub rfl rfl) (pB_sub rfl rfl) (pB_sub rfl rfl)))
            have F_38 := F_27.trans (fu_35.to (pD_sub (pB_sub rfl rfl) (pB_sub rfl rfl) (pB_sub rfl rfl)))
            have bv_39 : bv u_35 153 = (nv (S10.2.1 oc) r_23) / d.1 := (by have e : bv u_35 153 = _ := (xu_35.2.2.2.2.2.2.1 (by omega)).1; rw [(show bv u_24 145 = nv (S10.2.1 oc) r_23 from bv_28), (show bv u_24 143 = d.1 from (bv_fr fu_24 rfl rfl).trans (hvl))] at e; exact e)
            have bv_40 : bv u_35 145 = (nv (S10.2.1 oc) r_23) % d.1 := (by have e : bv u_35 145 = _ := (xu_35.2.2.2.2.2.2.1 (by omega)).2; rw [(show bv u_24 145 = nv (S10.2.1 oc) r_23 from bv_28), (show bv u_24 143 = d.1 from (bv_fr fu_24 rfl rfl).trans (hvl))] at e; exact e)
            refine lv_aload_n hx hb dX2_brokenRow_75 rfl (lv_at hl 2 rfl) ?_
            refine g_X2_38 Cx hW (k := 135) (by decide) rfl (v := .ref (G.2.2.1 + 145)) (rf_135_7 iu_35) dX2_brokenRow_76 ?_
            have q_41 : (-1) ≤ u_35.1 145 2 ∧ u_35.1 145 2 ≤ 1 := iu_35.fi 145 2 0 (by decide) rfl
            refine g_X2_145 Cx hW (k := 145) (by decide) rfl (v := u_35.1 145 2) rfl dX2_brokenRow_79 ?_
            refine r_if_eq (tgt := 87) hx hb ⟨(by omega), (by omega)⟩ dX2_brokenRow_82 (by decide) (fun c_42 => ?_) (fun c_42 => ?_)
            · refine lv_iinc (v := iv (k + 1)) (lv' := [(2, .int (iv (k + 1))), (3, .int (iv r_17)), (0, .ref (G.2.2.1 + 135)), (1, .ref (G.2.2.1 + md))]) hx hb dX2_brokenRow_87 hl (k := 1) rfl ((Int32.ofInt_add _ _).symm) (by decide) rfl (fun ls hl => ?_)
              refine lv_goto (tgt := 10) hx hb dX2_brokenRow_90 (by decide) ?_
              have lk_43 : u_35.1 143 1 = S10.1 143 1 := ((fu_35 143 rfl).1 1).trans ((fu_24 143 rfl).1 1)
              have lk_44 : u_35.1 143 2 = S10.1 143 2 := ((fu_35 143 rfl).1 2).trans ((fu_24 143 rfl).1 2)
              exact ih_10 u_35 (k + 1) _ _ _ (by omega) iu_35 F_37 F_38 (by omega) (by omega) (by omega) (show Hd (bs u_35 143) from (bs_fr fu_35 rfl (bs_fr fu_24 rfl hbl))) (show bv u_35 143 = d.1 from (bv_fr fu_35 rfl rfl).trans ((bv_fr fu_24 rfl rfl).trans (hvl))) (DRc.of hDl (show u_35.1 135 13 = S10.1 135 13 from ((fu_35 135 rfl).1 13).trans ((fu_24 135 rfl).1 13)) (show u_35.1 135 14 = S10.1 135 14 from ((fu_35 135 rfl).1 14).trans ((fu_24 135 rfl).1 14)) (show u_35.1 135 15 = S10.1 135 15 from ((fu_35 135 rfl).1 15).trans ((fu_24 135 rfl).1 15)) (show u_35.1 135 16 = S10.1 135 16 from ((fu_35 135 rfl).1 16).trans ((fu_24 135 rfl).1 16)) (show u_35.2.1 oc = S10.2.1 oc from funext fun x => ((fu_35 oc (pD_no (pB_no (tau_ne (dic_t hoc) (rfl : tau 145 = .inl 0) (fun h => by cases h)) (ac_ne (dic_c hoc) (rfl : acode 146 = 1) (by decide))) (pB_no (tau_ne (dic_t hoc) (rfl : tau 153 = .inl 0) (fun h => by cases h)) (ac_ne (dic_c hoc) (rfl : acode 154 = 1) (by decide))) (pB_no (tau_ne (dic_t hoc) (rfl : tau 155 = .inl 0) (fun h => by cases h)) (ac_ne (dic_c hoc) (rfl : acode 156 = 1) (by decide))))).2.1 x).trans ((fu_24 oc (pB_no (tau_ne (dic_t hoc) (rfl : tau 145 = .inl 0) (fun h => by cases h)) (ac_ne (dic_c hoc) (rfl : acode 146 = 1) (by decide)))).2.1 x)) (show u_35.2.1 138 = S10.2.1 138 from funext fun x => ((fu_35 138 rfl).2.1 x).trans ((fu_24 138 rfl).2.1 x)) (show u_35.2.1 139 = S10.2.1 139 from funext fun x => ((fu_35 139 rfl).2.1 x).trans ((fu_24 139 rfl).2.1 x))) (fun v v0 v1 vw l l0 l1 lv => by by_cases q : v = k; (have q2 := q.symm; subst q2; have hrm : bv u_35 145 = d.2.1 r_17 0 % d.1 := (by rw [(show bv u_35 145 = (nv (S10.2.1 oc) r_23) % d.1 from bv_40)]; congr 1; exact (show nv (S10.2.1 oc) r_23 = _ by rw [show r_23 = (r_17 + 2) * 112 + 0 * 8 by omega]; exact hDl.2.1 _ 0 (by omega) (by omega) (by omega) (by omega) (by omega))); have hr0 := bv_0 iu_35 (o := 145) rfl (show Hd (bs u_35 145) from xu_35.2.2.2.2.2.2.2.2); rw [hrm] at hr0; have e := xu_15.2.2.2.1 (by omega); have el : l = r_17 := (by rw [e, ← lv]; exact (rOf_u hxi ⟨l0, l1⟩).symm); rw [el]; exact hr0.mp (by omega)); exact hbr v v0 (by omega) vw l l0 l1 lv) hW hL (lv_sub hl [0, 2, 3] rfl)
            · refine lv_iload_n hx hb dX2_brokenRow_85 rfl (lv_at hl 0 rfl) ?_
              exact sIret Cx hr hlk hW hL ⟨iu_35, F_37, (by have hrm : bv u_35 145 = d.2.1 r_17 0 % d.1 := (by rw [(show bv u_35 145 = (nv (S10.2.1 oc) r_23) % d.1 from bv_40)]; congr 1; exact (show nv (S10.2.1 oc) r_23 = _ by rw [show r_23 = (r_17 + 2) * 112 + 0 * 8 by omega]; exact hDl.2.1 _ 0 (by omega) (by omega) (by omega) (by omega) (by omega))); have hr0 := bv_0 iu_35 (o := 145) rfl (show Hd (bs u_35 145) from xu_35.2.2.2.2.2.2.2.2); rw [hrm] at hr0; have hw0 := xu_9.2.2.2; have hwk := hwh k (by omega) (by omega); rw [(show S10.2.1 (md + 2) k = S.2.1 (md + 2) k from ((hL10_ (md + 2) (mo_pBk hm2).2.2).2.1 k).trans ((fu_1 (md + 2) (pB_no (tau_ne hm2.2.2.1 (rfl : tau 143 = .inl 0) (fun h => by cases h)) (tau_ne hm2.2.2.1 (rfl : tau 144 = .inr (.int, 32)) (fun h => by cases h)))).2.1 k))] at hw0; have hw1 := hw0.mp (by omega); have e := xu_15.2.2.2.1 (by omega); have ne : rOf d k ≠ 0 := (by omega); have ri := rOf_i ne (by omega); rw [← e] at ri; exact ⟨by omega, by omega, (bRk_e hxi ri.1 ri.2 (by omega) (by omega) (fun z => absurd (hr0.mpr z) (by omega)) hbr).symm, (DRc.of hDl (show u_35.1 135 13 = S10.1 135 13 from ((fu_35 135 rfl).1 13).trans ((fu_24 135 rfl).1 13)) (show u_35.1 135 14 = S10.1 135 14 from ((fu_35 135 rfl).1 14).trans ((fu_24 135 rfl).1 14)) (show u_35.1 135 15 = S10.1 135 15 from ((fu_35 135 rfl).1 15).trans ((fu_24 135 rfl).1 15)) (show u_35.1 135 16 = S10.1 135 16 from ((fu_35 135 rfl).1 16).trans ((fu_24 135 rfl).1 16)) (show u_35.2.1 oc = S10.2.1 oc from funext fun x => ((fu_35 oc (pD_no (pB_no (tau_ne (dic_t hoc) (rfl : tau 145 = .inl 0) (fun h => by cases h)) (ac_ne (dic_c hoc) (rfl : acode 146 = 1) (by decide))) (pB_no (tau_ne (dic_t hoc) (rfl : tau 153 = .inl 0) (fun h => by cases h)) (ac_ne (dic_c hoc) (rfl : acode 154 = 1) (by decide))) (pB_no (tau_ne (dic_t hoc) (rfl : tau 155 = .inl 0) (fun h => by cases h)) (ac_ne (dic_c hoc) (rfl : acode 156 = 1) (by decide))))).2.1 x).trans ((fu_24 oc (pB_no (tau_ne (dic_t hoc) (rfl : tau 145 = .inl 0) (fun h => by cases h)) (ac_ne (dic_c hoc) (rfl : acode 146 = 1) (by decide)))).2.1 x)) (funext fun x => ((fu_35 138 rfl).2.1 x).trans ((fu_24 138 rfl).2.1 x)) (funext fun x => ((fu_35 139 rfl).2.1 x).trans ((fu_24 139 rfl).2.1 x)))⟩)⟩ dX2_brokenRow_86
  have q_45 : 0 ≤ u_1.1 143 1 ∧ u_1.1 143 1 ≤ 32 := iu_1.fi 143 1 0 (by decide) rfl
  have q_46 : (-1) ≤ u_1.1 143 2 ∧ u_1.1 143 2 ≤ 1 := iu_1.fi 143 2 0 (by decide) rfl
  exact loop_10 (_ + 1) u_1 1 _ _ _ (Nat.lt_succ_self _) iu_1 F_3 Fr.rf (by omega) (by omega) (by omega) (show Hd (bs u_1 143) from xu_1.2.2.2.1.2) (show bv u_1 143 = d.1 from bv_4) (DRc.of hDR (show u_1.1 135 13 = S.1 135 13 from (fu_1 135 rfl).1 13) (show u_1.1 135 14 = S.1 135 14 from (fu_1 135 rfl).1 14) (show u_1.1 135 15 = S.1 135 15 from (fu_1 135 rfl).1 15) (show u_1.1 135 16 = S.1 135 16 from (fu_1 135 rfl).1 16) (show u_1.2.1 oc = S.2.1 oc from funext fun x => (fu_1 oc (pB_no (tau_ne (dic_t hoc) (rfl : tau 143 = .inl 0) (fun h => by cases h)) (ac_ne (dic_c hoc) (rfl : acode 144 = 1) (by decide)))).2.1 x) (show u_1.2.1 138 = S.2.1 138 from funext fun x => (fu_1 138 rfl).2.1 x) (show u_1.2.1 139 = S.2.1 139 from funext fun x => (fu_1 139 rfl).2.1 x)) (fun v v0 v1 => absurd v1 (by omega)) hW hL (lv_sub hl [0, 1, 2] rfl)
