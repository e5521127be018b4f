/-! The reference's pivots: TOO BIG, and the machine's own -/
theorem NO.big {f : Int → Int} {p L : Int} (h : NO f p L) (hz : 6 < al f p) : bgN (nv f p) := by
  have g := h.nug (by omega)
  have q : pw 6 ≤ pw (al f p - 1).toNat := pw_le (by omega)
  have a := nv_abs h
  unfold bgN
  rcases (by omega : 0 ≤ nv f p ∨ nv f p ≤ 0) with z | z
  · have := a.1 z; omega
  · have := a.2 z; omega
theorem asn_g {tn x y : Int} (h : 0 ≤ tn ∧ tn ≤ 1) (hp : (tn = 1 → y < 0) ∧ (tn = 0 → 0 < y)) : asn tn x = sgi y * x := by
  unfold asn sgi
  rcases (by omega : tn = 0 ∨ tn = 1) with q | q
  · have := hp.2 q; rw [if_pos q, if_pos (by omega), Int.one_mul]
  · have := hp.1 q; rw [if_neg (by omega), if_neg (by omega)]; omega
theorem rI_i {i r : Int} (hi : -1 ≤ i) (hr : 1 ≤ r) : rI i = r + 1 ↔ i = r := by
  unfold rI
  by_cases a : i = -1
  · rw [if_pos a]; omega
  · rw [if_neg a]
    by_cases b : i = 0
    · rw [if_pos b]; omega
    · rw [if_neg b]; omega
theorem rI_r {i m : Int} (hi : -1 ≤ i ∧ i ≤ m) (hm : 0 ≤ m) : 0 ≤ rI i ∧ rI i ≤ m + 1 ∧ (rI i = 1 ↔ i = -1) := by
  unfold rI
  by_cases a : i = -1
  · rw [if_pos a]; omega
  · rw [if_neg a]
    by_cases b : i = 0
    · rw [if_pos b]; omega
    · rw [if_neg b]; omega
section EC
variable {S u : sS} {hw r s tn n : Int} {d : dT}
theorem DRr.pv (h : DRr S hw d) (hD : 0 < d.1) (hr : 1 ≤ r ∧ r ≤ d.2.2.2.2.1) (hs : 1 ≤ s ∧ s ≤ d.2.2.2.2.2) (htn : 0 ≤ tn ∧ tn ≤ 1) (hpn : (tn = 1 → TV S (r + 1) s < 0) ∧ (tn = 0 → 0 < TV S (r + 1) s)) (p : PV S u r s tn) (e58 : u.1 231 58 = S.1 231 58) (e59 : u.1 231 59 = S.1 231 59) (e60 : u.1 231 60 = S.1 231 60) : DRr u hw (pvD d r s) := by
  have T : ∀ i j, -1 ≤ i → i ≤ d.2.2.2.2.1 → (i = -1 → hw = 1) → 0 ≤ j → j ≤ d.2.2.2.2.2 → TV S (rI i) j = d.2.1 i j := h.2.1
  have Trs : ∀ j, 0 ≤ j → j ≤ d.2.2.2.2.2 → TV S (r + 1) j = d.2.1 r j := fun j a b => by rw [← rI_p hr.1]; exact T r j (by omega) hr.2 (by omega) a b
  have tp := Trs s (by omega) hs.2
  rw [tp] at hpn
  have g : ∀ x, asn tn x = sgi (d.2.1 r s) * x := fun x => asn_g htn hpn
  obtain ⟨pD, pC, p5, p6⟩ := p
  refine ⟨?_, fun i j i0 i1 iw j0 j1 => ?_, fun i i0 i1 => ?_, fun j j0 j1 => ?_, e58.trans h.2.2.2.2.1, e59.trans h.2.2.2.2.2.1, e60.trans h.2.2.2.2.2.2⟩
  · show nv (u.2.1 264) 0 = sgi (d.2.1 r s) * d.2.1 r s
    rw [pD, tp, g]
  · have i1 : i ≤ d.2.2.2.2.1 := i1
    have j1 : j ≤ d.2.2.2.2.2 := j1
    have m0 : 0 ≤ d.2.2.2.2.1 := by omega
    have ri := rI_r ⟨i0, i1⟩ m0
    have m58 := h.2.2.2.2.1
    have p59 := h.2.2.2.2.2.1
    have w60 := h.2.2.2.2.2.2
    have c := pC (rI i) j ri.1 (by omega) (fun q => by rw [w60]; exact iw (ri.2.2.mp q)) j0 (by omega)
    show TV u (rI i) j = pvT d r s i j
    unfold pvT
    by_cases e : i = r
    · have er : rI i = r + 1 := (rI_i i0 hr.1).mpr e
      rw [if_pos e]
      by_cases z : j = s
      · rw [if_pos z, c.1 ⟨er, z⟩, h.1, g]
      · rw [if_neg z, c.2.1 ⟨er, z⟩, g, T i j i0 i1 iw j0 j1, e]
    · have er : rI i ≠ r + 1 := fun q => e ((rI_i i0 hr.1).mp q)
      rw [if_neg e]
      by_cases z : j = s
      · rw [if_pos z, c.2.2.1 ⟨er, z⟩, g, T i j i0 i1 iw j0 j1, z]
      · obtain ⟨Q, R, h1, h2, h3, h4⟩ := c.2.2.2 ⟨er, z⟩
        rw [if_neg z, h1, g]
        rw [T i j i0 i1 iw j0 j1, T i s i0 i1 iw (by omega) hs.2, tp, Trs j j0 j1, h.1] at h2
        rw [h.1] at h4
        rw [(ediv_u (a := d.2.1 i j * d.2.1 r s - d.2.1 i s * d.2.1 r j) (b := d.1) (q := Q) (r := R) (by rw [h2, Int.mul_comm]) h3 h4).1]
  · rw [p5]
    show _ = (if i = r then d.2.2.2.1 s else d.2.2.1 i)
    split
    · exact h.2.2.2.1 s hs.1 hs.2
    · exact h.2.2.1 i i0 i1
  · rw [p6]
    show _ = (if j = s then d.2.2.1 r else d.2.2.2.1 j)
    split
    · exact h.2.2.1 r hr.1 hr.2
    · exact h.2.2.2.1 j j0 j1
theorem DRr.big (h : DRr S hw d) (hr : 1 ≤ r ∧ r ≤ d.2.2.2.2.1) (hs : 1 ≤ s ∧ s ≤ d.2.2.2.2.2) (b : ∃ a b, (0 ≤ a ∧ a ≤ S.1 231 58 + 1) ∧ (a = 1 → S.1 231 60 = 1) ∧ (0 ≤ b ∧ b ≤ S.1 231 59) ∧ a ≠ r + 1 ∧ b ≠ s ∧ bgN ((TV S a b * TV S (r + 1) s - TV S a s * TV S (r + 1) b) / nv (S.2.1 264) 0)) : bgx hw d r s := by
  obtain ⟨a, b, a0, aw, b0, ar, bs_, hb⟩ := b
  have m58 := h.2.2.2.2.1
  have p59 := h.2.2.2.2.2.1
  have w60 := h.2.2.2.2.2.2
  obtain ⟨i, ei, i0, i1, iw⟩ : ∃ i, rI i = a ∧ -1 ≤ i ∧ i ≤ d.2.2.2.2.1 ∧ (i = -1 → hw = 1) := by
    rcases (by omega : a = 0 ∨ a = 1 ∨ 2 ≤ a) with q | q | q
    · exact ⟨0, by rw [q]; rfl, by omega, by omega, fun z => absurd z (by decide)⟩
    · exact ⟨-1, by rw [q]; rfl, by omega, by omega, fun _ => by rw [← w60]; exact aw q⟩
    · exact ⟨a - 1, by rw [rI_p (by omega)]; omega, by omega, by omega, fun z => by omega⟩
  have T := h.2.1
  have Tr : ∀ j, 0 ≤ j → j ≤ d.2.2.2.2.2 → TV S (r + 1) j = d.2.1 r j := fun j x y => by rw [← rI_p hr.1]; exact T r j (by omega) hr.2 (by omega) x y
  refine ⟨i, b, ⟨i0, i1⟩, iw, by omega, fun z => ar (by rw [← ei]; exact (rI_i i0 hr.1).mpr z), bs_, ?_⟩
  rw [pvT_o (fun z => ar (by rw [← ei]; exact (rI_i i0 hr.1).mpr z)) bs_, bgN_sg (sgi_1 _)]
  rw [← ei, T i b i0 i1 iw b0.1 (by omega), T i s i0 i1 iw (by omega) hs.2, Tr s (by omega) hs.2, Tr b b0.1 (by omega), h.1] at hb
  exact hb
theorem DRr.nb (h : DRr u hw (pvD d r s)) (hD : DOK u) : ¬ bgx hw d r s := fun ⟨i, j, i0, iw, j0, _, _, hb⟩ => by
  have m0 : 0 ≤ d.2.2.2.2.1 := by have := hD.1; have e := h.2.2.2.2.1; have e2 : u.1 231 58 = d.2.2.2.2.1 := e; omega
  have e := h.2.1 i j i0.1 i0.2 iw j0.1 j0.2
  have e : TV u (rI i) j = pvT d r s i j := e
  have ri := rI_r i0 m0
  have m58 : u.1 231 58 = d.2.2.2.2.1 := h.2.2.2.2.1
  have p59 : u.1 231 59 = d.2.2.2.2.2 := h.2.2.2.2.2.1
  have w60 := h.2.2.2.2.2.2
  have no := hD.2.1 (rI i) j ri.1 (by omega) (fun q => by rw [w60]; exact iw (ri.2.2.mp q)) j0.1 (by omega)
  have b := NO.bd (n := 6) no
  unfold TV at e
  rw [e] at b
  unfold bgN at hb
  omega
end EC
set_option maxRecDepth 100000 in
set_option maxHeartbeats 4000000 in
theorem r_X12_across (l : Launch) (G : sG) (S : sS) {ii jj rr ss pp qq tn : Int} (hI : dX G S) (hij : (0 ≤ ii ∧ ii ≤ 42) ∧ (0 ≤ jj ∧ jj ≤ 14) ∧ (0 ≤ rr ∧ rr ≤ 41) ∧ 0 ≤ ss ∧ ss ≤ 14) (hppr : 0 ≤ pp ∧ pp + 6 < 5280) (hqqr : 0 ≤ qq ∧ qq + 6 < 5280) (htn : 0 ≤ tn ∧ tn ≤ 1) (hNq : NO (S.2.1 262) qq 6) (hNp : NO (S.2.1 262) pp 6) (hNis : NO (S.2.1 262) (8 * (15 * ii + ss)) 6) (hNrj : NO (S.2.1 262) (8 * (15 * (rr + 1) + jj)) 6) (hDn : NO (S.2.1 264) 0 6) (hDp : 0 < nv (S.2.1 264) 0) : Met l yX12_across (.code yX12_across cX12_across 8 (some .boolean) :: tb) (rmk 6 0 0) (sPc G 294 S [.ref (G.2.2.1 + 231), .int (iv ii), .int (iv jj), .int (iv rr), .int (iv ss), .int (iv pp), .int (iv qq), .int (iv tn)]) (sQi G 294 (fun r u => dX G u ∧ Fr S u (pl [233, 234, 235, 237, 238, 239, 240, 263]) ∧ FF S u (fl []) ∧ ((0 ≤ r ∧ r ≤ 1) ∧ Hd (r = 1 → NO (u.2.1 263) qq 6 ∧ ∃ Q R, nv (u.2.1 263) qq = asn tn Q ∧ nv (S.2.1 262) qq * nv (S.2.1 262) pp - nv (S.2.1 262) (8 * (15 * ii + ss)) * nv (S.2.1 262) (8 * (15 * (rr + 1) + jj)) = nv (S.2.1 264) 0 * Q + R ∧ 0 ≤ R ∧ R < nv (S.2.1 264) 0) ∧ (∀ x, x < qq ∨ qq + 6 < x → u.2.1 263 x = S.2.1 263 x) ∧ Hd (r = 0 → bgN ((nv (S.2.1 262) qq * nv (S.2.1 262) pp - nv (S.2.1 262) (8 * (15 * ii + ss)) * nv (S.2.1 262) (8 * (15 * (rr + 1) + jj))) / nv (S.2.1 264) 0))))) 0 0 (sF G) := by
  refine sEnter (by decide) (Nat.le_of_ble_eq_true rfl) ?_
  intro p e s m args below meth c Cx hr hlk hnm hW ls hl
  have Cx : sC G p m c cX12_across 8 s args RX12 := Cx
  obtain ⟨hx, hb, hml, hown, hts⟩ := id Cx.1
  have hL : sL G [] := sL_nil
  have hl : lv_has ls 8 [(0, .ref (G.2.2.1 + 231)), (1, .int (iv ii)), (2, .int (iv jj)), (3, .int (iv rr)), (4, .int (iv ss)), (5, .int (iv pp)), (6, .int (iv qq)), (7, .int (iv tn))] := hl
  have hW0 := hW
  have hDs := hDn.sgn
  refine lv_aload_n hx hb dX12_across_0 rfl (lv_at hl 0 rfl) ?_
  refine g_X12_103 Cx hW (k := 231) (by decide) rfl (v := .ref (G.2.2.1 + 262)) (rd_53 hI) dX12_across_1 ?_
  refine lv_iload hx hb dX12_across_4 (lv_at hl 6 rfl) ?_
  refine lv_aload_n hx hb dX12_across_6 rfl (lv_at hl 0 rfl) ?_
  refine g_X12_103 Cx hW (k := 231) (by decide) rfl (v := .ref (G.2.2.1 + 262)) (rd_53 hI) dX12_across_7 ?_
  refine lv_iload hx hb dX12_across_10 (lv_at hl 5 rfl) ?_
  refine lv_aload_n hx hb dX12_across_12 rfl (lv_at hl 0 rfl) ?_
  refine g_X12_26 Cx hW (k := 231) (by decide) rfl (v := .ref (G.2.2.1 + 237)) (rd_7 hI) dX12_across_13 ?_
  refine lv_iconst (v := iv 0) hx hb dX12_across_16 (by decide) ?_
  refine sBv (sSt (As := [.ref (G.2.2.1 + 262), .int (iv qq), .ref (G.2.2.1 + 262), .int (iv pp), .ref (G.2.2.1 + 237), .int (iv 0)]) (rest := []) Cx (s_X12_multiply l G S (ka := 262) (po := qq) (kb := 262) (qo := pp) (kc := 237) (ro := 0) (Nka := 5280) (Nkb := 5280) (Nkc := 68) (La := 6) (Lb := 6) hI ⟨rfl, by decide, by decide, by decide, rfl⟩ ⟨rfl, by decide, by decide, by decide, rfl⟩ ⟨rfl, by decide, by decide, by decide, rfl⟩ (show (237 : Nat) ≠ 262 by decide) (show (237 : Nat) ≠ 262 by decide) (by omega) hNq hNp) (c_X12_548 Cx rfl rfl (rmk_ok (by omega) (by decide))) hW rfl hl.1 rfl (Nat.le_of_ble_eq_true rfl) dX12_across_17 ⟨Nat.le_of_ble_eq_true rfl, Nat.le_of_ble_eq_true rfl⟩) hL (fun u_1 H locs k_2 hW hL => ?_)
  obtain ⟨iu_1, fu_1, xu_1⟩ := k_2
  have F_3 := (Fr.rf : Fr S S (pl [233, 234, 235, 237, 238, 239, 240, 263])).trans (fu_1.to (p1_sub rfl))
  have g_4 : FF S u_1 (fl []) := FF.fr FF.rf fu_1 rfl
  refine lv_aload_n hx hb dX12_across_20 rfl (lv_at hl 0 rfl) ?_
  refine g_X12_103 Cx hW (k := 231) (by decide) rfl (v := .ref (G.2.2.1 + 262)) (rd_53 iu_1) dX12_across_21 ?_
  refine lv_aload_n hx hb dX12_across_24 rfl (lv_at hl 0 rfl) ?_
  refine lv_iload_n hx hb dX12_across_25 rfl (lv_at hl 1 rfl) ?_
  refine lv_iload hx hb dX12_across_26 (lv_at hl 4 rfl) ?_
  refine sBi (sV (As := [.int (iv ii), .int (iv ss)]) (rest := [.ref (G.2.2.1 + 262)]) (k := 231) Cx (s_X12_cell l G u_1 (i := ii) (j := ss) (by omega) (by omega)) (c_X12_529 Cx rfl rfl (rmk_ok (by omega) (by decide))) hW (by decide) rfl rfl rfl hl.1 rfl (Nat.le_of_ble_eq_true rfl) dX12_across_28 ⟨Nat.le_of_ble_eq_true rfl, Nat.le_of_ble_eq_true rfl⟩) hL (fun cis u_5 H locs k_6 hW hL => ?_)
  obtain ⟨eu_5, xu_5⟩ := k_6
  rw [eu_5] at hW
  refine lv_aload_n hx hb dX12_across_31 rfl (lv_at hl 0 rfl) ?_
  refine g_X12_103 Cx hW (k := 231) (by decide) rfl (v := .ref (G.2.2.1 + 262)) (rd_53 iu_1) dX12_across_32 ?_
  refine lv_aload_n hx hb dX12_across_35 rfl (lv_at hl 0 rfl) ?_
  refine lv_iload_n hx hb dX12_across_36 rfl (lv_at hl 3 rfl) ?_
  refine lv_iconst (v := iv 1) hx hb dX12_across_37 (by decide) ?_
  refine r_iadd hx hb dX12_across_38 ?_
  refine lv_iload_n hx hb dX12_across_39 rfl (lv_at hl 2 rfl) ?_
  refine sBi (sV (As := [.int (iv (rr + 1)), .int (iv jj)]) (rest := [.ref (G.2.2.1 + 262), .int (iv cis), .ref (G.2.2.1 + 262)]) (k := 231) Cx (s_X12_cell l G u_1 (i := rr + 1) (j := jj) (by omega) (by omega)) (c_X12_529 Cx rfl rfl (rmk_ok (by omega) (by decide))) hW (by decide) rfl rfl rfl hl.1 rfl (Nat.le_of_ble_eq_true rfl) dX12_across_40 ⟨Nat.le_of_ble_eq_true rfl, Nat.le_of_ble_eq_true rfl⟩) hL (fun crj u_7 H locs k_8 hW hL => ?_)
  obtain ⟨eu_7, xu_7⟩ := k_8
  rw [eu_7] at hW
  refine lv_aload_n hx hb dX12_across_43 rfl (lv_at hl 0 rfl) ?_
  refine g_X12_29 Cx hW (k := 231) (by decide) rfl (v := .ref (G.2.2.1 + 238)) (rd_8 iu_1) dX12_across_44 ?_
  refine lv_iconst (v := iv 0) hx hb dX12_across_47 (by decide) ?_
  have e_is : nv (S.2.1 262) cis = nv (S.2.1 262) (8 * (15 * ii + ss)) := congrArg (nv (S.2.1 262)) (by omega)
  have e_rj : nv (S.2.1 262) crj = nv (S.2.1 262) (8 * (15 * (rr + 1) + jj)) := congrArg (nv (S.2.1 262)) (by omega)
  refine sBv (sSt (As := [.ref (G.2.2.1 + 262), .int (iv cis), .ref (G.2.2.1 + 262), .int (iv crj), .ref (G.2.2.1 + 238), .int (iv 0)]) (rest := []) Cx (s_X12_multiply l G u_1 (ka := 262) (po := cis) (kb := 262) (qo := crj) (kc := 238) (ro := 0) (Nka := 5280) (Nkb := 5280) (Nkc := 68) (La := 6) (Lb := 6) iu_1 ⟨rfl, by decide, by decide, by decide, rfl⟩ ⟨rfl, by decide, by decide, by decide, rfl⟩ ⟨rfl, by decide, by decide, by decide, rfl⟩ (show (238 : Nat) ≠ 262 by decide) (show (238 : Nat) ≠ 262 by decide) (by omega) (by rw [show u_1.2.1 262 = S.2.1 262 from (funext fun j => (fu_1 262 rfl).2.1 j : u_1.2.1 262 = S.2.1 262), show cis = (8 * (15 * ii + ss)) by omega]; exact hNis) (by rw [show u_1.2.1 262 = S.2.1 262 from (funext fun j => (fu_1 262 rfl).2.1 j : u_1.2.1 262 = S.2.1 262), show crj = (8 * (15 * (rr + 1) + jj)) by omega]; exact hNrj)) (c_X12_548 Cx rfl rfl (rmk_ok (by omega) (by decide))) hW rfl hl.1 rfl (Nat.le_of_ble_eq_true rfl) dX12_across_48 ⟨Nat.le_of_ble_eq_true rfl, Nat.le_of_ble_eq_true rfl⟩) hL (fun u_9 H locs k_10 hW hL => ?_)
  obtain ⟨iu_9, fu_9, xu_9⟩ := k_10
  have F_11 := F_3.trans (fu_9.to (p1_sub rfl))
  have g_12 : FF S u_9 (fl []) := FF.fr g_4 fu_9 rfl
  refine lv_aload_n hx hb dX12_across_51 rfl (lv_at hl 0 rfl) ?_
  refine g_X12_26 Cx hW (k := 231) (by decide) rfl (v := .ref (G.2.2.1 + 237)) (rd_7 iu_9) dX12_across_52 ?_
  refine lv_iconst (v := iv 0) hx hb dX12_across_55 (by decide) ?_
  refine lv_aload_n hx hb dX12_across_56 rfl (lv_at hl 0 rfl) ?_
  refine g_X12_29 Cx hW (k := 231) (by decide) rfl (v := .ref (G.2.2.1 + 238)) (rd_8 iu_9) dX12_across_57 ?_
  refine lv_iconst (v := iv 0) hx hb dX12_across_60 (by decide) ?_
  refine lv_iconst (v := iv 1) hx hb dX12_across_61 (by decide) ?_
  refine lv_aload_n hx hb dX12_across_62 rfl (lv_at hl 0 rfl) ?_
  refine g_X12_26 Cx hW (k := 231) (by decide) rfl (v := .ref (G.2.2.1 + 237)) (rd_7 iu_9) dX12_across_63 ?_
  refine lv_iconst (v := iv 0) hx hb dX12_across_66 (by decide) ?_
  refine sBv (sSt (As := [.ref (G.2.2.1 + 237), .int (iv 0), .ref (G.2.2.1 + 238), .int (iv 0), .int (iv 1), .ref (G.2.2.1 + 237), .int (iv 0)]) (rest := []) Cx (s_X12_add l G u_9 (ka := 237) (po := 0) (kb := 238) (qo := 0) (lz := 1) (kc := 237) (ro := 0) (Nka := 68) (Nkb := 68) (Nkc := 68) (La := 12) (Lb := 12) (Lc := 13) iu_9 ⟨rfl, by decide, by decide, by decide, rfl⟩ ⟨rfl, by decide, by decide, by decide, rfl⟩ ⟨rfl, by decide, by decide, by decide, rfl⟩ (show (237 : Nat) ≠ 238 by decide) (fun _ => rfl) (by omega) (by omega) (by rw [show u_9.2.1 237 = u_1.2.1 237 from (funext fun j => (fu_9 237 rfl).2.1 j : u_9.2.1 237 = u_1.2.1 237)]; exact xu_1.1) xu_9.1) (c_X12_249 Cx rfl rfl (rmk_ok (by omega) (by decide))) hW rfl hl.1 rfl (Nat.le_of_ble_eq_true rfl) dX12_across_67 ⟨Nat.le_of_ble_eq_true rfl, Nat.le_of_ble_eq_true rfl⟩) hL (fun u_13 H locs k_14 hW hL => ?_)
  obtain ⟨iu_13, fu_13, xu_13⟩ := k_14
  have F_15 := F_11.trans (fu_13.to (p1_sub rfl))
  have g_16 : FF S u_13 (fl []) := FF.fr g_12 fu_13 rfl
  refine lv_aload_n hx hb dX12_across_70 rfl (lv_at hl 0 rfl) ?_
  refine lv_aload_n hx hb dX12_across_71 rfl (lv_at hl 0 rfl) ?_
  refine g_X12_26 Cx hW (k := 231) (by decide) rfl (v := .ref (G.2.2.1 + 237)) (rd_7 iu_13) dX12_across_72 ?_
  refine lv_iconst (v := iv 0) hx hb dX12_across_75 (by decide) ?_
  refine lv_aload_n hx hb dX12_across_76 rfl (lv_at hl 0 rfl) ?_
  refine g_X12_109 Cx hW (k := 231) (by decide) rfl (v := .ref (G.2.2.1 + 264)) (rd_55 iu_13) dX12_across_77 ?_
  refine lv_iconst (v := iv 0) hx hb dX12_across_80 (by decide) ?_
  refine lv_aload_n hx hb dX12_across_81 rfl (lv_at hl 0 rfl) ?_
  refine g_X12_32 Cx hW (k := 231) (by decide) rfl (v := .ref (G.2.2.1 + 239)) (rd_9 iu_13) dX12_across_82 ?_
  refine lv_iconst (v := iv 0) hx hb dX12_across_85 (by decide) ?_
  refine lv_aload_n hx hb dX12_across_86 rfl (lv_at hl 0 rfl) ?_
  refine g_X12_35 Cx hW (k := 231) (by decide) rfl (v := .ref (G.2.2.1 + 240)) (rd_10 iu_13) dX12_across_87 ?_
  refine lv_iconst (v := iv 0) hx hb dX12_across_90 (by decide) ?_
  have hbp2 : 0 < u_13.2.1 264 0 := by rw [show u_13.2.1 264 = S.2.1 264 from (funext fun j => ((fu_13 264 rfl).2.1 j).trans (((fu_9 264 rfl).2.1 j).trans ((fu_1 264 rfl).2.1 j)) : u_13.2.1 264 = S.2.1 264)]; omega
  refine sBv (sV (As := [.ref (G.2.2.1 + 237), .int (iv 0), .ref (G.2.2.1 + 264), .int (iv 0), .ref (G.2.2.1 + 239), .int (iv 0), .ref (G.2.2.1 + 240), .int (iv 0)]) (rest := []) (k := 231) Cx (s_X12_divide l G u_13 (ka := 237) (po := 0) (kb := 264) (qo := 0) (kc := 239) (ro := 0) (kd := 240) (eo := 0) (Nka := 68) (Nkb := 8) (Nkc := 68) (Nkd := 68) (La := 13) (Lb := 6) (Ld := 7) iu_13 ⟨rfl, by decide, by decide, by decide, rfl⟩ ⟨rfl, by decide, by decide, by decide, rfl⟩ ⟨rfl, by decide, by decide, by decide, rfl⟩ ⟨rfl, by decide, by decide, by decide, rfl⟩ (show (239 : Nat) ≠ 237 by decide) (show (240 : Nat) ≠ 237 by decide) (show (239 : Nat) ≠ 264 by decide) (show (240 : Nat) ≠ 264 by decide) (show (239 : Nat) ≠ 240 by decide) (show (237 : Nat) ≠ 233 by decide) (show (264 : Nat) ≠ 233 by decide) (show (264 : Nat) ≠ 234 by decide) (show (264 : Nat) ≠ 235 by decide) (show (239 : Nat) ≠ 233 by decide) (show (239 : Nat) ≠ 234 by decide) (show (239 : Nat) ≠ 235 by decide) (show (240 : Nat) ≠ 233 by decide) (show (240 : Nat) ≠ 234 by decide) (show (240 : Nat) ≠ 235 by decide) (by omega) (by omega) xu_13.1 (by rw [show u_13.2.1 264 = S.2.1 264 from (funext fun j => ((fu_13 264 rfl).2.1 j).trans (((fu_9 264 rfl).2.1 j).trans ((fu_1 264 rfl).2.1 j)) : u_13.2.1 264 = S.2.1 264)]; exact hDn)) (c_X12_266 Cx rfl rfl (rmk_ok (by omega) (by decide))) hW (by decide) rfl rfl rfl hl.1 rfl (Nat.le_of_ble_eq_true rfl) dX12_across_91 ⟨Nat.le_of_ble_eq_true rfl, Nat.le_of_ble_eq_true rfl⟩) hL (fun u_17 H locs k_18 hW hL => ?_)
  obtain ⟨iu_17, fu_17, xu_17⟩ := k_18
  have F_19 := F_15.trans (fu_17.to (pl_sub (by decide)))
  have g_20 : FF S u_17 (fl []) := FF.fr g_16 fu_17 rfl
  refine lv_aload_n hx hb dX12_across_94 rfl (lv_at hl 0 rfl) ?_
  refine g_X12_32 Cx hW (k := 231) (by decide) rfl (v := .ref (G.2.2.1 + 239)) (rd_9 iu_17) dX12_across_95 ?_
  refine lv_iconst (v := iv 0) hx hb dX12_across_98 (by decide) ?_
  have hdb := xu_17.1.b
  refine sBi (sSt (As := [.ref (G.2.2.1 + 239), .int (iv 0)]) (rest := []) Cx (s_X12_limbs l G u_17 (ka := 239) (po := 0) (Nka := 68) iu_17 ⟨rfl, by decide, by decide, by decide, rfl⟩ (by omega) (by omega)) (c_X12_221 Cx rfl rfl (rmk_ok (by omega) (by decide))) hW rfl hl.1 rfl (Nat.le_of_ble_eq_true rfl) dX12_across_99 ⟨Nat.le_of_ble_eq_true rfl, Nat.le_of_ble_eq_true rfl⟩) hL (fun n u_21 H locs k_22 hW hL => ?_)
  obtain ⟨eu_21, xu_21⟩ := k_22
  rw [eu_21] at hW
  refine lv_bipush (v := iv 6) hx hb dX12_across_102 (by decide) ?_
  refine r_icmp_le (tgt := 109) hx hb ⟨(by omega), (by omega)⟩ ⟨(by omega), (by omega)⟩ dX12_across_104 (by decide) (fun c_23 => ?_) (fun c_23 => ?_)
  · refine lv_aload_n hx hb dX12_across_109 rfl (lv_at hl 0 rfl) ?_
    refine g_X12_32 Cx hW (k := 231) (by decide) rfl (v := .ref (G.2.2.1 + 239)) (rd_9 iu_17) dX12_across_110 ?_
    refine lv_iconst (v := iv 0) hx hb dX12_across_113 (by decide) ?_
    refine lv_aload_n hx hb dX12_across_114 rfl (lv_at hl 0 rfl) ?_
    refine g_X12_106 Cx hW (k := 231) (by decide) rfl (v := .ref (G.2.2.1 + 263)) (rd_54 iu_17) dX12_across_115 ?_
    refine lv_iload hx hb dX12_across_118 (lv_at hl 6 rfl) ?_
    refine sBv (sSt (As := [.ref (G.2.2.1 + 239), .int (iv 0), .ref (G.2.2.1 + 263), .int (iv qq)]) (rest := []) Cx (s_X12_copy l G u_17 (ka := 239) (po := 0) (kb := 263) (qo := qq) (Nka := 68) (Nkb := 5280) (La := 6) iu_17 ⟨rfl, by decide, by decide, by decide, rfl⟩ ⟨rfl, by decide, by decide, by decide, rfl⟩ (show (263 : Nat) ≠ 239 by decide) (by omega) ⟨(by omega), xu_17.1.2⟩) (c_X12_233 Cx rfl rfl (rmk_ok (by omega) (by decide))) hW rfl hl.1 rfl (Nat.le_of_ble_eq_true rfl) dX12_across_120 ⟨Nat.le_of_ble_eq_true rfl, Nat.le_of_ble_eq_true rfl⟩) hL (fun u_24 H locs k_25 hW hL => ?_)
    obtain ⟨iu_24, fu_24, xu_24⟩ := k_25
    have F_26 := F_19.trans (fu_24.to (p1_sub rfl))
    have g_27 : FF S u_24 (fl []) := FF.fr g_20 fu_24 rfl
    refine lv_iload hx hb dX12_across_123 (lv_at hl 7 rfl) ?_
    refine r_if_eq (tgt := 137) hx hb ⟨(by omega), (by omega)⟩ dX12_across_125 (by decide) (fun c_28 => ?_) (fun c_28 => ?_)
    · refine lv_iconst (v := iv 1) hx hb dX12_across_137 (by decide) ?_
      exact sZret Cx hr hlk hW hL (by omega) ⟨iu_24, F_26, g_27, ⟨(by omega), (fun _ => by have e1 : nv (u_13.2.1 237) 0 = nv (S.2.1 262) qq * nv (S.2.1 262) pp - nv (S.2.1 262) (8 * (15 * ii + ss)) * nv (S.2.1 262) (8 * (15 * (rr + 1) + jj)) := (by rw [xu_13.2.1, show u_9.2.1 237 = u_1.2.1 237 from (funext fun j => (fu_9 237 rfl).2.1 j : u_9.2.1 237 = u_1.2.1 237), xu_1.2.1, xu_9.2.1, show u_1.2.1 262 = S.2.1 262 from (funext fun j => (fu_1 262 rfl).2.1 j), asn_1, e_is, e_rj]; omega); have e2 := xu_17.2.2.1; rw [show u_13.2.1 264 = S.2.1 264 from (funext fun j => ((fu_13 264 rfl).2.1 j).trans (((fu_9 264 rfl).2.1 j).trans ((fu_1 264 rfl).2.1 j)) : u_13.2.1 264 = S.2.1 264), e1] at e2; exact ⟨xu_24.1.1, nv (u_17.2.1 239) 0, nv (u_17.2.1 240) 0, (by rw [xu_24.1.2.1, show tn = 0 by omega, asn_0]), e2.1, e2.2.1, e2.2.2⟩), (fun x a => by rw [xu_24.2 x (by omega)]; exact ((fu_17 263 rfl).2.1 x).trans (((fu_13 263 rfl).2.1 x).trans (((fu_9 263 rfl).2.1 x).trans ((fu_1 263 rfl).2.1 x)))), (fun q => absurd q (by omega))⟩⟩ dX12_across_138
    · refine lv_aload_n hx hb dX12_across_128 rfl (lv_at hl 0 rfl) ?_
      refine g_X12_106 Cx hW (k := 231) (by decide) rfl (v := .ref (G.2.2.1 + 263)) (rd_54 iu_24) dX12_across_129 ?_
      refine lv_iload hx hb dX12_across_132 (lv_at hl 6 rfl) ?_
      refine sBv (sSt (As := [.ref (G.2.2.1 + 263), .int (iv qq)]) (rest := []) Cx (s_X12_negate l G u_24 (ka := 263) (po := qq) (Nka := 5280) (La := 6) iu_24 ⟨rfl, by decide, by decide, by decide, rfl⟩ (by omega) xu_24.1.1) (c_X12_540 Cx rfl rfl (rmk_ok (by omega) (by decide))) hW rfl hl.1 rfl (Nat.le_of_ble_eq_true rfl) dX12_across_134 ⟨Nat.le_of_ble_eq_true rfl, Nat.le_of_ble_eq_true rfl⟩) hL (fun u_29 H locs k_30 hW hL => ?_)
      obtain ⟨iu_29, fu_29, xu_29⟩ := k_30
      have F_31 := F_26.trans (fu_29.to (p1_sub rfl))
      have g_32 : FF S u_29 (fl []) := FF.fr g_27 fu_29 rfl
      refine lv_iconst (v := iv 1) hx hb dX12_across_137 (by decide) ?_
      exact sZret Cx hr hlk hW hL (by omega) ⟨iu_29, F_31, g_32, ⟨(by omega), (fun _ => by have e1 : nv (u_13.2.1 237) 0 = nv (S.2.1 262) qq * nv (S.2.1 262) pp - nv (S.2.1 262) (8 * (15 * ii + ss)) * nv (S.2.1 262) (8 * (15 * (rr + 1) + jj)) := (by rw [xu_13.2.1, show u_9.2.1 237 = u_1.2.1 237 from (funext fun j => (fu_9 237 rfl).2.1 j : u_9.2.1 237 = u_1.2.1 237), xu_1.2.1, xu_9.2.1, show u_1.2.1 262 = S.2.1 262 from (funext fun j => (fu_1 262 rfl).2.1 j), asn_1, e_is, e_rj]; omega); have e2 := xu_17.2.2.1; rw [show u_13.2.1 264 = S.2.1 264 from (funext fun j => ((fu_13 264 rfl).2.1 j).trans (((fu_9 264 rfl).2.1 j).trans ((fu_1 264 rfl).2.1 j)) : u_13.2.1 264 = S.2.1 264), e1] at e2; exact ⟨xu_29.1, nv (u_17.2.1 239) 0, nv (u_17.2.1 240) 0, (by rw [xu_29.2.1, xu_24.1.2.1, show tn = 1 by omega, asn_1]), e2.1, e2.2.1, e2.2.2⟩), (fun x a => by rw [xu_29.2.2, uA_ne (fun q => by have := q.2; omega)]; rw [xu_24.2 x (by omega)]; exact ((fu_17 263 rfl).2.1 x).trans (((fu_13 263 rfl).2.1 x).trans (((fu_9 263 rfl).2.1 x).trans ((fu_1 263 rfl).2.1 x)))), (fun q => absurd q (by omega))⟩⟩ dX12_across_138
  · refine lv_iconst (v := iv 0) hx hb dX12_across_107 (by decide) ?_
    exact sZret Cx hr hlk hW hL (by omega) ⟨iu_17, F_19, g_20, ⟨(by omega), (fun q => absurd q (by omega)), (fun x a => ((fu_17 263 rfl).2.1 x).trans (((fu_13 263 rfl).2.1 x).trans (((fu_9 263 rfl).2.1 x).trans ((fu_1 263 rfl).2.1 x)))), (fun _ => by have e1 : nv (u_13.2.1 237) 0 = nv (S.2.1 262) qq * nv (S.2.1 262) pp - nv (S.2.1 262) (8 * (15 * ii + ss)) * nv (S.2.1 262) (8 * (15 * (rr + 1) + jj)) := (by rw [xu_13.2.1, show u_9.2.1 237 = u_1.2.1 237 from (funext fun j => (fu_9 237 rfl).2.1 j : u_9.2.1 237 = u_1.2.1 237), xu_1.2.1, xu_9.2.1, show u_1.2.1 262 = S.2.1 262 from (funext fun j => (fu_1 262 rfl).2.1 j), asn_1, e_is, e_rj]; omega); have e2 := xu_17.2.2.1; rw [show u_13.2.1 264 = S.2.1 264 from (funext fun j => ((fu_13 264 rfl).2.1 j).trans (((fu_9 264 rfl).2.1 j).trans ((fu_1 264 rfl).2.1 j)) : u_13.2.1 264 = S.2.1 264), e1] at e2; rw [← (ediv_u (a := nv (S.2.1 262) qq * nv (S.2.1 262) pp - nv (S.2.1 262) (8 * (15 * ii + ss)) * nv (S.2.1 262) (8 * (15 * (rr + 1) + jj))) (b := nv (S.2.1 264) 0) (q := nv (u_17.2.1 239) 0) (r := nv (u_17.2.1 240) 0) (by rw [e2.1, Int.mul_comm]) e2.2.1 e2.2.2).1]; exact NO.big xu_17.1 (by unfold al at *; omega))⟩⟩ dX12_across_108

set_option maxRecDepth 100000 in
set_option maxHeartbeats 4000000 in
theorem r_X12_pivot (l : Launch) (G : sG) (S : sS) {rr ss : Int} (hI : dX G S) (hD : DOK S) (hrs : (1 ≤ rr ∧ rr ≤ S.1 231 58) ∧ 1 ≤ ss ∧ ss ≤ S.1 231 59) (hpe : S.2.1 262 (8 * (15 * (rr + 1) + ss)) ≠ 0) : Met l yX12_pivot (.code yX12_pivot cX12_pivot 8 (some .boolean) :: tb) (rmk 7 0 0) (sPc G 294 S [.ref (G.2.2.1 + 231), .int (iv rr), .int (iv ss)]) (sQi G 294 (fun r u => dX G u ∧ Fr S u (pl [233, 234, 235, 237, 238, 239, 240, 262, 263, 264, 265, 266]) ∧ FF S u (fl []) ∧ ((0 ≤ r ∧ r ≤ 1) ∧ DOK u ∧ Hd (r = 1 → ∃ tn : Int, (0 ≤ tn ∧ tn ≤ 1) ∧ ((tn = 1 → TV S (rr + 1) ss < 0) ∧ (tn = 0 → 0 < TV S (rr + 1) ss)) ∧ PV S u rr ss tn) ∧ Hd (r = 0 → u.2.1 265 = S.2.1 265 ∧ u.2.1 266 = S.2.1 266) ∧ Hd (r = 0 → ∃ a b, (0 ≤ a ∧ a ≤ S.1 231 58 + 1) ∧ (a = 1 → S.1 231 60 = 1) ∧ (0 ≤ b ∧ b ≤ S.1 231 59) ∧ a ≠ rr + 1 ∧ b ≠ ss ∧ bgN ((TV S a b * TV S (rr + 1) ss - TV S a ss * TV S (rr + 1) b) / nv (S.2.1 264) 0))))) 0 0 (sF G) := by
  refine sEnter (by decide) (Nat.le_of_ble_eq_true rfl) ?_
  intro p e s m args below meth c Cx hr hlk hnm hW ls hl
  have Cx : sC G p m c cX12_pivot 8 s args RX12 := Cx
  obtain ⟨hx, hb, hml, hown, hts⟩ := id Cx.1
  have hL : sL G [] := sL_nil
  have hl : lv_has ls 8 [(0, .ref (G.2.2.1 + 231)), (1, .int (iv rr)), (2, .int (iv ss))] := hl
  have hW0 := hW
  have hd1 := hD.1
  have hNp0 := hD.at (i := rr + 1) (j := ss) (p := 8 * (15 * (rr + 1) + ss)) (by omega) (by omega) (by omega) rfl
  have hps0 := hNp0.sgn
  refine lv_aload_n hx hb dX12_pivot_0 rfl (lv_at hl 0 rfl) ?_
  refine lv_iload_n hx hb dX12_pivot_1 rfl (lv_at hl 1 rfl) ?_
  refine lv_iconst (v := iv 1) hx hb dX12_pivot_2 (by decide) ?_
  refine r_iadd hx hb dX12_pivot_3 ?_
  refine lv_iload_n hx hb dX12_pivot_4 rfl (lv_at hl 2 rfl) ?_
  refine sBi (sV (As := [.int (iv (rr + 1)), .int (iv ss)]) (rest := []) (k := 231) Cx (s_X12_cell l G S (i := rr + 1) (j := ss) (by omega) (by omega)) (c_X12_529 Cx rfl rfl (rmk_ok (by omega) (by decide))) hW (by decide) rfl rfl rfl hl.1 rfl (Nat.le_of_ble_eq_true rfl) dX12_pivot_5 ⟨Nat.le_of_ble_eq_true rfl, Nat.le_of_ble_eq_true rfl⟩) hL (fun pp u_1 H locs k_2 hW hL => ?_)
  obtain ⟨eu_1, xu_1⟩ := k_2
  rw [eu_1] at hW
  refine lv_istore_n (lv' := [(3, .int (iv pp)), (0, .ref (G.2.2.1 + 231)), (1, .int (iv rr)), (2, .int (iv ss))]) hx hb dX12_pivot_8 rfl hl (by decide) rfl (fun ls hl => ?_)
  have join_23 : ∀ (tn : Int) (H : Heap) (locs : List Loc) (ls : Array Slot), (0 ≤ tn ∧ tn ≤ 1) → ((tn = 1 → TV S (rr + 1) ss < 0) ∧ (tn = 0 → 0 < TV S (rr + 1) ss)) → sW G 294 S H → sL G locs → lv_has ls 8 [(3, .int (iv pp)), (0, .ref (G.2.2.1 + 231)), (1, .int (iv rr)), (2, .int (iv ss))] → W p l e (rmk 7 0 0) s m args below meth c H locs 0 0 (MQ below (sQi G 294 (fun r u => dX G u ∧ Fr S u (pl [233, 234, 235, 237, 238, 239, 240, 262, 263, 264, 265, 266]) ∧ FF S u (fl []) ∧ ((0 ≤ r ∧ r ≤ 1) ∧ DOK u ∧ Hd (r = 1 → ∃ tn : Int, (0 ≤ tn ∧ tn ≤ 1) ∧ ((tn = 1 → TV S (rr + 1) ss < 0) ∧ (tn = 0 → 0 < TV S (rr + 1) ss)) ∧ PV S u rr ss tn) ∧ Hd (r = 0 → u.2.1 265 = S.2.1 265 ∧ u.2.1 266 = S.2.1 266) ∧ Hd (r = 0 → ∃ a b, (0 ≤ a ∧ a ≤ S.1 231 58 + 1) ∧ (a = 1 → S.1 231 60 = 1) ∧ (0 ≤ b ∧ b ≤ S.1 231 59) ∧ a ≠ rr + 1 ∧ b ≠ ss ∧ bgN ((TV S a b * TV S (rr + 1) ss - TV S a ss * TV S (rr + 1) b) / nv (S.2.1 264) 0))))) args s 0 0 (sF G)) (F0 m 23 ls [.int (iv tn)]) := by
    intro tn H locs ls htn hpn hW hL hl
    refine lv_istore (lv' := [(4, .int (iv tn)), (3, .int (iv pp)), (0, .ref (G.2.2.1 + 231)), (1, .int (iv rr)), (2, .int (iv ss))]) hx hb dX12_pivot_23 hl (by decide) rfl (fun ls hl => ?_)
    refine lv_iconst (v := iv 0) hx hb dX12_pivot_25 (by decide) ?_
    refine lv_istore (lv' := [(5, .int (iv 0)), (4, .int (iv tn)), (3, .int (iv pp)), (0, .ref (G.2.2.1 + 231)), (1, .int (iv rr)), (2, .int (iv ss))]) hx hb dX12_pivot_26 hl (by decide) rfl (fun ls hl => ?_)
    have loop_28 : ∀ (fuel : Nat) (S28 : sS) (i : Int) (H : Heap) (locs : List Loc) (ls : Array Slot), (S.1 231 58 + 2 - i).toNat < fuel → (dX G S28) → (Fr S S28 (pl [233, 234, 235, 237, 238, 239, 240, 262, 263, 264, 265, 266])) → (Fr S S28 (pl [233, 234, 235, 237, 238, 239, 240, 263])) → (FF S S28 (fl [])) → (FF S S28 (fl [])) → (0 ≤ i ∧ i ≤ S.1 231 58 + 2) → (FO S (S28.2.1 263) rr ss tn i 0) → sW G 294 S28 H → sL G locs → lv_has ls 8 [(5, .int (iv i)), (4, .int (iv tn)), (3, .int (iv pp)), (0, .ref (G.2.2.1 + 231)), (1, .int (iv rr)), (2, .int (iv ss))] → W p l e (rmk 7 0 0) s m args below meth c H locs 0 0 (MQ below (sQi G 294 (fun r u => dX G u ∧ Fr S u (pl [233, 234, 235, 237, 238, 239, 240, 262, 263, 264, 265, 266]) ∧ FF S u (fl []) ∧ ((0 ≤ r ∧ r ≤ 1) ∧ DOK u ∧ Hd (r = 1 → ∃ tn : Int, (0 ≤ tn ∧ tn ≤ 1) ∧ ((tn = 1 → TV S (rr + 1) ss < 0) ∧ (tn = 0 → 0 < TV S (rr + 1) ss)) ∧ PV S u rr ss tn) ∧ Hd (r = 0 → u.2.1 265 = S.2.1 265 ∧ u.2.1 266 = S.2.1 266) ∧ Hd (r = 0 → ∃ a b, (0 ≤ a ∧ a ≤ S.1 231 58 + 1) ∧ (a = 1 → S.1 231 60 = 1) ∧ (0 ≤ b ∧ b ≤ S.1 231 59) ∧ a ≠ rr + 1 ∧ b ≠ ss ∧ bgN ((TV S a b * TV S (rr + 1) ss - TV S a ss * TV S (rr + 1) b) / nv (S.2.1 264) 0))))) args s 0 0 (sF G)) (F0 m 28 ls []) := by
      intro fuel
      induction fuel with
      | zero => intro S28 i H locs ls hmeas hI28 hFm28 hL28_ hGm28 gL28_ hi hFo hW hL hl; exact absurd hmeas (Nat.not_lt_zero _)
      | succ fuel ih_28 =>
        intro S28 i H locs ls hmeas hI28 hFm28 hL28_ hGm28 gL28_ hi hFo hW hL hl
        refine lv_iload hx hb dX12_pivot_28 (lv_at hl 0 rfl) ?_
        refine lv_aload_n hx hb dX12_pivot_30 rfl (lv_at hl 3 rfl) ?_
        have q_3 : (-2147483648) ≤ S.1 231 58 ∧ S.1 231 58 ≤ 2147483647 := hI.fi 58
        refine g_X12_483 Cx hW (k := 231) (by decide) rfl (v := S.1 231 58) (gL28_ 58 rfl) dX12_pivot_31 ?_
        refine lv_iconst (v := iv 1) hx hb dX12_pivot_34 (by decide) ?_
        refine r_iadd hx hb dX12_pivot_35 ?_
        refine r_icmp_gt (tgt := 232) hx hb ⟨(by omega), (by omega)⟩ ⟨(by omega), (by omega)⟩ dX12_pivot_36 (by decide) (fun c_4 => ?_) (fun c_4 => ?_)
        · have hFF : FO S (S28.2.1 263) rr ss tn (S.1 231 58 + 2) 0 := by have e := hFo; rw [show i = S.1 231 58 + 2 by omega] at e; exact e
          refine lv_aload_n hx hb dX12_pivot_232 rfl (lv_at hl 3 rfl) ?_
          refine g_X12_103 Cx hW (k := 231) (by decide) rfl (v := .ref (G.2.2.1 + 262)) (rd_53 hI28) dX12_pivot_233 ?_
          refine lv_iload_n hx hb dX12_pivot_236 rfl (lv_at hl 2 rfl) ?_
          refine lv_aload_n hx hb dX12_pivot_237 rfl (lv_at hl 3 rfl) ?_
          refine g_X12_109 Cx hW (k := 231) (by decide) rfl (v := .ref (G.2.2.1 + 264)) (rd_55 hI28) dX12_pivot_238 ?_
          refine lv_iconst (v := iv 0) hx hb dX12_pivot_241 (by decide) ?_
          refine sBv (sSt (As := [.ref (G.2.2.1 + 262), .int (iv pp), .ref (G.2.2.1 + 264), .int (iv 0)]) (rest := []) Cx (s_X12_copy l G S28 (ka := 262) (po := pp) (kb := 264) (qo := 0) (Nka := 5280) (Nkb := 8) (La := 6) hI28 ⟨rfl, by decide, by decide, by decide, rfl⟩ ⟨rfl, by decide, by decide, by decide, rfl⟩ (show (264 : Nat) ≠ 262 by decide) (by omega) (by rw [show S28.2.1 262 = S.2.1 262 from (funext fun j => (hL28_ 262 rfl).2.1 j : S28.2.1 262 = S.2.1 262)]; exact (hD.at (i := rr + 1) (j := ss) (by omega) (by omega) (by omega) (by omega)))) (c_X12_233 Cx rfl rfl (rmk_ok (by omega) (by decide))) hW rfl hl.1 rfl (Nat.le_of_ble_eq_true rfl) dX12_pivot_242 ⟨Nat.le_of_ble_eq_true rfl, Nat.le_of_ble_eq_true rfl⟩) hL (fun u_5 H locs k_6 hW hL => ?_)
          obtain ⟨iu_5, fu_5, xu_5⟩ := k_6
          have F_7 := hFm28.trans (fu_5.to (p1_sub rfl))
          have g_8 : FF S u_5 (fl []) := FF.fr hGm28 fu_5 rfl
          have g_9 : FF S u_5 (fl []) := FF.fr gL28_ fu_5 rfl
          have join_258 : ∀ (S258 : sS)  (H : Heap) (locs : List Loc) (ls : Array Slot), (dX G S258) → (Fr S S258 (pl [233, 234, 235, 237, 238, 239, 240, 262, 263, 264, 265, 266])) → (Fr u_5 S258 (pl [264])) → (FF S S258 (fl [])) → (FF S S258 (fl [])) → (FF u_5 S258 (fl [])) → (NO (S258.2.1 264) 0 6) → (nv (S258.2.1 264) 0 = asn tn (TV S (rr + 1) ss) ∧ 0 < nv (S258.2.1 264) 0) → sW G 294 S258 H → sL G locs → lv_has ls 8 [(5, .int (iv i)), (4, .int (iv tn)), (3, .int (iv pp)), (0, .ref (G.2.2.1 + 231)), (1, .int (iv rr)), (2, .int (iv ss))] → W p l e (rmk 7 0 0) s m args below meth c H locs 0 0 (MQ below (sQi G 294 (fun r u => dX G u ∧ Fr S u (pl [233, 234, 235, 237, 238, 239, 240, 262, 263, 264, 265, 266]) ∧ FF S u (fl []) ∧ ((0 ≤ r ∧ r ≤ 1) ∧ DOK u ∧ Hd (r = 1 → ∃ tn : Int, (0 ≤ tn ∧ tn ≤ 1) ∧ ((tn = 1 → TV S (rr + 1) ss < 0) ∧ (tn = 0 → 0 < TV S (rr + 1) ss)) ∧ PV S u rr ss tn) ∧ Hd (r = 0 → u.2.1 265 = S.2.1 265 ∧ u.2.1 266 = S.2.1 266) ∧ Hd (r = 0 → ∃ a b, (0 ≤ a ∧ a ≤ S.1 231 58 + 1) ∧ (a = 1 → S.1 231 60 = 1) ∧ (0 ≤ b ∧ b ≤ S.1 231 59) ∧ a ≠ rr + 1 ∧ b ≠ ss ∧ bgN ((TV S a b * TV S (rr + 1) ss - TV S a ss * TV S (rr + 1) b) / nv (S.2.1 264) 0))))) args s 0 0 (sF G)) (F0 m 258 ls []) := by
            intro S258  H locs ls hI258 hFm258 hL258_ hGm258 hGL28258 gL258_ hN258 hP258 hW hL hl
            refine lv_iconst (v := iv 0) hx hb dX12_pivot_258 (by decide) ?_
            refine lv_istore (lv' := [(5, .int (iv 0)), (4, .int (iv tn)), (3, .int (iv pp)), (0, .ref (G.2.2.1 + 231)), (1, .int (iv rr)), (2, .int (iv ss))]) hx hb dX12_pivot_259 hl (by decide) rfl (fun ls hl => ?_)
            have loop_261 : ∀ (fuel : Nat) (S261 : sS) (i : Int) (H : Heap) (locs : List Loc) (ls : Array Slot), (S.1 231 58 + 2 - i).toNat < fuel → (dX G S261) → (Fr S S261 (pl [233, 234, 235, 237, 238, 239, 240, 262, 263, 264, 265, 266])) → (Fr S258 S261 (pl [262])) → (FF S S261 (fl [])) → (FF S258 S261 (fl [])) → (0 ≤ i ∧ i ≤ S.1 231 58 + 2) → (BK S (S28.2.1 263) (S261.2.1 262) i 0) → sW G 294 S261 H → sL G locs → lv_has ls 8 [(5, .int (iv i)), (4, .int (iv tn)), (3, .int (iv pp)), (0, .ref (G.2.2.1 + 231)), (1, .int (iv rr)), (2, .int (iv ss))] → W p l e (rmk 7 0 0) s m args below meth c H locs 0 0 (MQ below (sQi G 294 (fun r u => dX G u ∧ Fr S u (pl [233, 234, 235, 237, 238, 239, 240, 262, 263, 264, 265, 266]) ∧ FF S u (fl []) ∧ ((0 ≤ r ∧ r ≤ 1) ∧ DOK u ∧ Hd (r = 1 → ∃ tn : Int, (0 ≤ tn ∧ tn ≤ 1) ∧ ((tn = 1 → TV S (rr + 1) ss < 0) ∧ (tn = 0 → 0 < TV S (rr + 1) ss)) ∧ PV S u rr ss tn) ∧ Hd (r = 0 → u.2.1 265 = S.2.1 265 ∧ u.2.1 266 = S.2.1 266) ∧ Hd (r = 0 → ∃ a b, (0 ≤ a ∧ a ≤ S.1 231 58 + 1) ∧ (a = 1 → S.1 231 60 = 1) ∧ (0 ≤ b ∧ b ≤ S.1 231 59) ∧ a ≠ rr + 1 ∧ b ≠ ss ∧ bgN ((TV S a b * TV S (rr + 1) ss - TV S a ss * TV S (rr + 1) b) / nv (S.2.1 264) 0))))) args s 0 0 (sF G)) (F0 m 261 ls []) := by
              intro fuel
              induction fuel with
              | zero => intro S261 i H locs ls hmeas hI261 hFm261 hL261_ hGm261 gL261_ hi hB hW hL hl; exact absurd hmeas (Nat.not_lt_zero _)
              | succ fuel ih_261 =>
                intro S261 i H locs ls hmeas hI261 hFm261 hL261_ hGm261 gL261_ hi hB hW hL hl
                refine lv_iload hx hb dX12_pivot_261 (lv_at hl 0 rfl) ?_
                refine lv_aload_n hx hb dX12_pivot_263 rfl (lv_at hl 3 rfl) ?_
                refine g_X12_483 Cx hW (k := 231) (by decide) rfl (v := S.1 231 58) ((gL261_ 58 rfl).trans ((gL258_ 58 rfl).trans (((fu_5 231 rfl).1 58).trans (gL28_ 58 rfl)))) dX12_pivot_264 ?_
                refine lv_iconst (v := iv 1) hx hb dX12_pivot_267 (by decide) ?_
                refine r_iadd hx hb dX12_pivot_268 ?_
                refine r_icmp_gt (tgt := 339) hx hb ⟨(by omega), (by omega)⟩ ⟨(by omega), (by omega)⟩ dX12_pivot_269 (by decide) (fun c_10 => ?_) (fun c_10 => ?_)
                · refine lv_aload_n hx hb dX12_pivot_339 rfl (lv_at hl 3 rfl) ?_
                  refine g_X12_112 Cx hW (k := 231) (by decide) rfl (v := .ref (G.2.2.1 + 265)) (rd_56 hI261) dX12_pivot_340 ?_
                  refine lv_iload_n hx hb dX12_pivot_343 rfl (lv_at hl 4 rfl) ?_
                  refine rIald Cx hW (k := 265) (by decide) rfl (by decide) (by omega) (by omega) dX12_pivot_344 ?_
                  have q_11 : (-2147483648) ≤ S.2.1 265 rr ∧ S.2.1 265 rr ≤ 2147483647 := hI.ai 265 rr
                  refine r_i (b := S.2.1 265 rr) (((hL261_ 265 rfl).2.1 rr).trans (((hL258_ 265 rfl).2.1 rr).trans (((fu_5 265 rfl).2.1 rr).trans ((hL28_ 265 rfl).2.1 rr)))) ?_
                  refine lv_istore (lv' := [(5, .int (iv (S.2.1 265 rr))), (4, .int (iv tn)), (3, .int (iv pp)), (0, .ref (G.2.2.1 + 231)), (1, .int (iv rr)), (2, .int (iv ss))]) hx hb dX12_pivot_345 hl (by decide) rfl (fun ls hl => ?_)
                  refine lv_aload_n hx hb dX12_pivot_347 rfl (lv_at hl 3 rfl) ?_
                  refine g_X12_112 Cx hW (k := 231) (by decide) rfl (v := .ref (G.2.2.1 + 265)) (rd_56 hI261) dX12_pivot_348 ?_
                  refine lv_iload_n hx hb dX12_pivot_351 rfl (lv_at hl 4 rfl) ?_
                  refine lv_aload_n hx hb dX12_pivot_352 rfl (lv_at hl 3 rfl) ?_
                  refine g_X12_115 Cx hW (k := 231) (by decide) rfl (v := .ref (G.2.2.1 + 266)) (rd_57 hI261) dX12_pivot_353 ?_
                  refine lv_iload_n hx hb dX12_pivot_356 rfl (lv_at hl 5 rfl) ?_
                  refine rIald Cx hW (k := 266) (by decide) rfl (by decide) (by omega) (by omega) dX12_pivot_357 ?_
                  have q_12 : (-2147483648) ≤ S.2.1 266 ss ∧ S.2.1 266 ss ≤ 2147483647 := hI.ai 266 ss
                  refine r_i (b := S.2.1 266 ss) (((hL261_ 266 rfl).2.1 ss).trans (((hL258_ 266 rfl).2.1 ss).trans (((fu_5 266 rfl).2.1 ss).trans ((hL28_ 266 rfl).2.1 ss)))) ?_
                  refine rIast Cx hW hL (k := 265) (by decide) rfl (by decide) (by omega) (by omega) dX12_pivot_358 (fun H locs hW hL => ?_)
                  have F_13 : Fr S (uA S261 265 rr (S.2.1 266 ss)) (pl [233, 234, 235, 237, 238, 239, 240, 262, 263, 264, 265, 266]) := hFm261.A rfl
                  have i_14 : dX G (uA S261 265 rr (S.2.1 266 ss)) := hI261.A (k := 265) (show (-2147483648) ≤ S.2.1 266 ss ∧ S.2.1 266 ss ≤ 2147483647 from ⟨by omega, by omega⟩)
                  refine lv_aload_n hx hb dX12_pivot_359 rfl (lv_at hl 3 rfl) ?_
                  refine g_X12_115 Cx hW (k := 231) (by decide) rfl (v := .ref (G.2.2.1 + 266)) (rd_57 i_14) dX12_pivot_360 ?_
                  refine lv_iload_n hx hb dX12_pivot_363 rfl (lv_at hl 5 rfl) ?_
                  refine lv_iload hx hb dX12_pivot_364 (lv_at hl 0 rfl) ?_
                  refine rIast Cx hW hL (k := 266) (by decide) rfl (by decide) (by omega) (by omega) dX12_pivot_366 (fun H locs hW hL => ?_)
                  have F_15 : Fr S (uA (uA S261 265 rr (S.2.1 266 ss)) 266 ss (S.2.1 265 rr)) (pl [233, 234, 235, 237, 238, 239, 240, 262, 263, 264, 265, 266]) := F_13.A rfl
                  have i_16 : dX G (uA (uA S261 265 rr (S.2.1 266 ss)) 266 ss (S.2.1 265 rr)) := i_14.A (k := 266) (show (-2147483648) ≤ S.2.1 265 rr ∧ S.2.1 265 rr ≤ 2147483647 from ⟨by omega, by omega⟩)
                  refine lv_iconst (v := iv 1) hx hb dX12_pivot_367 (by decide) ?_
                  exact sZret Cx hr hlk hW hL (by omega) ⟨i_16, F_15, hGm261, ⟨(by omega), hD.pv (hGm261 58 rfl) (hGm261 59 rfl) (hGm261 60 rfl) (by rw [show (uA (uA S261 265 rr (S.2.1 266 ss)) 266 ss (S.2.1 265 rr)).2.1 262 = S261.2.1 262 from (funext fun j => (uA_ne (fun h => absurd h.1 (by decide))).trans (uA_ne (fun h => absurd h.1 (by decide))) : (uA (uA S261 265 rr (S.2.1 266 ss)) 266 ss (S.2.1 265 rr)).2.1 262 = S261.2.1 262)]; have e := hB; rw [show i = S.1 231 58 + 2 by omega] at e; exact e) (by rw [show (uA (uA S261 265 rr (S.2.1 266 ss)) 266 ss (S.2.1 265 rr)).2.1 264 = S258.2.1 264 from (funext fun j => (uA_ne (fun h => absurd h.1 (by decide))).trans ((uA_ne (fun h => absurd h.1 (by decide))).trans ((hL261_ 264 rfl).2.1 j)) : (uA (uA S261 265 rr (S.2.1 266 ss)) 266 ss (S.2.1 265 rr)).2.1 264 = S258.2.1 264)]; exact hN258) (by rw [show (uA (uA S261 265 rr (S.2.1 266 ss)) 266 ss (S.2.1 265 rr)).2.1 264 = S258.2.1 264 from (funext fun j => (uA_ne (fun h => absurd h.1 (by decide))).trans ((uA_ne (fun h => absurd h.1 (by decide))).trans ((hL261_ 264 rfl).2.1 j)) : (uA (uA S261 265 rr (S.2.1 266 ss)) 266 ss (S.2.1 265 rr)).2.1 264 = S258.2.1 264)]; exact hP258.2), (fun _ => ⟨tn, by omega, hpn, (by rw [show (uA (uA S261 265 rr (S.2.1 266 ss)) 266 ss (S.2.1 265 rr)).2.1 264 = S258.2.1 264 from (funext fun j => (uA_ne (fun h => absurd h.1 (by decide))).trans ((uA_ne (fun h => absurd h.1 (by decide))).trans ((hL261_ 264 rfl).2.1 j)) : (uA (uA S261 265 rr (S.2.1 266 ss)) 266 ss (S.2.1 265 rr)).2.1 264 = S258.2.1 264)]; exact hP258.1), (fun a b a0 a1 a2 b0 b1 => by unfold TV; rw [show (uA (uA S261 265 rr (S.2.1 266 ss)) 266 ss (S.2.1 265 rr)).2.1 262 = S261.2.1 262 from (funext fun j => (uA_ne (fun h => absurd h.1 (by decide))).trans (uA_ne (fun h => absurd h.1 (by decide))) : (uA (uA S261 265 rr (S.2.1 266 ss)) 266 ss (S.2.1 265 rr)).2.1 262 = S261.2.1 262)]; have e := hB a b a0 (by omega) a1 a2 b0 b1; have e2 := hFF a b a0 (by omega) a1 a2 b0 b1; rw [e.2]; exact e2.2), (fun x => by rw [show (uA (uA S261 265 rr (S.2.1 266 ss)) 266 ss (S.2.1 265 rr)).2.1 265 x = (uA S261 265 rr (S.2.1 266 ss)).2.1 265 x from uA_ne (fun h => absurd h.1 (by decide)), uA_get]; by_cases z : x = rr; (rw [if_pos ⟨rfl, z⟩, if_pos z]); rw [if_neg (fun h => z h.2), if_neg z]; exact ((hL261_ 265 rfl).2.1 x).trans (((hL258_ 265 rfl).2.1 x).trans (((fu_5 265 rfl).2.1 x).trans ((hL28_ 265 rfl).2.1 x)))), (fun x => by rw [uA_get]; by_cases z : x = ss; (rw [if_pos ⟨rfl, z⟩, if_pos z]); rw [if_neg (fun h => z h.2), if_neg z]; exact (uA_ne (fun h => absurd h.1 (by decide))).trans (((hL261_ 266 rfl).2.1 x).trans (((hL258_ 266 rfl).2.1 x).trans (((fu_5 266 rfl).2.1 x).trans ((hL28_ 266 rfl).2.1 x)))))⟩), (fun q => absurd q (by omega)), (fun q => absurd q (by omega))⟩⟩ dX12_pivot_368
                · have join_333 : ∀ (S333 : sS)  (H : Heap) (locs : List Loc) (ls : Array Slot), (dX G S333) → (Fr S S333 (pl [233, 234, 235, 237, 238, 239, 240, 262, 263, 264, 265, 266])) → (Fr S258 S333 (pl [262])) → (Fr S261 S333 (pl [262])) → (FF S S333 (fl [])) → (FF S258 S333 (fl [])) → (FF S261 S333 (fl [])) → (BK S (S28.2.1 263) (S333.2.1 262) (i + 1) 0) → sW G 294 S333 H → sL G locs → lv_has ls 8 [(5, .int (iv i)), (4, .int (iv tn)), (3, .int (iv pp)), (0, .ref (G.2.2.1 + 231)), (1, .int (iv rr)), (2, .int (iv ss))] → W p l e (rmk 7 0 0) s m args below meth c H locs 0 0 (MQ below (sQi G 294 (fun r u => dX G u ∧ Fr S u (pl [233, 234, 235, 237, 238, 239, 240, 262, 263, 264, 265, 266]) ∧ FF S u (fl []) ∧ ((0 ≤ r ∧ r ≤ 1) ∧ DOK u ∧ Hd (r = 1 → ∃ tn : Int, (0 ≤ tn ∧ tn ≤ 1) ∧ ((tn = 1 → TV S (rr + 1) ss < 0) ∧ (tn = 0 → 0 < TV S (rr + 1) ss)) ∧ PV S u rr ss tn) ∧ Hd (r = 0 → u.2.1 265 = S.2.1 265 ∧ u.2.1 266 = S.2.1 266) ∧ Hd (r = 0 → ∃ a b, (0 ≤ a ∧ a ≤ S.1 231 58 + 1) ∧ (a = 1 → S.1 231 60 = 1) ∧ (0 ≤ b ∧ b ≤ S.1 231 59) ∧ a ≠ rr + 1 ∧ b ≠ ss ∧ bgN ((TV S a b * TV S (rr + 1) ss - TV S a ss * TV S (rr + 1) b) / nv (S.2.1 264) 0))))) args s 0 0 (sF G)) (F0 m 333 ls []) := by
                    intro S333  H locs ls hI333 hFm333 hFL261333 hL333_ hGm333 hGL261333 gL333_ hB333 hW hL hl
                    refine lv_iinc (v := iv (i + 1)) (lv' := [(5, .int (iv (i + 1))), (4, .int (iv tn)), (3, .int (iv pp)), (0, .ref (G.2.2.1 + 231)), (1, .int (iv rr)), (2, .int (iv ss))]) hx hb dX12_pivot_333 hl (k := 0) rfl ((Int32.ofInt_add _ _).symm) (by decide) rfl (fun ls hl => ?_)
                    refine lv_goto (tgt := 261) hx hb dX12_pivot_336 (by decide) ?_
                    exact ih_261 S333 (i + 1) _ _ _ (by omega) hI333 hFm333 hFL261333 hGm333 hGL261333 (by omega) hB333 hW hL (lv_sub hl [0, 1, 2, 3, 4, 5] rfl)
                  refine lv_iload hx hb dX12_pivot_272 (lv_at hl 0 rfl) ?_
                  refine lv_iconst (v := iv 1) hx hb dX12_pivot_274 (by decide) ?_
                  refine r_icmp_ne (tgt := 288) hx hb ⟨(by omega), (by omega)⟩ ⟨(by omega), (by omega)⟩ dX12_pivot_275 (by decide) (fun c_17 => ?_) (fun c_17 => ?_)
                  · refine lv_iconst (v := iv 0) hx hb dX12_pivot_288 (by decide) ?_
                    refine lv_istore (lv' := [(6, .int (iv 0)), (5, .int (iv i)), (4, .int (iv tn)), (3, .int (iv pp)), (0, .ref (G.2.2.1 + 231)), (1, .int (iv rr)), (2, .int (iv ss))]) hx hb dX12_pivot_289 hl (by decide) rfl (fun ls hl => ?_)
                    have loop_291 : ∀ (fuel : Nat) (S291 : sS) (j : Int) (H : Heap) (locs : List Loc) (ls : Array Slot), (S.1 231 59 + 1 - j).toNat < fuel → (dX G S291) → (Fr S S291 (pl [233, 234, 235, 237, 238, 239, 240, 262, 263, 264, 265, 266])) → (Fr S258 S291 (pl [262])) → (Fr S261 S291 (pl [262])) → (Fr S261 S291 (pl [262])) → (FF S S291 (fl [])) → (FF S258 S291 (fl [])) → (FF S261 S291 (fl [])) → (FF S261 S291 (fl [])) → (0 ≤ j ∧ j ≤ S.1 231 59 + 1) → (BK S (S28.2.1 263) (S291.2.1 262) i j) → sW G 294 S291 H → sL G locs → lv_has ls 8 [(6, .int (iv j)), (5, .int (iv i)), (4, .int (iv tn)), (3, .int (iv pp)), (0, .ref (G.2.2.1 + 231)), (1, .int (iv rr)), (2, .int (iv ss))] → W p l e (rmk 7 0 0) s m args below meth c H locs 0 0 (MQ below (sQi G 294 (fun r u => dX G u ∧ Fr S u (pl [233, 234, 235, 237, 238, 239, 240, 262, 263, 264, 265, 266]) ∧ FF S u (fl []) ∧ ((0 ≤ r ∧ r ≤ 1) ∧ DOK u ∧ Hd (r = 1 → ∃ tn : Int, (0 ≤ tn ∧ tn ≤ 1) ∧ ((tn = 1 → TV S (rr + 1) ss < 0) ∧ (tn = 0 → 0 < TV S (rr + 1) ss)) ∧ PV S u rr ss tn) ∧ Hd (r = 0 → u.2.1 265 = S.2.1 265 ∧ u.2.1 266 = S.2.1 266) ∧ Hd (r = 0 → ∃ a b, (0 ≤ a ∧ a ≤ S.1 231 58 + 1) ∧ (a = 1 → S.1 231 60 = 1) ∧ (0 ≤ b ∧ b ≤ S.1 231 59) ∧ a ≠ rr + 1 ∧ b ≠ ss ∧ bgN ((TV S a b * TV S (rr + 1) ss - TV S a ss * TV S (rr + 1) b) / nv (S.2.1 264) 0))))) args s 0 0 (sF G)) (F0 m 291 ls []) := by
                      intro fuel
                      induction fuel with
                      | zero => intro S291 j H locs ls hmeas hI291 hFm291 hFL261291 hFL333291 hL291_ hGm291 hGL261291 hGL333291 gL291_ hj hB2 hW hL hl; exact absurd hmeas (Nat.not_lt_zero _)
                      | succ fuel ih_291 =>
                        intro S291 j H locs ls hmeas hI291 hFm291 hFL261291 hFL333291 hL291_ hGm291 hGL261291 hGL333291 gL291_ hj hB2 hW hL hl
                        have e291 : S291.2.1 263 = S28.2.1 263 := (funext fun j => ((hL291_ 263 rfl).2.1 j).trans (((hL261_ 263 rfl).2.1 j).trans (((hL258_ 263 rfl).2.1 j).trans ((fu_5 263 rfl).2.1 j))) : S291.2.1 263 = S28.2.1 263)
                        refine lv_iload hx hb dX12_pivot_291 (lv_at hl 0 rfl) ?_
                        refine lv_aload_n hx hb dX12_pivot_293 rfl (lv_at hl 4 rfl) ?_
                        have q_18 : (-2147483648) ≤ S.1 231 59 ∧ S.1 231 59 ≤ 2147483647 := hI.fi 59
                        refine g_X12_526 Cx hW (k := 231) (by decide) rfl (v := S.1 231 59) ((gL291_ 59 rfl).trans ((gL261_ 59 rfl).trans ((gL258_ 59 rfl).trans (((fu_5 231 rfl).1 59).trans (gL28_ 59 rfl))))) dX12_pivot_294 ?_
                        refine r_icmp_gt (tgt := 333) hx hb ⟨(by omega), (by omega)⟩ ⟨(by omega), (by omega)⟩ dX12_pivot_297 (by decide) (fun c_19 => ?_) (fun c_19 => ?_)
                        · exact join_333 S291  _ _ _ hI291 hFm291 hFL261291 hFL333291 hGm291 hGL261291 hGL333291 (by have e := hB2; rw [show j = S.1 231 59 + 1 by omega] at e; exact e.row) hW hL (lv_sub hl [1, 2, 3, 4, 5, 6] rfl)
                        · refine lv_aload_n hx hb dX12_pivot_300 rfl (lv_at hl 4 rfl) ?_
                          refine g_X12_106 Cx hW (k := 231) (by decide) rfl (v := .ref (G.2.2.1 + 263)) (rd_54 hI291) dX12_pivot_301 ?_
                          refine lv_aload_n hx hb dX12_pivot_304 rfl (lv_at hl 4 rfl) ?_
                          refine lv_iload hx hb dX12_pivot_305 (lv_at hl 1 rfl) ?_
                          refine lv_iload hx hb dX12_pivot_307 (lv_at hl 0 rfl) ?_
                          refine sBi (sV (As := [.int (iv i), .int (iv j)]) (rest := [.ref (G.2.2.1 + 263)]) (k := 231) Cx (s_X12_cell l G S291 (i := i) (j := j) (by omega) (by omega)) (c_X12_529 Cx rfl rfl (rmk_ok (by omega) (by decide))) hW (by decide) rfl rfl rfl hl.1 rfl (Nat.le_of_ble_eq_true rfl) dX12_pivot_309 ⟨Nat.le_of_ble_eq_true rfl, Nat.le_of_ble_eq_true rfl⟩) hL (fun q1 u_20 H locs k_21 hW hL => ?_)
                          obtain ⟨eu_20, xu_20⟩ := k_21
                          rw [eu_20] at hW
                          refine lv_aload_n hx hb dX12_pivot_312 rfl (lv_at hl 4 rfl) ?_
                          refine g_X12_103 Cx hW (k := 231) (by decide) rfl (v := .ref (G.2.2.1 + 262)) (rd_53 hI291) dX12_pivot_313 ?_
                          refine lv_aload_n hx hb dX12_pivot_316 rfl (lv_at hl 4 rfl) ?_
                          refine lv_iload hx hb dX12_pivot_317 (lv_at hl 1 rfl) ?_
                          refine lv_iload hx hb dX12_pivot_319 (lv_at hl 0 rfl) ?_
                          refine sBi (sV (As := [.int (iv i), .int (iv j)]) (rest := [.ref (G.2.2.1 + 262), .int (iv q1), .ref (G.2.2.1 + 263)]) (k := 231) Cx (s_X12_cell l G S291 (i := i) (j := j) (by omega) (by omega)) (c_X12_529 Cx rfl rfl (rmk_ok (by omega) (by decide))) hW (by decide) rfl rfl rfl hl.1 rfl (Nat.le_of_ble_eq_true rfl) dX12_pivot_321 ⟨Nat.le_of_ble_eq_true rfl, Nat.le_of_ble_eq_true rfl⟩) hL (fun q2 u_22 H locs k_23 hW hL => ?_)
                          obtain ⟨eu_22, xu_22⟩ := k_23
                          rw [eu_22] at hW
                          refine sBv (sSt (As := [.ref (G.2.2.1 + 263), .int (iv q1), .ref (G.2.2.1 + 262), .int (iv q2)]) (rest := []) Cx (s_X12_copy l G S291 (ka := 263) (po := q1) (kb := 262) (qo := q2) (Nka := 5280) (Nkb := 5280) (La := 6) hI291 ⟨rfl, by decide, by decide, by decide, rfl⟩ ⟨rfl, by decide, by decide, by decide, rfl⟩ (show (262 : Nat) ≠ 263 by decide) (by omega) (by rw [show q1 = cl i j by unfold cl; omega, show S291.2.1 263 = S28.2.1 263 from (funext fun j => ((hL291_ 263 rfl).2.1 j).trans (((hL261_ 263 rfl).2.1 j).trans (((hL258_ 263 rfl).2.1 j).trans ((fu_5 263 rfl).2.1 j))) : S291.2.1 263 = S28.2.1 263)]; exact (hFF i j (by omega) (by omega) (by omega) (by omega) (by omega) (by omega)).1)) (c_X12_233 Cx rfl rfl (rmk_ok (by omega) (by decide))) hW rfl hl.1 rfl (Nat.le_of_ble_eq_true rfl) dX12_pivot_324 ⟨Nat.le_of_ble_eq_true rfl, Nat.le_of_ble_eq_true rfl⟩) hL (fun u_24 H locs k_25 hW hL => ?_)
                          obtain ⟨iu_24, fu_24, xu_24⟩ := k_25
                          have F_26 := hFm291.trans (fu_24.to (p1_sub rfl))
                          have F_27 := hFL261291.trans (fu_24.to (p1_sub rfl))
                          have F_28 := hFL333291.trans (fu_24.to (p1_sub rfl))
                          have F_29 := hL291_.trans (fu_24.to (p1_sub rfl))
                          have g_30 : FF S u_24 (fl []) := FF.fr hGm291 fu_24 rfl
                          have g_31 : FF S258 u_24 (fl []) := FF.fr hGL261291 fu_24 rfl
                          have g_32 : FF S261 u_24 (fl []) := FF.fr hGL333291 fu_24 rfl
                          have g_33 : FF S261 u_24 (fl []) := FF.fr gL291_ fu_24 rfl
                          refine lv_iinc (v := iv (j + 1)) (lv' := [(6, .int (iv (j + 1))), (5, .int (iv i)), (4, .int (iv tn)), (3, .int (iv pp)), (0, .ref (G.2.2.1 + 231)), (1, .int (iv rr)), (2, .int (iv ss))]) hx hb dX12_pivot_327 hl (k := 0) rfl ((Int32.ofInt_add _ _).symm) (by decide) rfl (fun ls hl => ?_)
                          refine lv_goto (tgt := 291) hx hb dX12_pivot_330 (by decide) ?_
                          exact ih_291 u_24 (j + 1) _ _ _ (by omega) iu_24 F_26 F_27 F_28 F_29 g_30 g_31 g_32 g_33 (by omega) (BK.step hB2 (by omega) (by omega) (fun x a => xu_24.2 x (by rw [show cl i j = q2 by unfold cl; omega] at a; exact a)) (by rw [show cl i j = q2 by unfold cl; omega]; exact xu_24.1.1) (by rw [show nv (u_24.2.1 262) (cl i j) = nv (u_24.2.1 262) q2 from congrArg _ (by unfold cl; omega), xu_24.1.2.1, show S291.2.1 263 = S28.2.1 263 from e291]; exact congrArg _ (by unfold cl; omega))) hW hL (lv_sub hl [0, 1, 2, 3, 4, 5, 6] rfl)
                    exact loop_291 (_ + 1) S261 0 _ _ _ (Nat.lt_succ_self _) hI261 hFm261 hL261_ (Fr.rf : Fr S261 S261 (pl [262])) Fr.rf hGm261 gL261_ (FF.rf : FF S261 S261 (fl [])) FF.rf (by omega) hB hW hL (lv_sub hl [0, 1, 2, 3, 4, 5, 6] rfl)
                  · refine lv_aload_n hx hb dX12_pivot_278 rfl (lv_at hl 3 rfl) ?_
                    have q_34 : 0 ≤ S.1 231 60 ∧ S.1 231 60 ≤ 1 := hI.fi 60
                    refine g_X12_535 Cx hW (k := 231) (by decide) rfl (v := S.1 231 60) ((gL261_ 60 rfl).trans ((gL258_ 60 rfl).trans (((fu_5 231 rfl).1 60).trans (gL28_ 60 rfl)))) dX12_pivot_279 ?_
                    refine r_if_ne (tgt := 288) hx hb ⟨(by omega), (by omega)⟩ dX12_pivot_282 (by decide) (fun c_35 => ?_) (fun c_35 => ?_)
                    · refine lv_iconst (v := iv 0) hx hb dX12_pivot_288 (by decide) ?_
                      refine lv_istore (lv' := [(6, .int (iv 0)), (5, .int (iv i)), (4, .int (iv tn)), (3, .int (iv pp)), (0, .ref (G.2.2.1 + 231)), (1, .int (iv rr)), (2, .int (iv ss))]) hx hb dX12_pivot_289 hl (by decide) rfl (fun ls hl => ?_)
                      have loop_291 : ∀ (fuel : Nat) (S291 : sS) (j : Int) (H : Heap) (locs : List Loc) (ls : Array Slot), (S.1 231 59 + 1 - j).toNat < fuel → (dX G S291) → (Fr S S291 (pl [233, 234, 235, 237, 238, 239, 240, 262, 263, 264, 265, 266])) → (Fr S258 S291 (pl [262])) → (Fr S261 S291 (pl [262])) → (Fr S261 S291 (pl [262])) → (FF S S291 (fl [])) → (FF S258 S291 (fl [])) → (FF S261 S291 (fl [])) → (FF S261 S291 (fl [])) → (0 ≤ j ∧ j ≤ S.1 231 59 + 1) → (BK S (S28.2.1 263) (S291.2.1 262) i j) → sW G 294 S291 H → sL G locs → lv_has ls 8 [(6, .int (iv j)), (5, .int (iv i)), (4, .int (iv tn)), (3, .int (iv pp)), (0, .ref (G.2.2.1 + 231)), (1, .int (iv rr)), (2, .int (iv ss))] → W p l e (rmk 7 0 0) s m args below meth c H locs 0 0 (MQ below (sQi G 294 (fun r u => dX G u ∧ Fr S u (pl [233, 234, 235, 237, 238, 239, 240, 262, 263, 264, 265, 266]) ∧ FF S u (fl []) ∧ ((0 ≤ r ∧ r ≤ 1) ∧ DOK u ∧ Hd (r = 1 → ∃ tn : Int, (0 ≤ tn ∧ tn ≤ 1) ∧ ((tn = 1 → TV S (rr + 1) ss < 0) ∧ (tn = 0 → 0 < TV S (rr + 1) ss)) ∧ PV S u rr ss tn) ∧ Hd (r = 0 → u.2.1 265 = S.2.1 265 ∧ u.2.1 266 = S.2.1 266) ∧ Hd (r = 0 → ∃ a b, (0 ≤ a ∧ a ≤ S.1 231 58 + 1) ∧ (a = 1 → S.1 231 60 = 1) ∧ (0 ≤ b ∧ b ≤ S.1 231 59) ∧ a ≠ rr + 1 ∧ b ≠ ss ∧ bgN ((TV S a b * TV S (rr + 1) ss - TV S a ss * TV S (rr + 1) b) / nv (S.2.1 264) 0))))) args s 0 0 (sF G)) (F0 m 291 ls []) := by
                        intro fuel
                        induction fuel with
                        | zero => intro S291 j H locs ls hmeas hI291 hFm291 hFL261291 hFL333291 hL291_ hGm291 hGL261291 hGL333291 gL291_ hj hB2 hW hL hl; exact absurd hmeas (Nat.not_lt_zero _)
                        | succ fuel ih_291 =>
                          intro S291 j H locs ls hmeas hI291 hFm291 hFL261291 hFL333291 hL291_ hGm291 hGL261291 hGL333291 gL291_ hj hB2 hW hL hl
                          have e291 : S291.2.1 263 = S28.2.1 263 := (funext fun j => ((hL291_ 263 rfl).2.1 j).trans (((hL261_ 263 rfl).2.1 j).trans (((hL258_ 263 rfl).2.1 j).trans ((fu_5 263 rfl).2.1 j))) : S291.2.1 263 = S28.2.1 263)
                          refine lv_iload hx hb dX12_pivot_291 (lv_at hl 0 rfl) ?_
                          refine lv_aload_n hx hb dX12_pivot_293 rfl (lv_at hl 4 rfl) ?_
                          have q_36 : (-2147483648) ≤ S.1 231 59 ∧ S.1 231 59 ≤ 2147483647 := hI.fi 59
                          refine g_X12_526 Cx hW (k := 231) (by decide) rfl (v := S.1 231 59) ((gL291_ 59 rfl).trans ((gL261_ 59 rfl).trans ((gL258_ 59 rfl).trans (((fu_5 231 rfl).1 59).trans (gL28_ 59 rfl))))) dX12_pivot_294 ?_
                          refine r_icmp_gt (tgt := 333) hx hb ⟨(by omega), (by omega)⟩ ⟨(by omega), (by omega)⟩ dX12_pivot_297 (by decide) (fun c_37 => ?_) (fun c_37 => ?_)
                          · exact join_333 S291  _ _ _ hI291 hFm291 hFL261291 hFL333291 hGm291 hGL261291 hGL333291 (by have e := hB2; rw [show j = S.1 231 59 + 1 by omega] at e; exact e.row) hW hL (lv_sub hl [1, 2, 3, 4, 5, 6] rfl)
                          · refine lv_aload_n hx hb dX12_pivot_300 rfl (lv_at hl 4 rfl) ?_
                            refine g_X12_106 Cx hW (k := 231) (by decide) rfl (v := .ref (G.2.2.1 + 263)) (rd_54 hI291) dX12_pivot_301 ?_
                            refine lv_aload_n hx hb dX12_pivot_304 rfl (lv_at hl 4 rfl) ?_
                            refine lv_iload hx hb dX12_pivot_305 (lv_at hl 1 rfl) ?_
                            refine lv_iload hx hb dX12_pivot_307 (lv_at hl 0 rfl) ?_
                            refine sBi (sV (As := [.int (iv i), .int (iv j)]) (rest := [.ref (G.2.2.1 + 263)]) (k := 231) Cx (s_X12_cell l G S291 (i := i) (j := j) (by omega) (by omega)) (c_X12_529 Cx rfl rfl (rmk_ok (by omega) (by decide))) hW (by decide) rfl rfl rfl hl.1 rfl (Nat.le_of_ble_eq_true rfl) dX12_pivot_309 ⟨Nat.le_of_ble_eq_true rfl, Nat.le_of_ble_eq_true rfl⟩) hL (fun q1 u_38 H locs k_39 hW hL => ?_)
                            obtain ⟨eu_38, xu_38⟩ := k_39
                            rw [eu_38] at hW
                            refine lv_aload_n hx hb dX12_pivot_312 rfl (lv_at hl 4 rfl) ?_
                            refine g_X12_103 Cx hW (k := 231) (by decide) rfl (v := .ref (G.2.2.1 + 262)) (rd_53 hI291) dX12_pivot_313 ?_
                            refine lv_aload_n hx hb dX12_pivot_316 rfl (lv_at hl 4 rfl) ?_
                            refine lv_iload hx hb dX12_pivot_317 (lv_at hl 1 rfl) ?_
                            refine lv_iload hx hb dX12_pivot_319 (lv_at hl 0 rfl) ?_
                            refine sBi (sV (As := [.int (iv i), .int (iv j)]) (rest := [.ref (G.2.2.1 + 262), .int (iv q1), .ref (G.2.2.1 + 263)]) (k := 231) Cx (s_X12_cell l G S291 (i := i) (j := j) (by omega) (by omega)) (c_X12_529 Cx rfl rfl (rmk_ok (by omega) (by decide))) hW (by decide) rfl rfl rfl hl.1 rfl (Nat.le_of_ble_eq_true rfl) dX12_pivot_321 ⟨Nat.le_of_ble_eq_true rfl, Nat.le_of_ble_eq_true rfl⟩) hL (fun q2 u_40 H locs k_41 hW hL => ?_)
                            obtain ⟨eu_40, xu_40⟩ := k_41
                            rw [eu_40] at hW
                            refine sBv (sSt (As := [.ref (G.2.2.1 + 263), .int (iv q1), .ref (G.2.2.1 + 262), .int (iv q2)]) (rest := []) Cx (s_X12_copy l G S291 (ka := 263) (po := q1) (kb := 262) (qo := q2) (Nka := 5280) (Nkb := 5280) (La := 6) hI291 ⟨rfl, by decide, by decide, by decide, rfl⟩ ⟨rfl, by decide, by decide, by decide, rfl⟩ (show (262 : Nat) ≠ 263 by decide) (by omega) (by rw [show q1 = cl i j by unfold cl; omega, show S291.2.1 263 = S28.2.1 263 from (funext fun j => ((hL291_ 263 rfl).2.1 j).trans (((hL261_ 263 rfl).2.1 j).trans (((hL258_ 263 rfl).2.1 j).trans ((fu_5 263 rfl).2.1 j))) : S291.2.1 263 = S28.2.1 263)]; exact (hFF i j (by omega) (by omega) (by omega) (by omega) (by omega) (by omega)).1)) (c_X12_233 Cx rfl rfl (rmk_ok (by omega) (by decide))) hW rfl hl.1 rfl (Nat.le_of_ble_eq_true rfl) dX12_pivot_324 ⟨Nat.le_of_ble_eq_true rfl, Nat.le_of_ble_eq_true rfl⟩) hL (fun u_42 H locs k_43 hW hL => ?_)
                            obtain ⟨iu_42, fu_42, xu_42⟩ := k_43
                            have F_44 := hFm291.trans (fu_42.to (p1_sub rfl))
                            have F_45 := hFL261291.trans (fu_42.to (p1_sub rfl))
                            have F_46 := hFL333291.trans (fu_42.to (p1_sub rfl))
                            have F_47 := hL291_.trans (fu_42.to (p1_sub rfl))
                            have g_48 : FF S u_42 (fl []) := FF.fr hGm291 fu_42 rfl
                            have g_49 : FF S258 u_42 (fl []) := FF.fr hGL261291 fu_42 rfl
                            have g_50 : FF S261 u_42 (fl []) := FF.fr hGL333291 fu_42 rfl
                            have g_51 : FF S261 u_42 (fl []) := FF.fr gL291_ fu_42 rfl
                            refine lv_iinc (v := iv (j + 1)) (lv' := [(6, .int (iv (j + 1))), (5, .int (iv i)), (4, .int (iv tn)), (3, .int (iv pp)), (0, .ref (G.2.2.1 + 231)), (1, .int (iv rr)), (2, .int (iv ss))]) hx hb dX12_pivot_327 hl (k := 0) rfl ((Int32.ofInt_add _ _).symm) (by decide) rfl (fun ls hl => ?_)
                            refine lv_goto (tgt := 291) hx hb dX12_pivot_330 (by decide) ?_
                            exact ih_291 u_42 (j + 1) _ _ _ (by omega) iu_42 F_44 F_45 F_46 F_47 g_48 g_49 g_50 g_51 (by omega) (BK.step hB2 (by omega) (by omega) (fun x a => xu_42.2 x (by rw [show cl i j = q2 by unfold cl; omega] at a; exact a)) (by rw [show cl i j = q2 by unfold cl; omega]; exact xu_42.1.1) (by rw [show nv (u_42.2.1 262) (cl i j) = nv (u_42.2.1 262) q2 from congrArg _ (by unfold cl; omega), xu_42.1.2.1, show S291.2.1 263 = S28.2.1 263 from e291]; exact congrArg _ (by unfold cl; omega))) hW hL (lv_sub hl [0, 1, 2, 3, 4, 5, 6] rfl)
                      exact loop_291 (_ + 1) S261 0 _ _ _ (Nat.lt_succ_self _) hI261 hFm261 hL261_ (Fr.rf : Fr S261 S261 (pl [262])) Fr.rf hGm261 gL261_ (FF.rf : FF S261 S261 (fl [])) FF.rf (by omega) hB hW hL (lv_sub hl [0, 1, 2, 3, 4, 5, 6] rfl)
                    · refine lv_goto (tgt := 333) hx hb dX12_pivot_285 (by decide) ?_
                      exact join_333 S261  _ _ _ hI261 hFm261 hL261_ (Fr.rf : Fr S261 S261 (pl [262])) hGm261 gL261_ (FF.rf : FF S261 S261 (fl [])) (by have e := hB; rw [show i = 1 by omega] at e; rw [show i + 1 = 2 by omega]; exact e.skip (by omega)) hW hL (lv_sub hl [0, 1, 2, 3, 4, 5] rfl)
            exact loop_261 (_ + 1) S258 0 _ _ _ (Nat.lt_succ_self _) hI258 hFm258 Fr.rf hGm258 FF.rf (by omega) (fun a b a0 ab _ _ b0 _ => absurd ab (by omega)) hW hL (lv_sub hl [0, 1, 2, 3, 4, 5] rfl)
          refine lv_iload hx hb dX12_pivot_245 (lv_at hl 1 rfl) ?_
          refine r_if_eq (tgt := 258) hx hb ⟨(by omega), (by omega)⟩ dX12_pivot_247 (by decide) (fun c_52 => ?_) (fun c_52 => ?_)
          · exact join_258 u_5  _ _ _ iu_5 F_7 (Fr.rf : Fr u_5 u_5 (pl [264])) g_8 g_9 (FF.rf : FF u_5 u_5 (fl [])) xu_5.1.1 (by have k : nv (u_5.2.1 264) 0 = TV S (rr + 1) ss := (by rw [xu_5.1.2.1, show S28.2.1 262 = S.2.1 262 from (funext fun j => (hL28_ 262 rfl).2.1 j : S28.2.1 262 = S.2.1 262)]; exact congrArg _ (by unfold cl; omega)); rw [k, show tn = 0 by omega, asn_0]; have := hpn.2 (by omega); omega) hW hL (lv_sub hl [0, 1, 2, 3, 4, 5] rfl)
          · refine lv_aload_n hx hb dX12_pivot_250 rfl (lv_at hl 3 rfl) ?_
            refine g_X12_109 Cx hW (k := 231) (by decide) rfl (v := .ref (G.2.2.1 + 264)) (rd_55 iu_5) dX12_pivot_251 ?_
            refine lv_iconst (v := iv 0) hx hb dX12_pivot_254 (by decide) ?_
            refine sBv (sSt (As := [.ref (G.2.2.1 + 264), .int (iv 0)]) (rest := []) Cx (s_X12_negate l G u_5 (ka := 264) (po := 0) (Nka := 8) (La := 6) iu_5 ⟨rfl, by decide, by decide, by decide, rfl⟩ (by omega) xu_5.1.1) (c_X12_540 Cx rfl rfl (rmk_ok (by omega) (by decide))) hW rfl hl.1 rfl (Nat.le_of_ble_eq_true rfl) dX12_pivot_255 ⟨Nat.le_of_ble_eq_true rfl, Nat.le_of_ble_eq_true rfl⟩) hL (fun u_53 H locs k_54 hW hL => ?_)
            obtain ⟨iu_53, fu_53, xu_53⟩ := k_54
            have F_55 := F_7.trans (fu_53.to (p1_sub rfl))
            have F_56 := (Fr.rf : Fr u_5 u_5 (pl [264])).trans (fu_53.to (p1_sub rfl))
            have g_57 : FF S u_53 (fl []) := FF.fr g_8 fu_53 rfl
            have g_58 : FF S u_53 (fl []) := FF.fr g_9 fu_53 rfl
            have g_59 : FF u_5 u_53 (fl []) := FF.fr (FF.rf : FF u_5 u_5 (fl [])) fu_53 rfl
            exact join_258 u_53  _ _ _ iu_53 F_55 F_56 g_57 g_58 g_59 xu_53.1 (by have k : nv (u_5.2.1 264) 0 = TV S (rr + 1) ss := (by rw [xu_5.1.2.1, show S28.2.1 262 = S.2.1 262 from (funext fun j => (hL28_ 262 rfl).2.1 j : S28.2.1 262 = S.2.1 262)]; exact congrArg _ (by unfold cl; omega)); rw [xu_53.2.1, k, show tn = 1 by omega, asn_1]; have := hpn.1 (by omega); omega) hW hL (lv_sub hl [0, 1, 2, 3, 4, 5] rfl)
        · have join_226 : ∀ (S226 : sS)  (H : Heap) (locs : List Loc) (ls : Array Slot), (dX G S226) → (Fr S S226 (pl [233, 234, 235, 237, 238, 239, 240, 262, 263, 264, 265, 266])) → (Fr S S226 (pl [233, 234, 235, 237, 238, 239, 240, 263])) → (Fr S28 S226 (pl [233, 234, 235, 237, 238, 239, 240, 263])) → (FF S S226 (fl [])) → (FF S S226 (fl [])) → (FF S28 S226 (fl [])) → (FO S (S226.2.1 263) rr ss tn (i + 1) 0) → sW G 294 S226 H → sL G locs → lv_has ls 8 [(5, .int (iv i)), (4, .int (iv tn)), (3, .int (iv pp)), (0, .ref (G.2.2.1 + 231)), (1, .int (iv rr)), (2, .int (iv ss))] → W p l e (rmk 7 0 0) s m args below meth c H locs 0 0 (MQ below (sQi G 294 (fun r u => dX G u ∧ Fr S u (pl [233, 234, 235, 237, 238, 239, 240, 262, 263, 264, 265, 266]) ∧ FF S u (fl []) ∧ ((0 ≤ r ∧ r ≤ 1) ∧ DOK u ∧ Hd (r = 1 → ∃ tn : Int, (0 ≤ tn ∧ tn ≤ 1) ∧ ((tn = 1 → TV S (rr + 1) ss < 0) ∧ (tn = 0 → 0 < TV S (rr + 1) ss)) ∧ PV S u rr ss tn) ∧ Hd (r = 0 → u.2.1 265 = S.2.1 265 ∧ u.2.1 266 = S.2.1 266) ∧ Hd (r = 0 → ∃ a b, (0 ≤ a ∧ a ≤ S.1 231 58 + 1) ∧ (a = 1 → S.1 231 60 = 1) ∧ (0 ≤ b ∧ b ≤ S.1 231 59) ∧ a ≠ rr + 1 ∧ b ≠ ss ∧ bgN ((TV S a b * TV S (rr + 1) ss - TV S a ss * TV S (rr + 1) b) / nv (S.2.1 264) 0))))) args s 0 0 (sF G)) (F0 m 226 ls []) := by
            intro S226  H locs ls hI226 hFm226 hFL28226 hL226_ hGm226 hGL28226 gL226_ hF226 hW hL hl
            refine lv_iinc (v := iv (i + 1)) (lv' := [(5, .int (iv (i + 1))), (4, .int (iv tn)), (3, .int (iv pp)), (0, .ref (G.2.2.1 + 231)), (1, .int (iv rr)), (2, .int (iv ss))]) hx hb dX12_pivot_226 hl (k := 0) rfl ((Int32.ofInt_add _ _).symm) (by decide) rfl (fun ls hl => ?_)
            refine lv_goto (tgt := 28) hx hb dX12_pivot_229 (by decide) ?_
            exact ih_28 S226 (i + 1) _ _ _ (by omega) hI226 hFm226 hFL28226 hGm226 hGL28226 (by omega) hF226 hW hL (lv_sub hl [0, 1, 2, 3, 4, 5] rfl)
          refine lv_iload hx hb dX12_pivot_39 (lv_at hl 0 rfl) ?_
          refine lv_iconst (v := iv 1) hx hb dX12_pivot_41 (by decide) ?_
          refine r_icmp_ne (tgt := 55) hx hb ⟨(by omega), (by omega)⟩ ⟨(by omega), (by omega)⟩ dX12_pivot_42 (by decide) (fun c_60 => ?_) (fun c_60 => ?_)
          · refine lv_iconst (v := iv 0) hx hb dX12_pivot_55 (by decide) ?_
            refine lv_istore (lv' := [(6, .int (iv 0)), (5, .int (iv i)), (4, .int (iv tn)), (3, .int (iv pp)), (0, .ref (G.2.2.1 + 231)), (1, .int (iv rr)), (2, .int (iv ss))]) hx hb dX12_pivot_56 hl (by decide) rfl (fun ls hl => ?_)
            have loop_58 : ∀ (fuel : Nat) (S58 : sS) (j : Int) (H : Heap) (locs : List Loc) (ls : Array Slot), (S.1 231 59 + 1 - j).toNat < fuel → (dX G S58) → (Fr S S58 (pl [233, 234, 235, 237, 238, 239, 240, 262, 263, 264, 265, 266])) → (Fr S S58 (pl [233, 234, 235, 237, 238, 239, 240, 263])) → (Fr S28 S58 (pl [233, 234, 235, 237, 238, 239, 240, 263])) → (Fr S28 S58 (pl [233, 234, 235, 237, 238, 239, 240, 263])) → (FF S S58 (fl [])) → (FF S S58 (fl [])) → (FF S28 S58 (fl [])) → (FF S28 S58 (fl [])) → (0 ≤ j ∧ j ≤ S.1 231 59 + 1) → (FO S (S58.2.1 263) rr ss tn i j) → sW G 294 S58 H → sL G locs → lv_has ls 8 [(6, .int (iv j)), (5, .int (iv i)), (4, .int (iv tn)), (3, .int (iv pp)), (0, .ref (G.2.2.1 + 231)), (1, .int (iv rr)), (2, .int (iv ss))] → W p l e (rmk 7 0 0) s m args below meth c H locs 0 0 (MQ below (sQi G 294 (fun r u => dX G u ∧ Fr S u (pl [233, 234, 235, 237, 238, 239, 240, 262, 263, 264, 265, 266]) ∧ FF S u (fl []) ∧ ((0 ≤ r ∧ r ≤ 1) ∧ DOK u ∧ Hd (r = 1 → ∃ tn : Int, (0 ≤ tn ∧ tn ≤ 1) ∧ ((tn = 1 → TV S (rr + 1) ss < 0) ∧ (tn = 0 → 0 < TV S (rr + 1) ss)) ∧ PV S u rr ss tn) ∧ Hd (r = 0 → u.2.1 265 = S.2.1 265 ∧ u.2.1 266 = S.2.1 266) ∧ Hd (r = 0 → ∃ a b, (0 ≤ a ∧ a ≤ S.1 231 58 + 1) ∧ (a = 1 → S.1 231 60 = 1) ∧ (0 ≤ b ∧ b ≤ S.1 231 59) ∧ a ≠ rr + 1 ∧ b ≠ ss ∧ bgN ((TV S a b * TV S (rr + 1) ss - TV S a ss * TV S (rr + 1) b) / nv (S.2.1 264) 0))))) args s 0 0 (sF G)) (F0 m 58 ls []) := by
              intro fuel
              induction fuel with
              | zero => intro S58 j H locs ls hmeas hI58 hFm58 hFL2858 hFL22658 hL58_ hGm58 hGL2858 hGL22658 gL58_ hj hF hW hL hl; exact absurd hmeas (Nat.not_lt_zero _)
              | succ fuel ih_58 =>
                intro S58 j H locs ls hmeas hI58 hFm58 hFL2858 hFL22658 hL58_ hGm58 hGL2858 hGL22658 gL58_ hj hF hW hL hl
                have eD58 : S58.2.1 262 = S.2.1 262 := (funext fun j => ((hL58_ 262 rfl).2.1 j).trans ((hL28_ 262 rfl).2.1 j) : S58.2.1 262 = S.2.1 262)
                have eN58 : S58.2.1 264 = S.2.1 264 := (funext fun j => ((hL58_ 264 rfl).2.1 j).trans ((hL28_ 264 rfl).2.1 j) : S58.2.1 264 = S.2.1 264)
                refine lv_iload hx hb dX12_pivot_58 (lv_at hl 0 rfl) ?_
                refine lv_aload_n hx hb dX12_pivot_60 rfl (lv_at hl 4 rfl) ?_
                have q_61 : (-2147483648) ≤ S.1 231 59 ∧ S.1 231 59 ≤ 2147483647 := hI.fi 59
                refine g_X12_526 Cx hW (k := 231) (by decide) rfl (v := S.1 231 59) ((gL58_ 59 rfl).trans (gL28_ 59 rfl)) dX12_pivot_61 ?_
                refine r_icmp_gt (tgt := 226) hx hb ⟨(by omega), (by omega)⟩ ⟨(by omega), (by omega)⟩ dX12_pivot_64 (by decide) (fun c_62 => ?_) (fun c_62 => ?_)
                · exact join_226 S58  _ _ _ hI58 hFm58 hFL2858 hFL22658 hGm58 hGL2858 hGL22658 (by have e := hF; rw [show j = S.1 231 59 + 1 by omega] at e; exact e.row) hW hL (lv_sub hl [1, 2, 3, 4, 5, 6] rfl)
                · refine lv_aload_n hx hb dX12_pivot_67 rfl (lv_at hl 4 rfl) ?_
                  refine lv_iload hx hb dX12_pivot_68 (lv_at hl 1 rfl) ?_
                  refine lv_iload hx hb dX12_pivot_70 (lv_at hl 0 rfl) ?_
                  refine sBi (sV (As := [.int (iv i), .int (iv j)]) (rest := []) (k := 231) Cx (s_X12_cell l G S58 (i := i) (j := j) (by omega) (by omega)) (c_X12_529 Cx rfl rfl (rmk_ok (by omega) (by decide))) hW (by decide) rfl rfl rfl hl.1 rfl (Nat.le_of_ble_eq_true rfl) dX12_pivot_72 ⟨Nat.le_of_ble_eq_true rfl, Nat.le_of_ble_eq_true rfl⟩) hL (fun q u_63 H locs k_64 hW hL => ?_)
                  obtain ⟨eu_63, xu_63⟩ := k_64
                  rw [eu_63] at hW
                  refine lv_istore (lv' := [(7, .int (iv q)), (6, .int (iv j)), (5, .int (iv i)), (4, .int (iv tn)), (3, .int (iv pp)), (0, .ref (G.2.2.1 + 231)), (1, .int (iv rr)), (2, .int (iv ss))]) hx hb dX12_pivot_75 hl (by decide) rfl (fun ls hl => ?_)
                  have join_220 : ∀ (S220 : sS)  (H : Heap) (locs : List Loc) (ls : Array Slot), (dX G S220) → (Fr S S220 (pl [233, 234, 235, 237, 238, 239, 240, 262, 263, 264, 265, 266])) → (Fr S S220 (pl [233, 234, 235, 237, 238, 239, 240, 263])) → (Fr S28 S220 (pl [233, 234, 235, 237, 238, 239, 240, 263])) → (Fr S28 S220 (pl [233, 234, 235, 237, 238, 239, 240, 263])) → (Fr S58 S220 (pl [233, 234, 235, 237, 238, 239, 240, 263])) → (FF S S220 (fl [])) → (FF S S220 (fl [])) → (FF S28 S220 (fl [])) → (FF S28 S220 (fl [])) → (FF S58 S220 (fl [])) → (FO S (S220.2.1 263) rr ss tn i (j + 1)) → sW G 294 S220 H → sL G locs → lv_has ls 8 [(7, .int (iv q)), (6, .int (iv j)), (5, .int (iv i)), (4, .int (iv tn)), (3, .int (iv pp)), (0, .ref (G.2.2.1 + 231)), (1, .int (iv rr)), (2, .int (iv ss))] → W p l e (rmk 7 0 0) s m args below meth c H locs 0 0 (MQ below (sQi G 294 (fun r u => dX G u ∧ Fr S u (pl [233, 234, 235, 237, 238, 239, 240, 262, 263, 264, 265, 266]) ∧ FF S u (fl []) ∧ ((0 ≤ r ∧ r ≤ 1) ∧ DOK u ∧ Hd (r = 1 → ∃ tn : Int, (0 ≤ tn ∧ tn ≤ 1) ∧ ((tn = 1 → TV S (rr + 1) ss < 0) ∧ (tn = 0 → 0 < TV S (rr + 1) ss)) ∧ PV S u rr ss tn) ∧ Hd (r = 0 → u.2.1 265 = S.2.1 265 ∧ u.2.1 266 = S.2.1 266) ∧ Hd (r = 0 → ∃ a b, (0 ≤ a ∧ a ≤ S.1 231 58 + 1) ∧ (a = 1 → S.1 231 60 = 1) ∧ (0 ≤ b ∧ b ≤ S.1 231 59) ∧ a ≠ rr + 1 ∧ b ≠ ss ∧ bgN ((TV S a b * TV S (rr + 1) ss - TV S a ss * TV S (rr + 1) b) / nv (S.2.1 264) 0))))) args s 0 0 (sF G)) (F0 m 220 ls []) := by
                    intro S220  H locs ls hI220 hFm220 hFL28220 hFL226220 hFL58220 hL220_ hGm220 hGL28220 hGL226220 hGL58220 gL220_ hF220 hW hL hl
                    refine lv_iinc (v := iv (j + 1)) (lv' := [(6, .int (iv (j + 1))), (7, .int (iv q)), (5, .int (iv i)), (4, .int (iv tn)), (3, .int (iv pp)), (0, .ref (G.2.2.1 + 231)), (1, .int (iv rr)), (2, .int (iv ss))]) hx hb dX12_pivot_220 hl (k := 1) rfl ((Int32.ofInt_add _ _).symm) (by decide) rfl (fun ls hl => ?_)
                    refine lv_goto (tgt := 58) hx hb dX12_pivot_223 (by decide) ?_
                    exact ih_58 S220 (j + 1) _ _ _ (by omega) hI220 hFm220 hFL28220 hFL226220 hFL58220 hGm220 hGL28220 hGL226220 hGL58220 (by omega) hF220 hW hL (lv_sub hl [0, 2, 3, 4, 5, 6, 7] rfl)
                  refine lv_iload hx hb dX12_pivot_77 (lv_at hl 2 rfl) ?_
                  refine lv_iload_n hx hb dX12_pivot_79 rfl (lv_at hl 6 rfl) ?_
                  refine lv_iconst (v := iv 1) hx hb dX12_pivot_80 (by decide) ?_
                  refine r_iadd hx hb dX12_pivot_81 ?_
                  refine r_icmp_ne (tgt := 122) hx hb ⟨(by omega), (by omega)⟩ ⟨(by omega), (by omega)⟩ dX12_pivot_82 (by decide) (fun c_65 => ?_) (fun c_65 => ?_)
                  · refine lv_iload hx hb dX12_pivot_122 (lv_at hl 2 rfl) ?_
                    refine lv_iload_n hx hb dX12_pivot_124 rfl (lv_at hl 6 rfl) ?_
                    refine lv_iconst (v := iv 1) hx hb dX12_pivot_125 (by decide) ?_
                    refine r_iadd hx hb dX12_pivot_126 ?_
                    refine r_icmp_ne (tgt := 162) hx hb ⟨(by omega), (by omega)⟩ ⟨(by omega), (by omega)⟩ dX12_pivot_127 (by decide) (fun c_66 => ?_) (fun c_66 => ?_)
                    · refine lv_iload hx hb dX12_pivot_162 (lv_at hl 1 rfl) ?_
                      refine lv_iload_n hx hb dX12_pivot_164 rfl (lv_at hl 7 rfl) ?_
                      refine r_icmp_ne (tgt := 200) hx hb ⟨(by omega), (by omega)⟩ ⟨(by omega), (by omega)⟩ dX12_pivot_165 (by decide) (fun c_67 => ?_) (fun c_67 => ?_)
                      · refine lv_aload_n hx hb dX12_pivot_200 rfl (lv_at hl 5 rfl) ?_
                        refine lv_iload hx hb dX12_pivot_201 (lv_at hl 2 rfl) ?_
                        refine lv_iload hx hb dX12_pivot_203 (lv_at hl 1 rfl) ?_
                        refine lv_iload_n hx hb dX12_pivot_205 rfl (lv_at hl 6 rfl) ?_
                        refine lv_iload_n hx hb dX12_pivot_206 rfl (lv_at hl 7 rfl) ?_
                        refine lv_iload_n hx hb dX12_pivot_207 rfl (lv_at hl 4 rfl) ?_
                        refine lv_iload hx hb dX12_pivot_208 (lv_at hl 0 rfl) ?_
                        refine lv_iload hx hb dX12_pivot_210 (lv_at hl 3 rfl) ?_
                        refine sBi (sV (As := [.int (iv i), .int (iv j), .int (iv rr), .int (iv ss), .int (iv pp), .int (iv q), .int (iv tn)]) (rest := []) (k := 231) Cx (r_X12_across l G S58 (ii := i) (jj := j) (rr := rr) (ss := ss) (pp := pp) (qq := q) (tn := tn) hI58 (by omega) (by omega) (by omega) (by omega) (by rw [show S58.2.1 262 = S.2.1 262 from (funext fun j => ((hL58_ 262 rfl).2.1 j).trans ((hL28_ 262 rfl).2.1 j) : S58.2.1 262 = S.2.1 262)]; exact (hD.at (i := i) (j := j) (by omega) (by omega) (by omega) (by omega))) (by rw [show S58.2.1 262 = S.2.1 262 from (funext fun j => ((hL58_ 262 rfl).2.1 j).trans ((hL28_ 262 rfl).2.1 j) : S58.2.1 262 = S.2.1 262)]; exact (hD.at (i := rr + 1) (j := ss) (by omega) (by omega) (by omega) (by omega))) (by rw [show S58.2.1 262 = S.2.1 262 from (funext fun j => ((hL58_ 262 rfl).2.1 j).trans ((hL28_ 262 rfl).2.1 j) : S58.2.1 262 = S.2.1 262)]; exact (hD.at (i := i) (j := ss) (by omega) (by omega) (by omega) (by omega))) (by rw [show S58.2.1 262 = S.2.1 262 from (funext fun j => ((hL58_ 262 rfl).2.1 j).trans ((hL28_ 262 rfl).2.1 j) : S58.2.1 262 = S.2.1 262)]; exact (hD.at (i := rr + 1) (j := j) (by omega) (by omega) (by omega) (by omega))) (by rw [show S58.2.1 264 = S.2.1 264 from (funext fun j => ((hL58_ 264 rfl).2.1 j).trans ((hL28_ 264 rfl).2.1 j) : S58.2.1 264 = S.2.1 264)]; exact hD.2.2.1) (by rw [show S58.2.1 264 = S.2.1 264 from (funext fun j => ((hL58_ 264 rfl).2.1 j).trans ((hL28_ 264 rfl).2.1 j) : S58.2.1 264 = S.2.1 264)]; exact hD.2.2.2)) (c_X12_544 Cx rfl rfl (rmk_ok (by omega) (by decide))) hW (by decide) rfl rfl rfl hl.1 rfl (Nat.le_of_ble_eq_true rfl) dX12_pivot_212 ⟨Nat.le_of_ble_eq_true rfl, Nat.le_of_ble_eq_true rfl⟩) hL (fun r_70 u_68 H locs k_69 hW hL => ?_)
                        obtain ⟨iu_68, fu_68, gu_68, xu_68⟩ := k_69
                        have F_71 := hFm58.trans (fu_68.to (pl_sub (by decide)))
                        have F_72 := hFL2858.trans fu_68
                        have F_73 := hFL22658.trans fu_68
                        have F_74 := hL58_.trans fu_68
                        have F_75 := (Fr.rf : Fr S58 S58 (pl [233, 234, 235, 237, 238, 239, 240, 263])).trans fu_68
                        have g_76 : FF S u_68 (fl []) := FF.trans hGm58 (FF.to gu_68 (fl_sub (by decide)))
                        have g_77 : FF S u_68 (fl []) := FF.trans hGL2858 (FF.to gu_68 (fl_sub (by decide)))
                        have g_78 : FF S28 u_68 (fl []) := FF.trans hGL22658 (FF.to gu_68 (fl_sub (by decide)))
                        have g_79 : FF S28 u_68 (fl []) := FF.trans gL58_ (FF.to gu_68 (fl_sub (by decide)))
                        have g_80 : FF S58 u_68 (fl []) := FF.trans (FF.rf : FF S58 S58 (fl [])) (FF.to gu_68 (fl_sub (by decide)))
                        refine r_if_ne (tgt := 220) hx hb ⟨(by omega), (by omega)⟩ dX12_pivot_215 (by decide) (fun c_81 => ?_) (fun c_81 => ?_)
                        · exact join_220 u_68  _ _ _ iu_68 F_71 F_72 F_73 F_74 F_75 g_76 g_77 g_78 g_79 g_80 (FO.step hF (by omega) (by omega) (fun x a => xu_68.2.2.1 x (by rw [show cl i j = q by unfold cl; omega] at a; exact a)) (by rw [show cl i j = q by unfold cl; omega]; exact (xu_68.2.1 (by omega)).1) (PC.d (by omega) (by omega) (by have e := (xu_68.2.1 (by omega)).2; rw [eD58, eN58] at e; obtain ⟨Q, R, h1, h2, h3, h4⟩ := e; refine ⟨Q, R, (by rw [show cl i j = q by unfold cl; omega]; exact h1), ?_, h3, h4⟩; unfold TV; rw [show cl i j = q by unfold cl; omega, show cl (rr + 1) ss = pp by unfold cl; omega]; exact h2))) hW hL (lv_sub hl [0, 1, 2, 3, 4, 5, 6, 7] rfl)
                        · refine lv_iconst (v := iv 0) hx hb dX12_pivot_218 (by decide) ?_
                          exact sZret Cx hr hlk hW hL (by omega) ⟨iu_68, F_71, g_76, ⟨(by omega), hD.same (g_76 58 rfl) (g_76 59 rfl) (g_76 60 rfl) (funext fun j => ((fu_68 262 rfl).2.1 j).trans (((hL58_ 262 rfl).2.1 j).trans ((hL28_ 262 rfl).2.1 j)) : u_68.2.1 262 = S.2.1 262) (funext fun j => ((fu_68 264 rfl).2.1 j).trans (((hL58_ 264 rfl).2.1 j).trans ((hL28_ 264 rfl).2.1 j)) : u_68.2.1 264 = S.2.1 264), (fun q => absurd q (by omega)), (fun _ => ⟨(funext fun j => ((fu_68 265 rfl).2.1 j).trans (((hL58_ 265 rfl).2.1 j).trans ((hL28_ 265 rfl).2.1 j)) : u_68.2.1 265 = S.2.1 265), (funext fun j => ((fu_68 266 rfl).2.1 j).trans (((hL58_ 266 rfl).2.1 j).trans ((hL28_ 266 rfl).2.1 j)) : u_68.2.1 266 = S.2.1 266)⟩), (fun _ => ⟨i, j, by omega, by omega, by omega, by omega, by omega, (by have y := xu_68.2.2.2 (by omega); rw [eD58, eN58] at y; unfold TV; rw [show cl i j = q by unfold cl; omega, show cl (rr + 1) ss = pp by unfold cl; omega]; exact y)⟩)⟩⟩ dX12_pivot_219
                      · refine lv_aload_n hx hb dX12_pivot_168 rfl (lv_at hl 5 rfl) ?_
                        refine g_X12_103 Cx hW (k := 231) (by decide) rfl (v := .ref (G.2.2.1 + 262)) (rd_53 hI58) dX12_pivot_169 ?_
                        refine lv_iload hx hb dX12_pivot_172 (lv_at hl 0 rfl) ?_
                        refine lv_aload_n hx hb dX12_pivot_174 rfl (lv_at hl 5 rfl) ?_
                        refine g_X12_106 Cx hW (k := 231) (by decide) rfl (v := .ref (G.2.2.1 + 263)) (rd_54 hI58) dX12_pivot_175 ?_
                        refine lv_iload hx hb dX12_pivot_178 (lv_at hl 0 rfl) ?_
                        refine sBv (sSt (As := [.ref (G.2.2.1 + 262), .int (iv q), .ref (G.2.2.1 + 263), .int (iv q)]) (rest := []) Cx (s_X12_copy l G S58 (ka := 262) (po := q) (kb := 263) (qo := q) (Nka := 5280) (Nkb := 5280) (La := 6) hI58 ⟨rfl, by decide, by decide, by decide, rfl⟩ ⟨rfl, by decide, by decide, by decide, rfl⟩ (show (263 : Nat) ≠ 262 by decide) (by omega) (by rw [show S58.2.1 262 = S.2.1 262 from (funext fun j => ((hL58_ 262 rfl).2.1 j).trans ((hL28_ 262 rfl).2.1 j) : S58.2.1 262 = S.2.1 262)]; exact (hD.at (i := i) (j := j) (by omega) (by omega) (by omega) (by omega)))) (c_X12_233 Cx rfl rfl (rmk_ok (by omega) (by decide))) hW rfl hl.1 rfl (Nat.le_of_ble_eq_true rfl) dX12_pivot_180 ⟨Nat.le_of_ble_eq_true rfl, Nat.le_of_ble_eq_true rfl⟩) hL (fun u_82 H locs k_83 hW hL => ?_)
                        obtain ⟨iu_82, fu_82, xu_82⟩ := k_83
                        have F_84 := hFm58.trans (fu_82.to (p1_sub rfl))
                        have F_85 := hFL2858.trans (fu_82.to (p1_sub rfl))
                        have F_86 := hFL22658.trans (fu_82.to (p1_sub rfl))
                        have F_87 := hL58_.trans (fu_82.to (p1_sub rfl))
                        have F_88 := (Fr.rf : Fr S58 S58 (pl [233, 234, 235, 237, 238, 239, 240, 263])).trans (fu_82.to (p1_sub rfl))
                        have g_89 : FF S u_82 (fl []) := FF.fr hGm58 fu_82 rfl
                        have g_90 : FF S u_82 (fl []) := FF.fr hGL2858 fu_82 rfl
                        have g_91 : FF S28 u_82 (fl []) := FF.fr hGL22658 fu_82 rfl
                        have g_92 : FF S28 u_82 (fl []) := FF.fr gL58_ fu_82 rfl
                        have g_93 : FF S58 u_82 (fl []) := FF.fr (FF.rf : FF S58 S58 (fl [])) fu_82 rfl
                        refine lv_iload hx hb dX12_pivot_183 (lv_at hl 3 rfl) ?_
                        refine r_if_ne (tgt := 220) hx hb ⟨(by omega), (by omega)⟩ dX12_pivot_185 (by decide) (fun c_94 => ?_) (fun c_94 => ?_)
                        · exact join_220 u_82  _ _ _ iu_82 F_84 F_85 F_86 F_87 F_88 g_89 g_90 g_91 g_92 g_93 (FO.step hF (by omega) (by omega) (fun x a => by rw [show cl i j = q by unfold cl; omega] at a; exact xu_82.2 x a) (by rw [show cl i j = q by unfold cl; omega]; exact xu_82.1.1) (PC.c (by omega) (by omega) (by have k0 : nv (u_82.2.1 263) q = TV S i j := (by rw [xu_82.1.2.1, eD58]; unfold TV; rw [show cl i j = q by unfold cl; omega]); rw [show cl i j = q by unfold cl; omega, k0, show tn = 1 by omega, asn_1]; omega))) hW hL (lv_sub hl [0, 1, 2, 3, 4, 5, 6, 7] rfl)
                        · refine lv_aload_n hx hb dX12_pivot_188 rfl (lv_at hl 5 rfl) ?_
                          refine g_X12_106 Cx hW (k := 231) (by decide) rfl (v := .ref (G.2.2.1 + 263)) (rd_54 iu_82) dX12_pivot_189 ?_
                          refine lv_iload hx hb dX12_pivot_192 (lv_at hl 0 rfl) ?_
                          refine sBv (sSt (As := [.ref (G.2.2.1 + 263), .int (iv q)]) (rest := []) Cx (s_X12_negate l G u_82 (ka := 263) (po := q) (Nka := 5280) (La := 6) iu_82 ⟨rfl, by decide, by decide, by decide, rfl⟩ (by omega) xu_82.1.1) (c_X12_540 Cx rfl rfl (rmk_ok (by omega) (by decide))) hW rfl hl.1 rfl (Nat.le_of_ble_eq_true rfl) dX12_pivot_194 ⟨Nat.le_of_ble_eq_true rfl, Nat.le_of_ble_eq_true rfl⟩) hL (fun u_95 H locs k_96 hW hL => ?_)
                          obtain ⟨iu_95, fu_95, xu_95⟩ := k_96
                          have F_97 := F_84.trans (fu_95.to (p1_sub rfl))
                          have F_98 := F_85.trans (fu_95.to (p1_sub rfl))
                          have F_99 := F_86.trans (fu_95.to (p1_sub rfl))
                          have F_100 := F_87.trans (fu_95.to (p1_sub rfl))
                          have F_101 := F_88.trans (fu_95.to (p1_sub rfl))
                          have g_102 : FF S u_95 (fl []) := FF.fr g_89 fu_95 rfl
                          have g_103 : FF S u_95 (fl []) := FF.fr g_90 fu_95 rfl
                          have g_104 : FF S28 u_95 (fl []) := FF.fr g_91 fu_95 rfl
                          have g_105 : FF S28 u_95 (fl []) := FF.fr g_92 fu_95 rfl
                          have g_106 : FF S58 u_95 (fl []) := FF.fr g_93 fu_95 rfl
                          refine lv_goto (tgt := 220) hx hb dX12_pivot_197 (by decide) ?_
                          exact join_220 u_95  _ _ _ iu_95 F_97 F_98 F_99 F_100 F_101 g_102 g_103 g_104 g_105 g_106 (FO.step hF (by omega) (by omega) (fun x a => by rw [show cl i j = q by unfold cl; omega] at a; rw [xu_95.2.2, uA_ne (fun z => by have := z.2; omega)]; exact xu_82.2 x a) (by rw [show cl i j = q by unfold cl; omega]; exact xu_95.1) (PC.c (by omega) (by omega) (by have k0 : nv (u_82.2.1 263) q = TV S i j := (by rw [xu_82.1.2.1, eD58]; unfold TV; rw [show cl i j = q by unfold cl; omega]); rw [show cl i j = q by unfold cl; omega, xu_95.2.1, k0, show tn = 0 by omega, asn_0]))) hW hL (lv_sub hl [0, 1, 2, 3, 4, 5, 6, 7] rfl)
                    · refine lv_aload_n hx hb dX12_pivot_130 rfl (lv_at hl 5 rfl) ?_
                      refine g_X12_103 Cx hW (k := 231) (by decide) rfl (v := .ref (G.2.2.1 + 262)) (rd_53 hI58) dX12_pivot_131 ?_
                      refine lv_iload hx hb dX12_pivot_134 (lv_at hl 0 rfl) ?_
                      refine lv_aload_n hx hb dX12_pivot_136 rfl (lv_at hl 5 rfl) ?_
                      refine g_X12_106 Cx hW (k := 231) (by decide) rfl (v := .ref (G.2.2.1 + 263)) (rd_54 hI58) dX12_pivot_137 ?_
                      refine lv_iload hx hb dX12_pivot_140 (lv_at hl 0 rfl) ?_
                      refine sBv (sSt (As := [.ref (G.2.2.1 + 262), .int (iv q), .ref (G.2.2.1 + 263), .int (iv q)]) (rest := []) Cx (s_X12_copy l G S58 (ka := 262) (po := q) (kb := 263) (qo := q) (Nka := 5280) (Nkb := 5280) (La := 6) hI58 ⟨rfl, by decide, by decide, by decide, rfl⟩ ⟨rfl, by decide, by decide, by decide, rfl⟩ (show (263 : Nat) ≠ 262 by decide) (by omega) (by rw [show S58.2.1 262 = S.2.1 262 from (funext fun j => ((hL58_ 262 rfl).2.1 j).trans ((hL28_ 262 rfl).2.1 j) : S58.2.1 262 = S.2.1 262)]; exact (hD.at (i := i) (j := j) (by omega) (by omega) (by omega) (by omega)))) (c_X12_233 Cx rfl rfl (rmk_ok (by omega) (by decide))) hW rfl hl.1 rfl (Nat.le_of_ble_eq_true rfl) dX12_pivot_142 ⟨Nat.le_of_ble_eq_true rfl, Nat.le_of_ble_eq_true rfl⟩) hL (fun u_107 H locs k_108 hW hL => ?_)
                      obtain ⟨iu_107, fu_107, xu_107⟩ := k_108
                      have F_109 := hFm58.trans (fu_107.to (p1_sub rfl))
                      have F_110 := hFL2858.trans (fu_107.to (p1_sub rfl))
                      have F_111 := hFL22658.trans (fu_107.to (p1_sub rfl))
                      have F_112 := hL58_.trans (fu_107.to (p1_sub rfl))
                      have F_113 := (Fr.rf : Fr S58 S58 (pl [233, 234, 235, 237, 238, 239, 240, 263])).trans (fu_107.to (p1_sub rfl))
                      have g_114 : FF S u_107 (fl []) := FF.fr hGm58 fu_107 rfl
                      have g_115 : FF S u_107 (fl []) := FF.fr hGL2858 fu_107 rfl
                      have g_116 : FF S28 u_107 (fl []) := FF.fr hGL22658 fu_107 rfl
                      have g_117 : FF S28 u_107 (fl []) := FF.fr gL58_ fu_107 rfl
                      have g_118 : FF S58 u_107 (fl []) := FF.fr (FF.rf : FF S58 S58 (fl [])) fu_107 rfl
                      refine lv_iload hx hb dX12_pivot_145 (lv_at hl 3 rfl) ?_
                      refine r_if_eq (tgt := 220) hx hb ⟨(by omega), (by omega)⟩ dX12_pivot_147 (by decide) (fun c_119 => ?_) (fun c_119 => ?_)
                      · exact join_220 u_107  _ _ _ iu_107 F_109 F_110 F_111 F_112 F_113 g_114 g_115 g_116 g_117 g_118 (FO.step hF (by omega) (by omega) (fun x a => by rw [show cl i j = q by unfold cl; omega] at a; exact xu_107.2 x a) (by rw [show cl i j = q by unfold cl; omega]; exact xu_107.1.1) (PC.b (by omega) (by omega) (by have k0 : nv (u_107.2.1 263) q = TV S i j := (by rw [xu_107.1.2.1, eD58]; unfold TV; rw [show cl i j = q by unfold cl; omega]); rw [show cl i j = q by unfold cl; omega, k0, show tn = 0 by omega, asn_0]))) hW hL (lv_sub hl [0, 1, 2, 3, 4, 5, 6, 7] rfl)
                      · refine lv_aload_n hx hb dX12_pivot_150 rfl (lv_at hl 5 rfl) ?_
                        refine g_X12_106 Cx hW (k := 231) (by decide) rfl (v := .ref (G.2.2.1 + 263)) (rd_54 iu_107) dX12_pivot_151 ?_
                        refine lv_iload hx hb dX12_pivot_154 (lv_at hl 0 rfl) ?_
                        refine sBv (sSt (As := [.ref (G.2.2.1 + 263), .int (iv q)]) (rest := []) Cx (s_X12_negate l G u_107 (ka := 263) (po := q) (Nka := 5280) (La := 6) iu_107 ⟨rfl, by decide, by decide, by decide, rfl⟩ (by omega) xu_107.1.1) (c_X12_540 Cx rfl rfl (rmk_ok (by omega) (by decide))) hW rfl hl.1 rfl (Nat.le_of_ble_eq_true rfl) dX12_pivot_156 ⟨Nat.le_of_ble_eq_true rfl, Nat.le_of_ble_eq_true rfl⟩) hL (fun u_120 H locs k_121 hW hL => ?_)
                        obtain ⟨iu_120, fu_120, xu_120⟩ := k_121
                        have F_122 := F_109.trans (fu_120.to (p1_sub rfl))
                        have F_123 := F_110.trans (fu_120.to (p1_sub rfl))
                        have F_124 := F_111.trans (fu_120.to (p1_sub rfl))
                        have F_125 := F_112.trans (fu_120.to (p1_sub rfl))
                        have F_126 := F_113.trans (fu_120.to (p1_sub rfl))
                        have g_127 : FF S u_120 (fl []) := FF.fr g_114 fu_120 rfl
                        have g_128 : FF S u_120 (fl []) := FF.fr g_115 fu_120 rfl
                        have g_129 : FF S28 u_120 (fl []) := FF.fr g_116 fu_120 rfl
                        have g_130 : FF S28 u_120 (fl []) := FF.fr g_117 fu_120 rfl
                        have g_131 : FF S58 u_120 (fl []) := FF.fr g_118 fu_120 rfl
                        refine lv_goto (tgt := 220) hx hb dX12_pivot_159 (by decide) ?_
                        exact join_220 u_120  _ _ _ iu_120 F_122 F_123 F_124 F_125 F_126 g_127 g_128 g_129 g_130 g_131 (FO.step hF (by omega) (by omega) (fun x a => by rw [show cl i j = q by unfold cl; omega] at a; rw [xu_120.2.2, uA_ne (fun z => by have := z.2; omega)]; exact xu_107.2 x a) (by rw [show cl i j = q by unfold cl; omega]; exact xu_120.1) (PC.b (by omega) (by omega) (by have k0 : nv (u_107.2.1 263) q = TV S i j := (by rw [xu_107.1.2.1, eD58]; unfold TV; rw [show cl i j = q by unfold cl; omega]); rw [show cl i j = q by unfold cl; omega, xu_120.2.1, k0, show tn = 1 by omega, asn_1]))) hW hL (lv_sub hl [0, 1, 2, 3, 4, 5, 6, 7] rfl)
                  · refine lv_iload hx hb dX12_pivot_85 (lv_at hl 1 rfl) ?_
                    refine lv_iload_n hx hb dX12_pivot_87 rfl (lv_at hl 7 rfl) ?_
                    refine r_icmp_ne (tgt := 122) hx hb ⟨(by omega), (by omega)⟩ ⟨(by omega), (by omega)⟩ dX12_pivot_88 (by decide) (fun c_132 => ?_) (fun c_132 => ?_)
                    · refine lv_iload hx hb dX12_pivot_122 (lv_at hl 2 rfl) ?_
                      refine lv_iload_n hx hb dX12_pivot_124 rfl (lv_at hl 6 rfl) ?_
                      refine lv_iconst (v := iv 1) hx hb dX12_pivot_125 (by decide) ?_
                      refine r_iadd hx hb dX12_pivot_126 ?_
                      refine r_icmp_ne (tgt := 162) hx hb ⟨(by omega), (by omega)⟩ ⟨(by omega), (by omega)⟩ dX12_pivot_127 (by decide) (fun c_133 => ?_) (fun c_133 => ?_)
                      · refine lv_iload hx hb dX12_pivot_162 (lv_at hl 1 rfl) ?_
                        refine lv_iload_n hx hb dX12_pivot_164 rfl (lv_at hl 7 rfl) ?_
                        refine r_icmp_ne (tgt := 200) hx hb ⟨(by omega), (by omega)⟩ ⟨(by omega), (by omega)⟩ dX12_pivot_165 (by decide) (fun c_134 => ?_) (fun c_134 => ?_)
                        · refine lv_aload_n hx hb dX12_pivot_200 rfl (lv_at hl 5 rfl) ?_
                          refine lv_iload hx hb dX12_pivot_201 (lv_at hl 2 rfl) ?_
                          refine lv_iload hx hb dX12_pivot_203 (lv_at hl 1 rfl) ?_
                          refine lv_iload_n hx hb dX12_pivot_205 rfl (lv_at hl 6 rfl) ?_
                          refine lv_iload_n hx hb dX12_pivot_206 rfl (lv_at hl 7 rfl) ?_
                          refine lv_iload_n hx hb dX12_pivot_207 rfl (lv_at hl 4 rfl) ?_
                          refine lv_iload hx hb dX12_pivot_208 (lv_at hl 0 rfl) ?_
                          refine lv_iload hx hb dX12_pivot_210 (lv_at hl 3 rfl) ?_
                          refine sBi (sV (As := [.int (iv i), .int (iv j), .int (iv rr), .int (iv ss), .int (iv pp), .int (iv q), .int (iv tn)]) (rest := []) (k := 231) Cx (r_X12_across l G S58 (ii := i) (jj := j) (rr := rr) (ss := ss) (pp := pp) (qq := q) (tn := tn) hI58 (by omega) (by omega) (by omega) (by omega) (by rw [show S58.2.1 262 = S.2.1 262 from (funext fun j => ((hL58_ 262 rfl).2.1 j).trans ((hL28_ 262 rfl).2.1 j) : S58.2.1 262 = S.2.1 262)]; exact (hD.at (i := i) (j := j) (by omega) (by omega) (by omega) (by omega))) (by rw [show S58.2.1 262 = S.2.1 262 from (funext fun j => ((hL58_ 262 rfl).2.1 j).trans ((hL28_ 262 rfl).2.1 j) : S58.2.1 262 = S.2.1 262)]; exact (hD.at (i := rr + 1) (j := ss) (by omega) (by omega) (by omega) (by omega))) (by rw [show S58.2.1 262 = S.2.1 262 from (funext fun j => ((hL58_ 262 rfl).2.1 j).trans ((hL28_ 262 rfl).2.1 j) : S58.2.1 262 = S.2.1 262)]; exact (hD.at (i := i) (j := ss) (by omega) (by omega) (by omega) (by omega))) (by rw [show S58.2.1 262 = S.2.1 262 from (funext fun j => ((hL58_ 262 rfl).2.1 j).trans ((hL28_ 262 rfl).2.1 j) : S58.2.1 262 = S.2.1 262)]; exact (hD.at (i := rr + 1) (j := j) (by omega) (by omega) (by omega) (by omega))) (by rw [show S58.2.1 264 = S.2.1 264 from (funext fun j => ((hL58_ 264 rfl).2.1 j).trans ((hL28_ 264 rfl).2.1 j) : S58.2.1 264 = S.2.1 264)]; exact hD.2.2.1) (by rw [show S58.2.1 264 = S.2.1 264 from (funext fun j => ((hL58_ 264 rfl).2.1 j).trans ((hL28_ 264 rfl).2.1 j) : S58.2.1 264 = S.2.1 264)]; exact hD.2.2.2)) (c_X12_544 Cx rfl rfl (rmk_ok (by omega) (by decide))) hW (by decide) rfl rfl rfl hl.1 rfl (Nat.le_of_ble_eq_true rfl) dX12_pivot_212 ⟨Nat.le_of_ble_eq_true rfl, Nat.le_of_ble_eq_true rfl⟩) hL (fun r_137 u_135 H locs k_136 hW hL => ?_)
                          obtain ⟨iu_135, fu_135, gu_135, xu_135⟩ := k_136
                          have F_138 := hFm58.trans (fu_135.to (pl_sub (by decide)))
                          have F_139 := hFL2858.trans fu_135
                          have F_140 := hFL22658.trans fu_135
                          have F_141 := hL58_.trans fu_135
                          have F_142 := (Fr.rf : Fr S58 S58 (pl [233, 234, 235, 237, 238, 239, 240, 263])).trans fu_135
                          have g_143 : FF S u_135 (fl []) := FF.trans hGm58 (FF.to gu_135 (fl_sub (by decide)))
                          have g_144 : FF S u_135 (fl []) := FF.trans hGL2858 (FF.to gu_135 (fl_sub (by decide)))
                          have g_145 : FF S28 u_135 (fl []) := FF.trans hGL22658 (FF.to gu_135 (fl_sub (by decide)))
                          have g_146 : FF S28 u_135 (fl []) := FF.trans gL58_ (FF.to gu_135 (fl_sub (by decide)))
                          have g_147 : FF S58 u_135 (fl []) := FF.trans (FF.rf : FF S58 S58 (fl [])) (FF.to gu_135 (fl_sub (by decide)))
                          refine r_if_ne (tgt := 220) hx hb ⟨(by omega), (by omega)⟩ dX12_pivot_215 (by decide) (fun c_148 => ?_) (fun c_148 => ?_)
                          · exact join_220 u_135  _ _ _ iu_135 F_138 F_139 F_140 F_141 F_142 g_143 g_144 g_145 g_146 g_147 (FO.step hF (by omega) (by omega) (fun x a => xu_135.2.2.1 x (by rw [show cl i j = q by unfold cl; omega] at a; exact a)) (by rw [show cl i j = q by unfold cl; omega]; exact (xu_135.2.1 (by omega)).1) (PC.d (by omega) (by omega) (by have e := (xu_135.2.1 (by omega)).2; rw [eD58, eN58] at e; obtain ⟨Q, R, h1, h2, h3, h4⟩ := e; refine ⟨Q, R, (by rw [show cl i j = q by unfold cl; omega]; exact h1), ?_, h3, h4⟩; unfold TV; rw [show cl i j = q by unfold cl; omega, show cl (rr + 1) ss = pp by unfold cl; omega]; exact h2))) hW hL (lv_sub hl [0, 1, 2, 3, 4, 5, 6, 7] rfl)
                          · refine lv_iconst (v := iv 0) hx hb dX12_pivot_218 (by decide) ?_
                            exact sZret Cx hr hlk hW hL (by omega) ⟨iu_135, F_138, g_143, ⟨(by omega), hD.same (g_143 58 rfl) (g_143 59 rfl) (g_143 60 rfl) (funext fun j => ((fu_135 262 rfl).2.1 j).trans (((hL58_ 262 rfl).2.1 j).trans ((hL28_ 262 rfl).2.1 j)) : u_135.2.1 262 = S.2.1 262) (funext fun j => ((fu_135 264 rfl).2.1 j).trans (((hL58_ 264 rfl).2.1 j).trans ((hL28_ 264 rfl).2.1 j)) : u_135.2.1 264 = S.2.1 264), (fun q => absurd q (by omega)), (fun _ => ⟨(funext fun j => ((fu_135 265 rfl).2.1 j).trans (((hL58_ 265 rfl).2.1 j).trans ((hL28_ 265 rfl).2.1 j)) : u_135.2.1 265 = S.2.1 265), (funext fun j => ((fu_135 266 rfl).2.1 j).trans (((hL58_ 266 rfl).2.1 j).trans ((hL28_ 266 rfl).2.1 j)) : u_135.2.1 266 = S.2.1 266)⟩), (fun _ => ⟨i, j, by omega, by omega, by omega, by omega, by omega, (by have y := xu_135.2.2.2 (by omega); rw [eD58, eN58] at y; unfold TV; rw [show cl i j = q by unfold cl; omega, show cl (rr + 1) ss = pp by unfold cl; omega]; exact y)⟩)⟩⟩ dX12_pivot_219
                        · refine lv_aload_n hx hb dX12_pivot_168 rfl (lv_at hl 5 rfl) ?_
                          refine g_X12_103 Cx hW (k := 231) (by decide) rfl (v := .ref (G.2.2.1 + 262)) (rd_53 hI58) dX12_pivot_169 ?_
                          refine lv_iload hx hb dX12_pivot_172 (lv_at hl 0 rfl) ?_
                          refine lv_aload_n hx hb dX12_pivot_174 rfl (lv_at hl 5 rfl) ?_
                          refine g_X12_106 Cx hW (k := 231) (by decide) rfl (v := .ref (G.2.2.1 + 263)) (rd_54 hI58) dX12_pivot_175 ?_
                          refine lv_iload hx hb dX12_pivot_178 (lv_at hl 0 rfl) ?_
                          refine sBv (sSt (As := [.ref (G.2.2.1 + 262), .int (iv q), .ref (G.2.2.1 + 263), .int (iv q)]) (rest := []) Cx (s_X12_copy l G S58 (ka := 262) (po := q) (kb := 263) (qo := q) (Nka := 5280) (Nkb := 5280) (La := 6) hI58 ⟨rfl, by decide, by decide, by decide, rfl⟩ ⟨rfl, by decide, by decide, by decide, rfl⟩ (show (263 : Nat) ≠ 262 by decide) (by omega) (by rw [show S58.2.1 262 = S.2.1 262 from (funext fun j => ((hL58_ 262 rfl).2.1 j).trans ((hL28_ 262 rfl).2.1 j) : S58.2.1 262 = S.2.1 262)]; exact (hD.at (i := i) (j := j) (by omega) (by omega) (by omega) (by omega)))) (c_X12_233 Cx rfl rfl (rmk_ok (by omega) (by decide))) hW rfl hl.1 rfl (Nat.le_of_ble_eq_true rfl) dX12_pivot_180 ⟨Nat.le_of_ble_eq_true rfl, Nat.le_of_ble_eq_true rfl⟩) hL (fun u_149 H locs k_150 hW hL => ?_)
                          obtain ⟨iu_149, fu_149, xu_149⟩ := k_150
                          have F_151 := hFm58.trans (fu_149.to (p1_sub rfl))
                          have F_152 := hFL2858.trans (fu_149.to (p1_sub rfl))
                          have F_153 := hFL22658.trans (fu_149.to (p1_sub rfl))
                          have F_154 := hL58_.trans (fu_149.to (p1_sub rfl))
                          have F_155 := (Fr.rf : Fr S58 S58 (pl [233, 234, 235, 237, 238, 239, 240, 263])).trans (fu_149.to (p1_sub rfl))
                          have g_156 : FF S u_149 (fl []) := FF.fr hGm58 fu_149 rfl
                          have g_157 : FF S u_149 (fl []) := FF.fr hGL2858 fu_149 rfl
                          have g_158 : FF S28 u_149 (fl []) := FF.fr hGL22658 fu_149 rfl
                          have g_159 : FF S28 u_149 (fl []) := FF.fr gL58_ fu_149 rfl
                          have g_160 : FF S58 u_149 (fl []) := FF.fr (FF.rf : FF S58 S58 (fl [])) fu_149 rfl
                          refine lv_iload hx hb dX12_pivot_183 (lv_at hl 3 rfl) ?_
                          refine r_if_ne (tgt := 220) hx hb ⟨(by omega), (by omega)⟩ dX12_pivot_185 (by decide) (fun c_161 => ?_) (fun c_161 => ?_)
                          · exact join_220 u_149  _ _ _ iu_149 F_151 F_152 F_153 F_154 F_155 g_156 g_157 g_158 g_159 g_160 (FO.step hF (by omega) (by omega) (fun x a => by rw [show cl i j = q by unfold cl; omega] at a; exact xu_149.2 x a) (by rw [show cl i j = q by unfold cl; omega]; exact xu_149.1.1) (PC.c (by omega) (by omega) (by have k0 : nv (u_149.2.1 263) q = TV S i j := (by rw [xu_149.1.2.1, eD58]; unfold TV; rw [show cl i j = q by unfold cl; omega]); rw [show cl i j = q by unfold cl; omega, k0, show tn = 1 by omega, asn_1]; omega))) hW hL (lv_sub hl [0, 1, 2, 3, 4, 5, 6, 7] rfl)
                          · refine lv_aload_n hx hb dX12_pivot_188 rfl (lv_at hl 5 rfl) ?_
                            refine g_X12_106 Cx hW (k := 231) (by decide) rfl (v := .ref (G.2.2.1 + 263)) (rd_54 iu_149) dX12_pivot_189 ?_
                            refine lv_iload hx hb dX12_pivot_192 (lv_at hl 0 rfl) ?_
                            refine sBv (sSt (As := [.ref (G.2.2.1 + 263), .int (iv q)]) (rest := []) Cx (s_X12_negate l G u_149 (ka := 263) (po := q) (Nka := 5280) (La := 6) iu_149 ⟨rfl, by decide, by decide, by decide, rfl⟩ (by omega) xu_149.1.1) (c_X12_540 Cx rfl rfl (rmk_ok (by omega) (by decide))) hW rfl hl.1 rfl (Nat.le_of_ble_eq_true rfl) dX12_pivot_194 ⟨Nat.le_of_ble_eq_true rfl, Nat.le_of_ble_eq_true rfl⟩) hL (fun u_162 H locs k_163 hW hL => ?_)
                            obtain ⟨iu_162, fu_162, xu_162⟩ := k_163
                            have F_164 := F_151.trans (fu_162.to (p1_sub rfl))
                            have F_165 := F_152.trans (fu_162.to (p1_sub rfl))
                            have F_166 := F_153.trans (fu_162.to (p1_sub rfl))
                            have F_167 := F_154.trans (fu_162.to (p1_sub rfl))
                            have F_168 := F_155.trans (fu_162.to (p1_sub rfl))
                            have g_169 : FF S u_162 (fl []) := FF.fr g_156 fu_162 rfl
                            have g_170 : FF S u_162 (fl []) := FF.fr g_157 fu_162 rfl
                            have g_171 : FF S28 u_162 (fl []) := FF.fr g_158 fu_162 rfl
                            have g_172 : FF S28 u_162 (fl []) := FF.fr g_159 fu_162 rfl
                            have g_173 : FF S58 u_162 (fl []) := FF.fr g_160 fu_162 rfl
                            refine lv_goto (tgt := 220) hx hb dX12_pivot_197 (by decide) ?_
                            exact join_220 u_162  _ _ _ iu_162 F_164 F_165 F_166 F_167 F_168 g_169 g_170 g_171 g_172 g_173 (FO.step hF (by omega) (by omega) (fun x a => by rw [show cl i j = q by unfold cl; omega] at a; rw [xu_162.2.2, uA_ne (fun z => by have := z.2; omega)]; exact xu_149.2 x a) (by rw [show cl i j = q by unfold cl; omega]; exact xu_162.1) (PC.c (by omega) (by omega) (by have k0 : nv (u_149.2.1 263) q = TV S i j := (by rw [xu_149.1.2.1, eD58]; unfold TV; rw [show cl i j = q by unfold cl; omega]); rw [show cl i j = q by unfold cl; omega, xu_162.2.1, k0, show tn = 0 by omega, asn_0]))) hW hL (lv_sub hl [0, 1, 2, 3, 4, 5, 6, 7] rfl)
                      · refine lv_aload_n hx hb dX12_pivot_130 rfl (lv_at hl 5 rfl) ?_
                        refine g_X12_103 Cx hW (k := 231) (by decide) rfl (v := .ref (G.2.2.1 + 262)) (rd_53 hI58) dX12_pivot_131 ?_
                        refine lv_iload hx hb dX12_pivot_134 (lv_at hl 0 rfl) ?_
                        refine lv_aload_n hx hb dX12_pivot_136 rfl (lv_at hl 5 rfl) ?_
                        refine g_X12_106 Cx hW (k := 231) (by decide) rfl (v := .ref (G.2.2.1 + 263)) (rd_54 hI58) dX12_pivot_137 ?_
                        refine lv_iload hx hb dX12_pivot_140 (lv_at hl 0 rfl) ?_
                        refine sBv (sSt (As := [.ref (G.2.2.1 + 262), .int (iv q), .ref (G.2.2.1 + 263), .int (iv q)]) (rest := []) Cx (s_X12_copy l G S58 (ka := 262) (po := q) (kb := 263) (qo := q) (Nka := 5280) (Nkb := 5280) (La := 6) hI58 ⟨rfl, by decide, by decide, by decide, rfl⟩ ⟨rfl, by decide, by decide, by decide, rfl⟩ (show (263 : Nat) ≠ 262 by decide) (by omega) (by rw [show S58.2.1 262 = S.2.1 262 from (funext fun j => ((hL58_ 262 rfl).2.1 j).trans ((hL28_ 262 rfl).2.1 j) : S58.2.1 262 = S.2.1 262)]; exact (hD.at (i := i) (j := j) (by omega) (by omega) (by omega) (by omega)))) (c_X12_233 Cx rfl rfl (rmk_ok (by omega) (by decide))) hW rfl hl.1 rfl (Nat.le_of_ble_eq_true rfl) dX12_pivot_142 ⟨Nat.le_of_ble_eq_true rfl, Nat.le_of_ble_eq_true rfl⟩) hL (fun u_174 H locs k_175 hW hL => ?_)
                        obtain ⟨iu_174, fu_174, xu_174⟩ := k_175
                        have F_176 := hFm58.trans (fu_174.to (p1_sub rfl))
                        have F_177 := hFL2858.trans (fu_174.to (p1_sub rfl))
                        have F_178 := hFL22658.trans (fu_174.to (p1_sub rfl))
                        have F_179 := hL58_.trans (fu_174.to (p1_sub rfl))
                        have F_180 := (Fr.rf : Fr S58 S58 (pl [233, 234, 235, 237, 238, 239, 240, 263])).trans (fu_174.to (p1_sub rfl))
                        have g_181 : FF S u_174 (fl []) := FF.fr hGm58 fu_174 rfl
                        have g_182 : FF S u_174 (fl []) := FF.fr hGL2858 fu_174 rfl
                        have g_183 : FF S28 u_174 (fl []) := FF.fr hGL22658 fu_174 rfl
                        have g_184 : FF S28 u_174 (fl []) := FF.fr gL58_ fu_174 rfl
                        have g_185 : FF S58 u_174 (fl []) := FF.fr (FF.rf : FF S58 S58 (fl [])) fu_174 rfl
                        refine lv_iload hx hb dX12_pivot_145 (lv_at hl 3 rfl) ?_
                        refine r_if_eq (tgt := 220) hx hb ⟨(by omega), (by omega)⟩ dX12_pivot_147 (by decide) (fun c_186 => ?_) (fun c_186 => ?_)
                        · exact join_220 u_174  _ _ _ iu_174 F_176 F_177 F_178 F_179 F_180 g_181 g_182 g_183 g_184 g_185 (FO.step hF (by omega) (by omega) (fun x a => by rw [show cl i j = q by unfold cl; omega] at a; exact xu_174.2 x a) (by rw [show cl i j = q by unfold cl; omega]; exact xu_174.1.1) (PC.b (by omega) (by omega) (by have k0 : nv (u_174.2.1 263) q = TV S i j := (by rw [xu_174.1.2.1, eD58]; unfold TV; rw [show cl i j = q by unfold cl; omega]); rw [show cl i j = q by unfold cl; omega, k0, show tn = 0 by omega, asn_0]))) hW hL (lv_sub hl [0, 1, 2, 3, 4, 5, 6, 7] rfl)
                        · refine lv_aload_n hx hb dX12_pivot_150 rfl (lv_at hl 5 rfl) ?_
                          refine g_X12_106 Cx hW (k := 231) (by decide) rfl (v := .ref (G.2.2.1 + 263)) (rd_54 iu_174) dX12_pivot_151 ?_
                          refine lv_iload hx hb dX12_pivot_154 (lv_at hl 0 rfl) ?_
                          refine sBv (sSt (As := [.ref (G.2.2.1 + 263), .int (iv q)]) (rest := []) Cx (s_X12_negate l G u_174 (ka := 263) (po := q) (Nka := 5280) (La := 6) iu_174 ⟨rfl, by decide, by decide, by decide, rfl⟩ (by omega) xu_174.1.1) (c_X12_540 Cx rfl rfl (rmk_ok (by omega) (by decide))) hW rfl hl.1 rfl (Nat.le_of_ble_eq_true rfl) dX12_pivot_156 ⟨Nat.le_of_ble_eq_true rfl, Nat.le_of_ble_eq_true rfl⟩) hL (fun u_187 H locs k_188 hW hL => ?_)
                          obtain ⟨iu_187, fu_187, xu_187⟩ := k_188
                          have F_189 := F_176.trans (fu_187.to (p1_sub rfl))
                          have F_190 := F_177.trans (fu_187.to (p1_sub rfl))
                          have F_191 := F_178.trans (fu_187.to (p1_sub rfl))
                          have F_192 := F_179.trans (fu_187.to (p1_sub rfl))
                          have F_193 := F_180.trans (fu_187.to (p1_sub rfl))
                          have g_194 : FF S u_187 (fl []) := FF.fr g_181 fu_187 rfl
                          have g_195 : FF S u_187 (fl []) := FF.fr g_182 fu_187 rfl
                          have g_196 : FF S28 u_187 (fl []) := FF.fr g_183 fu_187 rfl
                          have g_197 : FF S28 u_187 (fl []) := FF.fr g_184 fu_187 rfl
                          have g_198 : FF S58 u_187 (fl []) := FF.fr g_185 fu_187 rfl
                          refine lv_goto (tgt := 220) hx hb dX12_pivot_159 (by decide) ?_
                          exact join_220 u_187  _ _ _ iu_187 F_189 F_190 F_191 F_192 F_193 g_194 g_195 g_196 g_197 g_198 (FO.step hF (by omega) (by omega) (fun x a => by rw [show cl i j = q by unfold cl; omega] at a; rw [xu_187.2.2, uA_ne (fun z => by have := z.2; omega)]; exact xu_174.2 x a) (by rw [show cl i j = q by unfold cl; omega]; exact xu_187.1) (PC.b (by omega) (by omega) (by have k0 : nv (u_174.2.1 263) q = TV S i j := (by rw [xu_174.1.2.1, eD58]; unfold TV; rw [show cl i j = q by unfold cl; omega]); rw [show cl i j = q by unfold cl; omega, xu_187.2.1, k0, show tn = 1 by omega, asn_1]))) hW hL (lv_sub hl [0, 1, 2, 3, 4, 5, 6, 7] rfl)
                    · refine lv_aload_n hx hb dX12_pivot_91 rfl (lv_at hl 5 rfl) ?_
                      refine g_X12_109 Cx hW (k := 231) (by decide) rfl (v := .ref (G.2.2.1 + 264)) (rd_55 hI58) dX12_pivot_92 ?_
                      refine lv_iconst (v := iv 0) hx hb dX12_pivot_95 (by decide) ?_
                      refine lv_aload_n hx hb dX12_pivot_96 rfl (lv_at hl 5 rfl) ?_
                      refine g_X12_106 Cx hW (k := 231) (by decide) rfl (v := .ref (G.2.2.1 + 263)) (rd_54 hI58) dX12_pivot_97 ?_
                      refine lv_iload hx hb dX12_pivot_100 (lv_at hl 0 rfl) ?_
                      refine sBv (sSt (As := [.ref (G.2.2.1 + 264), .int (iv 0), .ref (G.2.2.1 + 263), .int (iv q)]) (rest := []) Cx (s_X12_copy l G S58 (ka := 264) (po := 0) (kb := 263) (qo := q) (Nka := 8) (Nkb := 5280) (La := 6) hI58 ⟨rfl, by decide, by decide, by decide, rfl⟩ ⟨rfl, by decide, by decide, by decide, rfl⟩ (show (263 : Nat) ≠ 264 by decide) (by omega) (by rw [show S58.2.1 264 = S.2.1 264 from (funext fun j => ((hL58_ 264 rfl).2.1 j).trans ((hL28_ 264 rfl).2.1 j) : S58.2.1 264 = S.2.1 264)]; exact hD.2.2.1)) (c_X12_233 Cx rfl rfl (rmk_ok (by omega) (by decide))) hW rfl hl.1 rfl (Nat.le_of_ble_eq_true rfl) dX12_pivot_102 ⟨Nat.le_of_ble_eq_true rfl, Nat.le_of_ble_eq_true rfl⟩) hL (fun u_199 H locs k_200 hW hL => ?_)
                      obtain ⟨iu_199, fu_199, xu_199⟩ := k_200
                      have F_201 := hFm58.trans (fu_199.to (p1_sub rfl))
                      have F_202 := hFL2858.trans (fu_199.to (p1_sub rfl))
                      have F_203 := hFL22658.trans (fu_199.to (p1_sub rfl))
                      have F_204 := hL58_.trans (fu_199.to (p1_sub rfl))
                      have F_205 := (Fr.rf : Fr S58 S58 (pl [233, 234, 235, 237, 238, 239, 240, 263])).trans (fu_199.to (p1_sub rfl))
                      have g_206 : FF S u_199 (fl []) := FF.fr hGm58 fu_199 rfl
                      have g_207 : FF S u_199 (fl []) := FF.fr hGL2858 fu_199 rfl
                      have g_208 : FF S28 u_199 (fl []) := FF.fr hGL22658 fu_199 rfl
                      have g_209 : FF S28 u_199 (fl []) := FF.fr gL58_ fu_199 rfl
                      have g_210 : FF S58 u_199 (fl []) := FF.fr (FF.rf : FF S58 S58 (fl [])) fu_199 rfl
                      refine lv_iload hx hb dX12_pivot_105 (lv_at hl 3 rfl) ?_
                      refine r_if_eq (tgt := 220) hx hb ⟨(by omega), (by omega)⟩ dX12_pivot_107 (by decide) (fun c_211 => ?_) (fun c_211 => ?_)
                      · exact join_220 u_199  _ _ _ iu_199 F_201 F_202 F_203 F_204 F_205 g_206 g_207 g_208 g_209 g_210 (FO.step hF (by omega) (by omega) (fun x a => by rw [show cl i j = q by unfold cl; omega] at a; exact xu_199.2 x a) (by rw [show cl i j = q by unfold cl; omega]; exact xu_199.1.1) (PC.a (by omega) (by omega) (by have k0 : nv (u_199.2.1 263) q = nv (S.2.1 264) 0 := (by rw [xu_199.1.2.1, eN58]); rw [show cl i j = q by unfold cl; omega, k0, show tn = 0 by omega, asn_0]))) hW hL (lv_sub hl [0, 1, 2, 3, 4, 5, 6, 7] rfl)
                      · refine lv_aload_n hx hb dX12_pivot_110 rfl (lv_at hl 5 rfl) ?_
                        refine g_X12_106 Cx hW (k := 231) (by decide) rfl (v := .ref (G.2.2.1 + 263)) (rd_54 iu_199) dX12_pivot_111 ?_
                        refine lv_iload hx hb dX12_pivot_114 (lv_at hl 0 rfl) ?_
                        refine sBv (sSt (As := [.ref (G.2.2.1 + 263), .int (iv q)]) (rest := []) Cx (s_X12_negate l G u_199 (ka := 263) (po := q) (Nka := 5280) (La := 6) iu_199 ⟨rfl, by decide, by decide, by decide, rfl⟩ (by omega) xu_199.1.1) (c_X12_540 Cx rfl rfl (rmk_ok (by omega) (by decide))) hW rfl hl.1 rfl (Nat.le_of_ble_eq_true rfl) dX12_pivot_116 ⟨Nat.le_of_ble_eq_true rfl, Nat.le_of_ble_eq_true rfl⟩) hL (fun u_212 H locs k_213 hW hL => ?_)
                        obtain ⟨iu_212, fu_212, xu_212⟩ := k_213
                        have F_214 := F_201.trans (fu_212.to (p1_sub rfl))
                        have F_215 := F_202.trans (fu_212.to (p1_sub rfl))
                        have F_216 := F_203.trans (fu_212.to (p1_sub rfl))
                        have F_217 := F_204.trans (fu_212.to (p1_sub rfl))
                        have F_218 := F_205.trans (fu_212.to (p1_sub rfl))
                        have g_219 : FF S u_212 (fl []) := FF.fr g_206 fu_212 rfl
                        have g_220 : FF S u_212 (fl []) := FF.fr g_207 fu_212 rfl
                        have g_221 : FF S28 u_212 (fl []) := FF.fr g_208 fu_212 rfl
                        have g_222 : FF S28 u_212 (fl []) := FF.fr g_209 fu_212 rfl
                        have g_223 : FF S58 u_212 (fl []) := FF.fr g_210 fu_212 rfl
                        refine lv_goto (tgt := 220) hx hb dX12_pivot_119 (by decide) ?_
                        exact join_220 u_212  _ _ _ iu_212 F_214 F_215 F_216 F_217 F_218 g_219 g_220 g_221 g_222 g_223 (FO.step hF (by omega) (by omega) (fun x a => by rw [show cl i j = q by unfold cl; omega] at a; rw [xu_212.2.2, uA_ne (fun z => by have := z.2; omega)]; exact xu_199.2 x a) (by rw [show cl i j = q by unfold cl; omega]; exact xu_212.1) (PC.a (by omega) (by omega) (by have k0 : nv (u_199.2.1 263) q = nv (S.2.1 264) 0 := (by rw [xu_199.1.2.1, eN58]); rw [show cl i j = q by unfold cl; omega, xu_212.2.1, k0, show tn = 1 by omega, asn_1]))) hW hL (lv_sub hl [0, 1, 2, 3, 4, 5, 6, 7] rfl)
            exact loop_58 (_ + 1) S28 0 _ _ _ (Nat.lt_succ_self _) hI28 hFm28 hL28_ (Fr.rf : Fr S28 S28 (pl [233, 234, 235, 237, 238, 239, 240, 263])) Fr.rf hGm28 gL28_ (FF.rf : FF S28 S28 (fl [])) FF.rf (by omega) hFo hW hL (lv_sub hl [0, 1, 2, 3, 4, 5, 6] rfl)
          · refine lv_aload_n hx hb dX12_pivot_45 rfl (lv_at hl 3 rfl) ?_
            have q_224 : 0 ≤ S.1 231 60 ∧ S.1 231 60 ≤ 1 := hI.fi 60
            refine g_X12_535 Cx hW (k := 231) (by decide) rfl (v := S.1 231 60) (gL28_ 60 rfl) dX12_pivot_46 ?_
            refine r_if_ne (tgt := 55) hx hb ⟨(by omega), (by omega)⟩ dX12_pivot_49 (by decide) (fun c_225 => ?_) (fun c_225 => ?_)
            · refine lv_iconst (v := iv 0) hx hb dX12_pivot_55 (by decide) ?_
              refine lv_istore (lv' := [(6, .int (iv 0)), (5, .int (iv i)), (4, .int (iv tn)), (3, .int (iv pp)), (0, .ref (G.2.2.1 + 231)), (1, .int (iv rr)), (2, .int (iv ss))]) hx hb dX12_pivot_56 hl (by decide) rfl (fun ls hl => ?_)
              have loop_58 : ∀ (fuel : Nat) (S58 : sS) (j : Int) (H : Heap) (locs : List Loc) (ls : Array Slot), (S.1 231 59 + 1 - j).toNat < fuel → (dX G S58) → (Fr S S58 (pl [233, 234, 235, 237, 238, 239, 240, 262, 263, 264, 265, 266])) → (Fr S S58 (pl [233, 234, 235, 237, 238, 239, 240, 263])) → (Fr S28 S58 (pl [233, 234, 235, 237, 238, 239, 240, 263])) → (Fr S28 S58 (pl [233, 234, 235, 237, 238, 239, 240, 263])) → (FF S S58 (fl [])) → (FF S S58 (fl [])) → (FF S28 S58 (fl [])) → (FF S28 S58 (fl [])) → (0 ≤ j ∧ j ≤ S.1 231 59 + 1) → (FO S (S58.2.1 263) rr ss tn i j) → sW G 294 S58 H → sL G locs → lv_has ls 8 [(6, .int (iv j)), (5, .int (iv i)), (4, .int (iv tn)), (3, .int (iv pp)), (0, .ref (G.2.2.1 + 231)), (1, .int (iv rr)), (2, .int (iv ss))] → W p l e (rmk 7 0 0) s m args below meth c H locs 0 0 (MQ below (sQi G 294 (fun r u => dX G u ∧ Fr S u (pl [233, 234, 235, 237, 238, 239, 240, 262, 263, 264, 265, 266]) ∧ FF S u (fl []) ∧ ((0 ≤ r ∧ r ≤ 1) ∧ DOK u ∧ Hd (r = 1 → ∃ tn : Int, (0 ≤ tn ∧ tn ≤ 1) ∧ ((tn = 1 → TV S (rr + 1) ss < 0) ∧ (tn = 0 → 0 < TV S (rr + 1) ss)) ∧ PV S u rr ss tn) ∧ Hd (r = 0 → u.2.1 265 = S.2.1 265 ∧ u.2.1 266 = S.2.1 266) ∧ Hd (r = 0 → ∃ a b, (0 ≤ a ∧ a ≤ S.1 231 58 + 1) ∧ (a = 1 → S.1 231 60 = 1) ∧ (0 ≤ b ∧ b ≤ S.1 231 59) ∧ a ≠ rr + 1 ∧ b ≠ ss ∧ bgN ((TV S a b * TV S (rr + 1) ss - TV S a ss * TV S (rr + 1) b) / nv (S.2.1 264) 0))))) args s 0 0 (sF G)) (F0 m 58 ls []) := by
                intro fuel
                induction fuel with
                | zero => intro S58 j H locs ls hmeas hI58 hFm58 hFL2858 hFL22658 hL58_ hGm58 hGL2858 hGL22658 gL58_ hj hF hW hL hl; exact absurd hmeas (Nat.not_lt_zero _)
                | succ fuel ih_58 =>
                  intro S58 j H locs ls hmeas hI58 hFm58 hFL2858 hFL22658 hL58_ hGm58 hGL2858 hGL22658 gL58_ hj hF hW hL hl
                  have eD58 : S58.2.1 262 = S.2.1 262 := (funext fun j => ((hL58_ 262 rfl).2.1 j).trans ((hL28_ 262 rfl).2.1 j) : S58.2.1 262 = S.2.1 262)
                  have eN58 : S58.2.1 264 = S.2.1 264 := (funext fun j => ((hL58_ 264 rfl).2.1 j).trans ((hL28_ 264 rfl).2.1 j) : S58.2.1 264 = S.2.1 264)
                  refine lv_iload hx hb dX12_pivot_58 (lv_at hl 0 rfl) ?_
                  refine lv_aload_n hx hb dX12_pivot_60 rfl (lv_at hl 4 rfl) ?_
                  have q_226 : (-2147483648) ≤ S.1 231 59 ∧ S.1 231 59 ≤ 2147483647 := hI.fi 59
                  refine g_X12_526 Cx hW (k := 231) (by decide) rfl (v := S.1 231 59) ((gL58_ 59 rfl).trans (gL28_ 59 rfl)) dX12_pivot_61 ?_
                  refine r_icmp_gt (tgt := 226) hx hb ⟨(by omega), (by omega)⟩ ⟨(by omega), (by omega)⟩ dX12_pivot_64 (by decide) (fun c_227 => ?_) (fun c_227 => ?_)
                  · exact join_226 S58  _ _ _ hI58 hFm58 hFL2858 hFL22658 hGm58 hGL2858 hGL22658 (by have e := hF; rw [show j = S.1 231 59 + 1 by omega] at e; exact e.row) hW hL (lv_sub hl [1, 2, 3, 4, 5, 6] rfl)
                  · refine lv_aload_n hx hb dX12_pivot_67 rfl (lv_at hl 4 rfl) ?_
                    refine lv_iload hx hb dX12_pivot_68 (lv_at hl 1 rfl) ?_
                    refine lv_iload hx hb dX12_pivot_70 (lv_at hl 0 rfl) ?_
                    refine sBi (sV (As := [.int (iv i), .int (iv j)]) (rest := []) (k := 231) Cx (s_X12_cell l G S58 (i := i) (j := j) (by omega) (by omega)) (c_X12_529 Cx rfl rfl (rmk_ok (by omega) (by decide))) hW (by decide) rfl rfl rfl hl.1 rfl (Nat.le_of_ble_eq_true rfl) dX12_pivot_72 ⟨Nat.le_of_ble_eq_true rfl, Nat.le_of_ble_eq_true rfl⟩) hL (fun q u_228 H locs k_229 hW hL => ?_)
                    obtain ⟨eu_228, xu_228⟩ := k_229
                    rw [eu_228] at hW
                    refine lv_istore (lv' := [(7, .int (iv q)), (6, .int (iv j)), (5, .int (iv i)), (4, .int (iv tn)), (3, .int (iv pp)), (0, .ref (G.2.2.1 + 231)), (1, .int (iv rr)), (2, .int (iv ss))]) hx hb dX12_pivot_75 hl (by decide) rfl (fun ls hl => ?_)
                    have join_220 : ∀ (S220 : sS)  (H : Heap) (locs : List Loc) (ls : Array Slot), (dX G S220) → (Fr S S220 (pl [233, 234, 235, 237, 238, 239, 240, 262, 263, 264, 265, 266])) → (Fr S S220 (pl [233, 234, 235, 237, 238, 239, 240, 263])) → (Fr S28 S220 (pl [233, 234, 235, 237, 238, 239, 240, 263])) → (Fr S28 S220 (pl [233, 234, 235, 237, 238, 239, 240, 263])) → (Fr S58 S220 (pl [233, 234, 235, 237, 238, 239, 240, 263])) → (FF S S220 (fl [])) → (FF S S220 (fl [])) → (FF S28 S220 (fl [])) → (FF S28 S220 (fl [])) → (FF S58 S220 (fl [])) → (FO S (S220.2.1 263) rr ss tn i (j + 1)) → sW G 294 S220 H → sL G locs → lv_has ls 8 [(7, .int (iv q)), (6, .int (iv j)), (5, .int (iv i)), (4, .int (iv tn)), (3, .int (iv pp)), (0, .ref (G.2.2.1 + 231)), (1, .int (iv rr)), (2, .int (iv ss))] → W p l e (rmk 7 0 0) s m args below meth c H locs 0 0 (MQ below (sQi G 294 (fun r u => dX G u ∧ Fr S u (pl [233, 234, 235, 237, 238, 239, 240, 262, 263, 264, 265, 266]) ∧ FF S u (fl []) ∧ ((0 ≤ r ∧ r ≤ 1) ∧ DOK u ∧ Hd (r = 1 → ∃ tn : Int, (0 ≤ tn ∧ tn ≤ 1) ∧ ((tn = 1 → TV S (rr + 1) ss < 0) ∧ (tn = 0 → 0 < TV S (rr + 1) ss)) ∧ PV S u rr ss tn) ∧ Hd (r = 0 → u.2.1 265 = S.2.1 265 ∧ u.2.1 266 = S.2.1 266) ∧ Hd (r = 0 → ∃ a b, (0 ≤ a ∧ a ≤ S.1 231 58 + 1) ∧ (a = 1 → S.1 231 60 = 1) ∧ (0 ≤ b ∧ b ≤ S.1 231 59) ∧ a ≠ rr + 1 ∧ b ≠ ss ∧ bgN ((TV S a b * TV S (rr + 1) ss - TV S a ss * TV S (rr + 1) b) / nv (S.2.1 264) 0))))) args s 0 0 (sF G)) (F0 m 220 ls []) := by
                      intro S220  H locs ls hI220 hFm220 hFL28220 hFL226220 hFL58220 hL220_ hGm220 hGL28220 hGL226220 hGL58220 gL220_ hF220 hW hL hl
                      refine lv_iinc (v := iv (j + 1)) (lv' := [(6, .int (iv (j + 1))), (7, .int (iv q)), (5, .int (iv i)), (4, .int (iv tn)), (3, .int (iv pp)), (0, .ref (G.2.2.1 + 231)), (1, .int (iv rr)), (2, .int (iv ss))]) hx hb dX12_pivot_220 hl (k := 1) rfl ((Int32.ofInt_add _ _).symm) (by decide) rfl (fun ls hl => ?_)
                      refine lv_goto (tgt := 58) hx hb dX12_pivot_223 (by decide) ?_
                      exact ih_58 S220 (j + 1) _ _ _ (by omega) hI220 hFm220 hFL28220 hFL226220 hFL58220 hGm220 hGL28220 hGL226220 hGL58220 (by omega) hF220 hW hL (lv_sub hl [0, 2, 3, 4, 5, 6, 7] rfl)
                    refine lv_iload hx hb dX12_pivot_77 (lv_at hl 2 rfl) ?_
                    refine lv_iload_n hx hb dX12_pivot_79 rfl (lv_at hl 6 rfl) ?_
                    refine lv_iconst (v := iv 1) hx hb dX12_pivot_80 (by decide) ?_
                    refine r_iadd hx hb dX12_pivot_81 ?_
                    refine r_icmp_ne (tgt := 122) hx hb ⟨(by omega), (by omega)⟩ ⟨(by omega), (by omega)⟩ dX12_pivot_82 (by decide) (fun c_230 => ?_) (fun c_230 => ?_)
                    · refine lv_iload hx hb dX12_pivot_122 (lv_at hl 2 rfl) ?_
                      refine lv_iload_n hx hb dX12_pivot_124 rfl (lv_at hl 6 rfl) ?_
                      refine lv_iconst (v := iv 1) hx hb dX12_pivot_125 (by decide) ?_
                      refine r_iadd hx hb dX12_pivot_126 ?_
                      refine r_icmp_ne (tgt := 162) hx hb ⟨(by omega), (by omega)⟩ ⟨(by omega), (by omega)⟩ dX12_pivot_127 (by decide) (fun c_231 => ?_) (fun c_231 => ?_)
                      · refine lv_iload hx hb dX12_pivot_162 (lv_at hl 1 rfl) ?_
                        refine lv_iload_n hx hb dX12_pivot_164 rfl (lv_at hl 7 rfl) ?_
                        refine r_icmp_ne (tgt := 200) hx hb ⟨(by omega), (by omega)⟩ ⟨(by omega), (by omega)⟩ dX12_pivot_165 (by decide) (fun c_232 => ?_) (fun c_232 => ?_)
                        · refine lv_aload_n hx hb dX12_pivot_200 rfl (lv_at hl 5 rfl) ?_
                          refine lv_iload hx hb dX12_pivot_201 (lv_at hl 2 rfl) ?_
                          refine lv_iload hx hb dX12_pivot_203 (lv_at hl 1 rfl) ?_
                          refine lv_iload_n hx hb dX12_pivot_205 rfl (lv_at hl 6 rfl) ?_
                          refine lv_iload_n hx hb dX12_pivot_206 rfl (lv_at hl 7 rfl) ?_
                          refine lv_iload_n hx hb dX12_pivot_207 rfl (lv_at hl 4 rfl) ?_
                          refine lv_iload hx hb dX12_pivot_208 (lv_at hl 0 rfl) ?_
                          refine lv_iload hx hb dX12_pivot_210 (lv_at hl 3 rfl) ?_
                          refine sBi (sV (As := [.int (iv i), .int (iv j), .int (iv rr), .int (iv ss), .int (iv pp), .int (iv q), .int (iv tn)]) (rest := []) (k := 231) Cx (r_X12_across l G S58 (ii := i) (jj := j) (rr := rr) (ss := ss) (pp := pp) (qq := q) (tn := tn) hI58 (by omega) (by omega) (by omega) (by omega) (by rw [show S58.2.1 262 = S.2.1 262 from (funext fun j => ((hL58_ 262 rfl).2.1 j).trans ((hL28_ 262 rfl).2.1 j) : S58.2.1 262 = S.2.1 262)]; exact (hD.at (i := i) (j := j) (by omega) (by omega) (by omega) (by omega))) (by rw [show S58.2.1 262 = S.2.1 262 from (funext fun j => ((hL58_ 262 rfl).2.1 j).trans ((hL28_ 262 rfl).2.1 j) : S58.2.1 262 = S.2.1 262)]; exact (hD.at (i := rr + 1) (j := ss) (by omega) (by omega) (by omega) (by omega))) (by rw [show S58.2.1 262 = S.2.1 262 from (funext fun j => ((hL58_ 262 rfl).2.1 j).trans ((hL28_ 262 rfl).2.1 j) : S58.2.1 262 = S.2.1 262)]; exact (hD.at (i := i) (j := ss) (by omega) (by omega) (by omega) (by omega))) (by rw [show S58.2.1 262 = S.2.1 262 from (funext fun j => ((hL58_ 262 rfl).2.1 j).trans ((hL28_ 262 rfl).2.1 j) : S58.2.1 262 = S.2.1 262)]; exact (hD.at (i := rr + 1) (j := j) (by omega) (by omega) (by omega) (by omega))) (by rw [show S58.2.1 264 = S.2.1 264 from (funext fun j => ((hL58_ 264 rfl).2.1 j).trans ((hL28_ 264 rfl).2.1 j) : S58.2.1 264 = S.2.1 264)]; exact hD.2.2.1) (by rw [show S58.2.1 264 = S.2.1 264 from (funext fun j => ((hL58_ 264 rfl).2.1 j).trans ((hL28_ 264 rfl).2.1 j) : S58.2.1 264 = S.2.1 264)]; exact hD.2.2.2)) (c_X12_544 Cx rfl rfl (rmk_ok (by omega) (by decide))) hW (by decide) rfl rfl rfl hl.1 rfl (Nat.le_of_ble_eq_true rfl) dX12_pivot_212 ⟨Nat.le_of_ble_eq_true rfl, Nat.le_of_ble_eq_true rfl⟩) hL (fun r_235 u_233 H locs k_234 hW hL => ?_)
                          obtain ⟨iu_233, fu_233, gu_233, xu_233⟩ := k_234
                          have F_236 := hFm58.trans (fu_233.to (pl_sub (by decide)))
                          have F_237 := hFL2858.trans fu_233
                          have F_238 := hFL22658.trans fu_233
                          have F_239 := hL58_.trans fu_233
                          have F_240 := (Fr.rf : Fr S58 S58 (pl [233, 234, 235, 237, 238, 239, 240, 263])).trans fu_233
                          have g_241 : FF S u_233 (fl []) := FF.trans hGm58 (FF.to gu_233 (fl_sub (by decide)))
                          have g_242 : FF S u_233 (fl []) := FF.trans hGL2858 (FF.to gu_233 (fl_sub (by decide)))
                          have g_243 : FF S28 u_233 (fl []) := FF.trans hGL22658 (FF.to gu_233 (fl_sub (by decide)))
                          have g_244 : FF S28 u_233 (fl []) := FF.trans gL58_ (FF.to gu_233 (fl_sub (by decide)))
                          have g_245 : FF S58 u_233 (fl []) := FF.trans (FF.rf : FF S58 S58 (fl [])) (FF.to gu_233 (fl_sub (by decide)))
                          refine r_if_ne (tgt := 220) hx hb ⟨(by omega), (by omega)⟩ dX12_pivot_215 (by decide) (fun c_246 => ?_) (fun c_246 => ?_)
                          · exact join_220 u_233  _ _ _ iu_233 F_236 F_237 F_238 F_239 F_240 g_241 g_242 g_243 g_244 g_245 (FO.step hF (by omega) (by omega) (fun x a => xu_233.2.2.1 x (by rw [show cl i j = q by unfold cl; omega] at a; exact a)) (by rw [show cl i j = q by unfold cl; omega]; exact (xu_233.2.1 (by omega)).1) (PC.d (by omega) (by omega) (by have e := (xu_233.2.1 (by omega)).2; rw [eD58, eN58] at e; obtain ⟨Q, R, h1, h2, h3, h4⟩ := e; refine ⟨Q, R, (by rw [show cl i j = q by unfold cl; omega]; exact h1), ?_, h3, h4⟩; unfold TV; rw [show cl i j = q by unfold cl; omega, show cl (rr + 1) ss = pp by unfold cl; omega]; exact h2))) hW hL (lv_sub hl [0, 1, 2, 3, 4, 5, 6, 7] rfl)
                          · refine lv_iconst (v := iv 0) hx hb dX12_pivot_218 (by decide) ?_
                            exact sZret Cx hr hlk hW hL (by omega) ⟨iu_233, F_236, g_241, ⟨(by omega), hD.same (g_241 58 rfl) (g_241 59 rfl) (g_241 60 rfl) (funext fun j => ((fu_233 262 rfl).2.1 j).trans (((hL58_ 262 rfl).2.1 j).trans ((hL28_ 262 rfl).2.1 j)) : u_233.2.1 262 = S.2.1 262) (funext fun j => ((fu_233 264 rfl).2.1 j).trans (((hL58_ 264 rfl).2.1 j).trans ((hL28_ 264 rfl).2.1 j)) : u_233.2.1 264 = S.2.1 264), (fun q => absurd q (by omega)), (fun _ => ⟨(funext fun j => ((fu_233 265 rfl).2.1 j).trans (((hL58_ 265 rfl).2.1 j).trans ((hL28_ 265 rfl).2.1 j)) : u_233.2.1 265 = S.2.1 265), (funext fun j => ((fu_233 266 rfl).2.1 j).trans (((hL58_ 266 rfl).2.1 j).trans ((hL28_ 266 rfl).2.1 j)) : u_233.2.1 266 = S.2.1 266)⟩), (fun _ => ⟨i, j, by omega, by omega, by omega, by omega, by omega, (by have y := xu_233.2.2.2 (by omega); rw [eD58, eN58] at y; unfold TV; rw [show cl i j = q by unfold cl; omega, show cl (rr + 1) ss = pp by unfold cl; omega]; exact y)⟩)⟩⟩ dX12_pivot_219
                        · refine lv_aload_n hx hb dX12_pivot_168 rfl (lv_at hl 5 rfl) ?_
                          refine g_X12_103 Cx hW (k := 231) (by decide) rfl (v := .ref (G.2.2.1 + 262)) (rd_53 hI58) dX12_pivot_169 ?_
                          refine lv_iload hx hb dX12_pivot_172 (lv_at hl 0 rfl) ?_
                          refine lv_aload_n hx hb dX12_pivot_174 rfl (lv_at hl 5 rfl) ?_
                          refine g_X12_106 Cx hW (k := 231) (by decide) rfl (v := .ref (G.2.2.1 + 263)) (rd_54 hI58) dX12_pivot_175 ?_
                          refine lv_iload hx hb dX12_pivot_178 (lv_at hl 0 rfl) ?_
                          refine sBv (sSt (As := [.ref (G.2.2.1 + 262), .int (iv q), .ref (G.2.2.1 + 263), .int (iv q)]) (rest := []) Cx (s_X12_copy l G S58 (ka := 262) (po := q) (kb := 263) (qo := q) (Nka := 5280) (Nkb := 5280) (La := 6) hI58 ⟨rfl, by decide, by decide, by decide, rfl⟩ ⟨rfl, by decide, by decide, by decide, rfl⟩ (show (263 : Nat) ≠ 262 by decide) (by omega) (by rw [show S58.2.1 262 = S.2.1 262 from (funext fun j => ((hL58_ 262 rfl).2.1 j).trans ((hL28_ 262 rfl).2.1 j) : S58.2.1 262 = S.2.1 262)]; exact (hD.at (i := i) (j := j) (by omega) (by omega) (by omega) (by omega)))) (c_X12_233 Cx rfl rfl (rmk_ok (by omega) (by decide))) hW rfl hl.1 rfl (Nat.le_of_ble_eq_true rfl) dX12_pivot_180 ⟨Nat.le_of_ble_eq_true rfl, Nat.le_of_ble_eq_true rfl⟩) hL (fun u_247 H locs k_248 hW hL => ?_)
                          obtain ⟨iu_247, fu_247, xu_247⟩ := k_248
                          have F_249 := hFm58.trans (fu_247.to (p1_sub rfl))
                          have F_250 := hFL2858.trans (fu_247.to (p1_sub rfl))
                          have F_251 := hFL22658.trans (fu_247.to (p1_sub rfl))
                          have F_252 := hL58_.trans (fu_247.to (p1_sub rfl))
                          have F_253 := (Fr.rf : Fr S58 S58 (pl [233, 234, 235, 237, 238, 239, 240, 263])).trans (fu_247.to (p1_sub rfl))
                          have g_254 : FF S u_247 (fl []) := FF.fr hGm58 fu_247 rfl
                          have g_255 : FF S u_247 (fl []) := FF.fr hGL2858 fu_247 rfl
                          have g_256 : FF S28 u_247 (fl []) := FF.fr hGL22658 fu_247 rfl
                          have g_257 : FF S28 u_247 (fl []) := FF.fr gL58_ fu_247 rfl
                          have g_258 : FF S58 u_247 (fl []) := FF.fr (FF.rf : FF S58 S58 (fl [])) fu_247 rfl
                          refine lv_iload hx hb dX12_pivot_183 (lv_at hl 3 rfl) ?_
                          refine r_if_ne (tgt := 220) hx hb ⟨(by omega), (by omega)⟩ dX12_pivot_185 (by decide) (fun c_259 => ?_) (fun c_259 => ?_)
                          · exact join_220 u_247  _ _ _ iu_247 F_249 F_250 F_251 F_252 F_253 g_254 g_255 g_256 g_257 g_258 (FO.step hF (by omega) (by omega) (fun x a => by rw [show cl i j = q by unfold cl; omega] at a; exact xu_247.2 x a) (by rw [show cl i j = q by unfold cl; omega]; exact xu_247.1.1) (PC.c (by omega) (by omega) (by have k0 : nv (u_247.2.1 263) q = TV S i j := (by rw [xu_247.1.2.1, eD58]; unfold TV; rw [show cl i j = q by unfold cl; omega]); rw [show cl i j = q by unfold cl; omega, k0, show tn = 1 by omega, asn_1]; omega))) hW hL (lv_sub hl [0, 1, 2, 3, 4, 5, 6, 7] rfl)
                          · refine lv_aload_n hx hb dX12_pivot_188 rfl (lv_at hl 5 rfl) ?_
                            refine g_X12_106 Cx hW (k := 231) (by decide) rfl (v := .ref (G.2.2.1 + 263)) (rd_54 iu_247) dX12_pivot_189 ?_
                            refine lv_iload hx hb dX12_pivot_192 (lv_at hl 0 rfl) ?_
                            refine sBv (sSt (As := [.ref (G.2.2.1 + 263), .int (iv q)]) (rest := []) Cx (s_X12_negate l G u_247 (ka := 263) (po := q) (Nka := 5280) (La := 6) iu_247 ⟨rfl, by decide, by decide, by decide, rfl⟩ (by omega) xu_247.1.1) (c_X12_540 Cx rfl rfl (rmk_ok (by omega) (by decide))) hW rfl hl.1 rfl (Nat.le_of_ble_eq_true rfl) dX12_pivot_194 ⟨Nat.le_of_ble_eq_true rfl, Nat.le_of_ble_eq_true rfl⟩) hL (fun u_260 H locs k_261 hW hL => ?_)
                            obtain ⟨iu_260, fu_260, xu_260⟩ := k_261
                            have F_262 := F_249.trans (fu_260.to (p1_sub rfl))
                            have F_263 := F_250.trans (fu_260.to (p1_sub rfl))
                            have F_264 := F_251.trans (fu_260.to (p1_sub rfl))
                            have F_265 := F_252.trans (fu_260.to (p1_sub rfl))
                            have F_266 := F_253.trans (fu_260.to (p1_sub rfl))
                            have g_267 : FF S u_260 (fl []) := FF.fr g_254 fu_260 rfl
                            have g_268 : FF S u_260 (fl []) := FF.fr g_255 fu_260 rfl
                            have g_269 : FF S28 u_260 (fl []) := FF.fr g_256 fu_260 rfl
                            have g_270 : FF S28 u_260 (fl []) := FF.fr g_257 fu_260 rfl
                            have g_271 : FF S58 u_260 (fl []) := FF.fr g_258 fu_260 rfl
                            refine lv_goto (tgt := 220) hx hb dX12_pivot_197 (by decide) ?_
                            exact join_220 u_260  _ _ _ iu_260 F_262 F_263 F_264 F_265 F_266 g_267 g_268 g_269 g_270 g_271 (FO.step hF (by omega) (by omega) (fun x a => by rw [show cl i j = q by unfold cl; omega] at a; rw [xu_260.2.2, uA_ne (fun z => by have := z.2; omega)]; exact xu_247.2 x a) (by rw [show cl i j = q by unfold cl; omega]; exact xu_260.1) (PC.c (by omega) (by omega) (by have k0 : nv (u_247.2.1 263) q = TV S i j := (by rw [xu_247.1.2.1, eD58]; unfold TV; rw [show cl i j = q by unfold cl; omega]); rw [show cl i j = q by unfold cl; omega, xu_260.2.1, k0, show tn = 0 by omega, asn_0]))) hW hL (lv_sub hl [0, 1, 2, 3, 4, 5, 6, 7] rfl)
                      · refine lv_aload_n hx hb dX12_pivot_130 rfl (lv_at hl 5 rfl) ?_
                        refine g_X12_103 Cx hW (k := 231) (by decide) rfl (v := .ref (G.2.2.1 + 262)) (rd_53 hI58) dX12_pivot_131 ?_
                        refine lv_iload hx hb dX12_pivot_134 (lv_at hl 0 rfl) ?_
                        refine lv_aload_n hx hb dX12_pivot_136 rfl (lv_at hl 5 rfl) ?_
                        refine g_X12_106 Cx hW (k := 231) (by decide) rfl (v := .ref (G.2.2.1 + 263)) (rd_54 hI58) dX12_pivot_137 ?_
                        refine lv_iload hx hb dX12_pivot_140 (lv_at hl 0 rfl) ?_
                        refine sBv (sSt (As := [.ref (G.2.2.1 + 262), .int (iv q), .ref (G.2.2.1 + 263), .int (iv q)]) (rest := []) Cx (s_X12_copy l G S58 (ka := 262) (po := q) (kb := 263) (qo := q) (Nka := 5280) (Nkb := 5280) (La := 6) hI58 ⟨rfl, by decide, by decide, by decide, rfl⟩ ⟨rfl, by decide, by decide, by decide, rfl⟩ (show (263 : Nat) ≠ 262 by decide) (by omega) (by rw [show S58.2.1 262 = S.2.1 262 from (funext fun j => ((hL58_ 262 rfl).2.1 j).trans ((hL28_ 262 rfl).2.1 j) : S58.2.1 262 = S.2.1 262)]; exact (hD.at (i := i) (j := j) (by omega) (by omega) (by omega) (by omega)))) (c_X12_233 Cx rfl rfl (rmk_ok (by omega) (by decide))) hW rfl hl.1 rfl (Nat.le_of_ble_eq_true rfl) dX12_pivot_142 ⟨Nat.le_of_ble_eq_true rfl, Nat.le_of_ble_eq_true rfl⟩) hL (fun u_272 H locs k_273 hW hL => ?_)
                        obtain ⟨iu_272, fu_272, xu_272⟩ := k_273
                        have F_274 := hFm58.trans (fu_272.to (p1_sub rfl))
                        have F_275 := hFL2858.trans (fu_272.to (p1_sub rfl))
                        have F_276 := hFL22658.trans (fu_272.to (p1_sub rfl))
                        have F_277 := hL58_.trans (fu_272.to (p1_sub rfl))
                        have F_278 := (Fr.rf : Fr S58 S58 (pl [233, 234, 235, 237, 238, 239, 240, 263])).trans (fu_272.to (p1_sub rfl))
                        have g_279 : FF S u_272 (fl []) := FF.fr hGm58 fu_272 rfl
                        have g_280 : FF S u_272 (fl []) := FF.fr hGL2858 fu_272 rfl
                        have g_281 : FF S28 u_272 (fl []) := FF.fr hGL22658 fu_272 rfl
                        have g_282 : FF S28 u_272 (fl []) := FF.fr gL58_ fu_272 rfl
                        have g_283 : FF S58 u_272 (fl []) := FF.fr (FF.rf : FF S58 S58 (fl [])) fu_272 rfl
                        refine lv_iload hx hb dX12_pivot_145 (lv_at hl 3 rfl) ?_
                        refine r_if_eq (tgt := 220) hx hb ⟨(by omega), (by omega)⟩ dX12_pivot_147 (by decide) (fun c_284 => ?_) (fun c_284 => ?_)
                        · exact join_220 u_272  _ _ _ iu_272 F_274 F_275 F_276 F_277 F_278 g_279 g_280 g_281 g_282 g_283 (FO.step hF (by omega) (by omega) (fun x a => by rw [show cl i j = q by unfold cl; omega] at a; exact xu_272.2 x a) (by rw [show cl i j = q by unfold cl; omega]; exact xu_272.1.1) (PC.b (by omega) (by omega) (by have k0 : nv (u_272.2.1 263) q = TV S i j := (by rw [xu_272.1.2.1, eD58]; unfold TV; rw [show cl i j = q by unfold cl; omega]); rw [show cl i j = q by unfold cl; omega, k0, show tn = 0 by omega, asn_0]))) hW hL (lv_sub hl [0, 1, 2, 3, 4, 5, 6, 7] rfl)
                        · refine lv_aload_n hx hb dX12_pivot_150 rfl (lv_at hl 5 rfl) ?_
                          refine g_X12_106 Cx hW (k := 231) (by decide) rfl (v := .ref (G.2.2.1 + 263)) (rd_54 iu_272) dX12_pivot_151 ?_
                          refine lv_iload hx hb dX12_pivot_154 (lv_at hl 0 rfl) ?_
                          refine sBv (sSt (As := [.ref (G.2.2.1 + 263), .int (iv q)]) (rest := []) Cx (s_X12_negate l G u_272 (ka := 263) (po := q) (Nka := 5280) (La := 6) iu_272 ⟨rfl, by decide, by decide, by decide, rfl⟩ (by omega) xu_272.1.1) (c_X12_540 Cx rfl rfl (rmk_ok (by omega) (by decide))) hW rfl hl.1 rfl (Nat.le_of_ble_eq_true rfl) dX12_pivot_156 ⟨Nat.le_of_ble_eq_true rfl, Nat.le_of_ble_eq_true rfl⟩) hL (fun u_285 H locs k_286 hW hL => ?_)
                          obtain ⟨iu_285, fu_285, xu_285⟩ := k_286
                          have F_287 := F_274.trans (fu_285.to (p1_sub rfl))
                          have F_288 := F_275.trans (fu_285.to (p1_sub rfl))
                          have F_289 := F_276.trans (fu_285.to (p1_sub rfl))
                          have F_290 := F_277.trans (fu_285.to (p1_sub rfl))
                          have F_291 := F_278.trans (fu_285.to (p1_sub rfl))
                          have g_292 : FF S u_285 (fl []) := FF.fr g_279 fu_285 rfl
                          have g_293 : FF S u_285 (fl []) := FF.fr g_280 fu_285 rfl
                          have g_294 : FF S28 u_285 (fl []) := FF.fr g_281 fu_285 rfl
                          have g_295 : FF S28 u_285 (fl []) := FF.fr g_282 fu_285 rfl
                          have g_296 : FF S58 u_285 (fl []) := FF.fr g_283 fu_285 rfl
                          refine lv_goto (tgt := 220) hx hb dX12_pivot_159 (by decide) ?_
                          exact join_220 u_285  _ _ _ iu_285 F_287 F_288 F_289 F_290 F_291 g_292 g_293 g_294 g_295 g_296 (FO.step hF (by omega) (by omega) (fun x a => by rw [show cl i j = q by unfold cl; omega] at a; rw [xu_285.2.2, uA_ne (fun z => by have := z.2; omega)]; exact xu_272.2 x a) (by rw [show cl i j = q by unfold cl; omega]; exact xu_285.1) (PC.b (by omega) (by omega) (by have k0 : nv (u_272.2.1 263) q = TV S i j := (by rw [xu_272.1.2.1, eD58]; unfold TV; rw [show cl i j = q by unfold cl; omega]); rw [show cl i j = q by unfold cl; omega, xu_285.2.1, k0, show tn = 1 by omega, asn_1]))) hW hL (lv_sub hl [0, 1, 2, 3, 4, 5, 6, 7] rfl)
                    · refine lv_iload hx hb dX12_pivot_85 (lv_at hl 1 rfl) ?_
                      refine lv_iload_n hx hb dX12_pivot_87 rfl (lv_at hl 7 rfl) ?_
                      refine r_icmp_ne (tgt := 122) hx hb ⟨(by omega), (by omega)⟩ ⟨(by omega), (by omega)⟩ dX12_pivot_88 (by decide) (fun c_297 => ?_) (fun c_297 => ?_)
                      · refine lv_iload hx hb dX12_pivot_122 (lv_at hl 2 rfl) ?_
                        refine lv_iload_n hx hb dX12_pivot_124 rfl (lv_at hl 6 rfl) ?_
                        refine lv_iconst (v := iv 1) hx hb dX12_pivot_125 (by decide) ?_
                        refine r_iadd hx hb dX12_pivot_126 ?_
                        refine r_icmp_ne (tgt := 162) hx hb ⟨(by omega), (by omega)⟩ ⟨(by omega), (by omega)⟩ dX12_pivot_127 (by decide) (fun c_298 => ?_) (fun c_298 => ?_)
                        · refine lv_iload hx hb dX12_pivot_162 (lv_at hl 1 rfl) ?_
                          refine lv_iload_n hx hb dX12_pivot_164 rfl (lv_at hl 7 rfl) ?_
                          refine r_icmp_ne (tgt := 200) hx hb ⟨(by omega), (by omega)⟩ ⟨(by omega), (by omega)⟩ dX12_pivot_165 (by decide) (fun c_299 => ?_) (fun c_299 => ?_)
                          · refine lv_aload_n hx hb dX12_pivot_200 rfl (lv_at hl 5 rfl) ?_
                            refine lv_iload hx hb dX12_pivot_201 (lv_at hl 2 rfl) ?_
                            refine lv_iload hx hb dX12_pivot_203 (lv_at hl 1 rfl) ?_
                            refine lv_iload_n hx hb dX12_pivot_205 rfl (lv_at hl 6 rfl) ?_
                            refine lv_iload_n hx hb dX12_pivot_206 rfl (lv_at hl 7 rfl) ?_
                            refine lv_iload_n hx hb dX12_pivot_207 rfl (lv_at hl 4 rfl) ?_
                            refine lv_iload hx hb dX12_pivot_208 (lv_at hl 0 rfl) ?_
                            refine lv_iload hx hb dX12_pivot_210 (lv_at hl 3 rfl) ?_
                            refine sBi (sV (As := [.int (iv i), .int (iv j), .int (iv rr), .int (iv ss), .int (iv pp), .int (iv q), .int (iv tn)]) (rest := []) (k := 231) Cx (r_X12_across l G S58 (ii := i) (jj := j) (rr := rr) (ss := ss) (pp := pp) (qq := q) (tn := tn) hI58 (by omega) (by omega) (by omega) (by omega) (by rw [show S58.2.1 262 = S.2.1 262 from (funext fun j => ((hL58_ 262 rfl).2.1 j).trans ((hL28_ 262 rfl).2.1 j) : S58.2.1 262 = S.2.1 262)]; exact (hD.at (i := i) (j := j) (by omega) (by omega) (by omega) (by omega))) (by rw [show S58.2.1 262 = S.2.1 262 from (funext fun j => ((hL58_ 262 rfl).2.1 j).trans ((hL28_ 262 rfl).2.1 j) : S58.2.1 262 = S.2.1 262)]; exact (hD.at (i := rr + 1) (j := ss) (by omega) (by omega) (by omega) (by omega))) (by rw [show S58.2.1 262 = S.2.1 262 from (funext fun j => ((hL58_ 262 rfl).2.1 j).trans ((hL28_ 262 rfl).2.1 j) : S58.2.1 262 = S.2.1 262)]; exact (hD.at (i := i) (j := ss) (by omega) (by omega) (by omega) (by omega))) (by rw [show S58.2.1 262 = S.2.1 262 from (funext fun j => ((hL58_ 262 rfl).2.1 j).trans ((hL28_ 262 rfl).2.1 j) : S58.2.1 262 = S.2.1 262)]; exact (hD.at (i := rr + 1) (j := j) (by omega) (by omega) (by omega) (by omega))) (by rw [show S58.2.1 264 = S.2.1 264 from (funext fun j => ((hL58_ 264 rfl).2.1 j).trans ((hL28_ 264 rfl).2.1 j) : S58.2.1 264 = S.2.1 264)]; exact hD.2.2.1) (by rw [show S58.2.1 264 = S.2.1 264 from (funext fun j => ((hL58_ 264 rfl).2.1 j).trans ((hL28_ 264 rfl).2.1 j) : S58.2.1 264 = S.2.1 264)]; exact hD.2.2.2)) (c_X12_544 Cx rfl rfl (rmk_ok (by omega) (by decide))) hW (by decide) rfl rfl rfl hl.1 rfl (Nat.le_of_ble_eq_true rfl) dX12_pivot_212 ⟨Nat.le_of_ble_eq_true rfl, Nat.le_of_ble_eq_true rfl⟩) hL (fun r_302 u_300 H locs k_301 hW hL => ?_)
                            obtain ⟨iu_300, fu_300, gu_300, xu_300⟩ := k_301
                            have F_303 := hFm58.trans (fu_300.to (pl_sub (by decide)))
                            have F_304 := hFL2858.trans fu_300
                            have F_305 := hFL22658.trans fu_300
                            have F_306 := hL58_.trans fu_300
                            have F_307 := (Fr.rf : Fr S58 S58 (pl [233, 234, 235, 237, 238, 239, 240, 263])).trans fu_300
                            have g_308 : FF S u_300 (fl []) := FF.trans hGm58 (FF.to gu_300 (fl_sub (by decide)))
                            have g_309 : FF S u_300 (fl []) := FF.trans hGL2858 (FF.to gu_300 (fl_sub (by decide)))
                            have g_310 : FF S28 u_300 (fl []) := FF.trans hGL22658 (FF.to gu_300 (fl_sub (by decide)))
                            have g_311 : FF S28 u_300 (fl []) := FF.trans gL58_ (FF.to gu_300 (fl_sub (by decide)))
                            have g_312 : FF S58 u_300 (fl []) := FF.trans (FF.rf : FF S58 S58 (fl [])) (FF.to gu_300 (fl_sub (by decide)))
                            refine r_if_ne (tgt := 220) hx hb ⟨(by omega), (by omega)⟩ dX12_pivot_215 (by decide) (fun c_313 => ?_) (fun c_313 => ?_)
                            · exact join_220 u_300  _ _ _ iu_300 F_303 F_304 F_305 F_306 F_307 g_308 g_309 g_310 g_311 g_312 (FO.step hF (by omega) (by omega) (fun x a => xu_300.2.2.1 x (by rw [show cl i j = q by unfold cl; omega] at a; exact a)) (by rw [show cl i j = q by unfold cl; omega]; exact (xu_300.2.1 (by omega)).1) (PC.d (by omega) (by omega) (by have e := (xu_300.2.1 (by omega)).2; rw [eD58, eN58] at e; obtain ⟨Q, R, h1, h2, h3, h4⟩ := e; refine ⟨Q, R, (by rw [show cl i j = q by unfold cl; omega]; exact h1), ?_, h3, h4⟩; unfold TV; rw [show cl i j = q by unfold cl; omega, show cl (rr + 1) ss = pp by unfold cl; omega]; exact h2))) hW hL (lv_sub hl [0, 1, 2, 3, 4, 5, 6, 7] rfl)
                            · refine lv_iconst (v := iv 0) hx hb dX12_pivot_218 (by decide) ?_
                              exact sZret Cx hr hlk hW hL (by omega) ⟨iu_300, F_303, g_308, ⟨(by omega), hD.same (g_308 58 rfl) (g_308 59 rfl) (g_308 60 rfl) (funext fun j => ((fu_300 262 rfl).2.1 j).trans (((hL58_ 262 rfl).2.1 j).trans ((hL28_ 262 rfl).2.1 j)) : u_300.2.1 262 = S.2.1 262) (funext fun j => ((fu_300 264 rfl).2.1 j).trans (((hL58_ 264 rfl).2.1 j).trans ((hL28_ 264 rfl).2.1 j)) : u_300.2.1 264 = S.2.1 264), (fun q => absurd q (by omega)), (fun _ => ⟨(funext fun j => ((fu_300 265 rfl).2.1 j).trans (((hL58_ 265 rfl).2.1 j).trans ((hL28_ 265 rfl).2.1 j)) : u_300.2.1 265 = S.2.1 265), (funext fun j => ((fu_300 266 rfl).2.1 j).trans (((hL58_ 266 rfl).2.1 j).trans ((hL28_ 266 rfl).2.1 j)) : u_300.2.1 266 = S.2.1 266)⟩), (fun _ => ⟨i, j, by omega, by omega, by omega, by omega, by omega, (by have y := xu_300.2.2.2 (by omega); rw [eD58, eN58] at y; unfold TV; rw [show cl i j = q by unfold cl; omega, show cl (rr + 1) ss = pp by unfold cl; omega]; exact y)⟩)⟩⟩ dX12_pivot_219
                          · refine lv_aload_n hx hb dX12_pivot_168 rfl (lv_at hl 5 rfl) ?_
                            refine g_X12_103 Cx hW (k := 231) (by decide) rfl (v := .ref (G.2.2.1 + 262)) (rd_53 hI58) dX12_pivot_169 ?_
                            refine lv_iload hx hb dX12_pivot_172 (lv_at hl 0 rfl) ?_
                            refine lv_aload_n hx hb dX12_pivot_174 rfl (lv_at hl 5 rfl) ?_
                            refine g_X12_106 Cx hW (k := 231) (by decide) rfl (v := .ref (G.2.2.1 + 263)) (rd_54 hI58) dX12_pivot_175 ?_
                            refine lv_iload hx hb dX12_pivot_178 (lv_at hl 0 rfl) ?_
                            refine sBv (sSt (As := [.ref (G.2.2.1 + 262), .int (iv q), .ref (G.2.2.1 + 263), .int (iv q)]) (rest := []) Cx (s_X12_copy l G S58 (ka := 262) (po := q) (kb := 263) (qo := q) (Nka := 5280) (Nkb := 5280) (La := 6) hI58 ⟨rfl, by decide, by decide, by decide, rfl⟩ ⟨rfl, by decide, by decide, by decide, rfl⟩ (show (263 : Nat) ≠ 262 by decide) (by omega) (by rw [show S58.2.1 262 = S.2.1 262 from (funext fun j => ((hL58_ 262 rfl).2.1 j).trans ((hL28_ 262 rfl).2.1 j) : S58.2.1 262 = S.2.1 262)]; exact (hD.at (i := i) (j := j) (by omega) (by omega) (by omega) (by omega)))) (c_X12_233 Cx rfl rfl (rmk_ok (by omega) (by decide))) hW rfl hl.1 rfl (Nat.le_of_ble_eq_true rfl) dX12_pivot_180 ⟨Nat.le_of_ble_eq_true rfl, Nat.le_of_ble_eq_true rfl⟩) hL (fun u_314 H locs k_315 hW hL => ?_)
                            obtain ⟨iu_314, fu_314, xu_314⟩ := k_315
                            have F_316 := hFm58.trans (fu_314.to (p1_sub rfl))
                            have F_317 := hFL2858.trans (fu_314.to (p1_sub rfl))
                            have F_318 := hFL22658.trans (fu_314.to (p1_sub rfl))
                            have F_319 := hL58_.trans (fu_314.to (p1_sub rfl))
                            have F_320 := (Fr.rf : Fr S58 S58 (pl [233, 234, 235, 237, 238, 239, 240, 263])).trans (fu_314.to (p1_sub rfl))
                            have g_321 : FF S u_314 (fl []) := FF.fr hGm58 fu_314 rfl
                            have g_322 : FF S u_314 (fl []) := FF.fr hGL2858 fu_314 rfl
                            have g_323 : FF S28 u_314 (fl []) := FF.fr hGL22658 fu_314 rfl
                            have g_324 : FF S28 u_314 (fl []) := FF.fr gL58_ fu_314 rfl
                            have g_325 : FF S58 u_314 (fl []) := FF.fr (FF.rf : FF S58 S58 (fl [])) fu_314 rfl
                            refine lv_iload hx hb dX12_pivot_183 (lv_at hl 3 rfl) ?_
                            refine r_if_ne (tgt := 220) hx hb ⟨(by omega), (by omega)⟩ dX12_pivot_185 (by decide) (fun c_326 => ?_) (fun c_326 => ?_)
                            · exact join_220 u_314  _ _ _ iu_314 F_316 F_317 F_318 F_319 F_320 g_321 g_322 g_323 g_324 g_325 (FO.step hF (by omega) (by omega) (fun x a => by rw [show cl i j = q by unfold cl; omega] at a; exact xu_314.2 x a) (by rw [show cl i j = q by unfold cl; omega]; exact xu_314.1.1) (PC.c (by omega) (by omega) (by have k0 : nv (u_314.2.1 263) q = TV S i j := (by rw [xu_314.1.2.1, eD58]; unfold TV; rw [show cl i j = q by unfold cl; omega]); rw [show cl i j = q by unfold cl; omega, k0, show tn = 1 by omega, asn_1]; omega))) hW hL (lv_sub hl [0, 1, 2, 3, 4, 5, 6, 7] rfl)
                            · refine lv_aload_n hx hb dX12_pivot_188 rfl (lv_at hl 5 rfl) ?_
                              refine g_X12_106 Cx hW (k := 231) (by decide) rfl (v := .ref (G.2.2.1 + 263)) (rd_54 iu_314) dX12_pivot_189 ?_
                              refine lv_iload hx hb dX12_pivot_192 (lv_at hl 0 rfl) ?_
                              refine sBv (sSt (As := [.ref (G.2.2.1 + 263), .int (iv q)]) (rest := []) Cx (s_X12_negate l G u_314 (ka := 263) (po := q) (Nka := 5280) (La := 6) iu_314 ⟨rfl, by decide, by decide, by decide, rfl⟩ (by omega) xu_314.1.1) (c_X12_540 Cx rfl rfl (rmk_ok (by omega) (by decide))) hW rfl hl.1 rfl (Nat.le_of_ble_eq_true rfl) dX12_pivot_194 ⟨Nat.le_of_ble_eq_true rfl, Nat.le_of_ble_eq_true rfl⟩) hL (fun u_327 H locs k_328 hW hL => ?_)
                              obtain ⟨iu_327, fu_327, xu_327⟩ := k_328
                              have F_329 := F_316.trans (fu_327.to (p1_sub rfl))
                              have F_330 := F_317.trans (fu_327.to (p1_sub rfl))
                              have F_331 := F_318.trans (fu_327.to (p1_sub rfl))
                              have F_332 := F_319.trans (fu_327.to (p1_sub rfl))
                              have F_333 := F_320.trans (fu_327.to (p1_sub rfl))
                              have g_334 : FF S u_327 (fl []) := FF.fr g_321 fu_327 rfl
                              have g_335 : FF S u_327 (fl []) := FF.fr g_322 fu_327 rfl
                              have g_336 : FF S28 u_327 (fl []) := FF.fr g_323 fu_327 rfl
                              have g_337 : FF S28 u_327 (fl []) := FF.fr g_324 fu_327 rfl
                              have g_338 : FF S58 u_327 (fl []) := FF.fr g_325 fu_327 rfl
                              refine lv_goto (tgt := 220) hx hb dX12_pivot_197 (by decide) ?_
                              exact join_220 u_327  _ _ _ iu_327 F_329 F_330 F_331 F_332 F_333 g_334 g_335 g_336 g_337 g_338 (FO.step hF (by omega) (by omega) (fun x a => by rw [show cl i j = q by unfold cl; omega] at a; rw [xu_327.2.2, uA_ne (fun z => by have := z.2; omega)]; exact xu_314.2 x a) (by rw [show cl i j = q by unfold cl; omega]; exact xu_327.1) (PC.c (by omega) (by omega) (by have k0 : nv (u_314.2.1 263) q = TV S i j := (by rw [xu_314.1.2.1, eD58]; unfold TV; rw [show cl i j = q by unfold cl; omega]); rw [show cl i j = q by unfold cl; omega, xu_327.2.1, k0, show tn = 0 by omega, asn_0]))) hW hL (lv_sub hl [0, 1, 2, 3, 4, 5, 6, 7] rfl)
                        · refine lv_aload_n hx hb dX12_pivot_130 rfl (lv_at hl 5 rfl) ?_
                          refine g_X12_103 Cx hW (k := 231) (by decide) rfl (v := .ref (G.2.2.1 + 262)) (rd_53 hI58) dX12_pivot_131 ?_
                          refine lv_iload hx hb dX12_pivot_134 (lv_at hl 0 rfl) ?_
                          refine lv_aload_n hx hb dX12_pivot_136 rfl (lv_at hl 5 rfl) ?_
                          refine g_X12_106 Cx hW (k := 231) (by decide) rfl (v := .ref (G.2.2.1 + 263)) (rd_54 hI58) dX12_pivot_137 ?_
                          refine lv_iload hx hb dX12_pivot_140 (lv_at hl 0 rfl) ?_
                          refine sBv (sSt (As := [.ref (G.2.2.1 + 262), .int (iv q), .ref (G.2.2.1 + 263), .int (iv q)]) (rest := []) Cx (s_X12_copy l G S58 (ka := 262) (po := q) (kb := 263) (qo := q) (Nka := 5280) (Nkb := 5280) (La := 6) hI58 ⟨rfl, by decide, by decide, by decide, rfl⟩ ⟨rfl, by decide, by decide, by decide, rfl⟩ (show (263 : Nat) ≠ 262 by decide) (by omega) (by rw [show S58.2.1 262 = S.2.1 262 from (funext fun j => ((hL58_ 262 rfl).2.1 j).trans ((hL28_ 262 rfl).2.1 j) : S58.2.1 262 = S.2.1 262)]; exact (hD.at (i := i) (j := j) (by omega) (by omega) (by omega) (by omega)))) (c_X12_233 Cx rfl rfl (rmk_ok (by omega) (by decide))) hW rfl hl.1 rfl (Nat.le_of_ble_eq_true rfl) dX12_pivot_142 ⟨Nat.le_of_ble_eq_true rfl, Nat.le_of_ble_eq_true rfl⟩) hL (fun u_339 H locs k_340 hW hL => ?_)
                          obtain ⟨iu_339, fu_339, xu_339⟩ := k_340
                          have F_341 := hFm58.trans (fu_339.to (p1_sub rfl))
                          have F_342 := hFL2858.trans (fu_339.to (p1_sub rfl))
                          have F_343 := hFL22658.trans (fu_339.to (p1_sub rfl))
                          have F_344 := hL58_.trans (fu_339.to (p1_sub rfl))
                          have F_345 := (Fr.rf : Fr S58 S58 (pl [233, 234, 235, 237, 238, 239, 240, 263])).trans (fu_339.to (p1_sub rfl))
                          have g_346 : FF S u_339 (fl []) := FF.fr hGm58 fu_339 rfl
                          have g_347 : FF S u_339 (fl []) := FF.fr hGL2858 fu_339 rfl
                          have g_348 : FF S28 u_339 (fl []) := FF.fr hGL22658 fu_339 rfl
                          have g_349 : FF S28 u_339 (fl []) := FF.fr gL58_ fu_339 rfl
                          have g_350 : FF S58 u_339 (fl []) := FF.fr (FF.rf : FF S58 S58 (fl [])) fu_339 rfl
                          refine lv_iload hx hb dX12_pivot_145 (lv_at hl 3 rfl) ?_
                          refine r_if_eq (tgt := 220) hx hb ⟨(by omega), (by omega)⟩ dX12_pivot_147 (by decide) (fun c_351 => ?_) (fun c_351 => ?_)
                          · exact join_220 u_339  _ _ _ iu_339 F_341 F_342 F_343 F_344 F_345 g_346 g_347 g_348 g_349 g_350 (FO.step hF (by omega) (by omega) (fun x a => by rw [show cl i j = q by unfold cl; omega] at a; exact xu_339.2 x a) (by rw [show cl i j = q by unfold cl; omega]; exact xu_339.1.1) (PC.b (by omega) (by omega) (by have k0 : nv (u_339.2.1 263) q = TV S i j := (by rw [xu_339.1.2.1, eD58]; unfold TV; rw [show cl i j = q by unfold cl; omega]); rw [show cl i j = q by unfold cl; omega, k0, show tn = 0 by omega, asn_0]))) hW hL (lv_sub hl [0, 1, 2, 3, 4, 5, 6, 7] rfl)
                          · refine lv_aload_n hx hb dX12_pivot_150 rfl (lv_at hl 5 rfl) ?_
                            refine g_X12_106 Cx hW (k := 231) (by decide) rfl (v := .ref (G.2.2.1 + 263)) (rd_54 iu_339) dX12_pivot_151 ?_
                            refine lv_iload hx hb dX12_pivot_154 (lv_at hl 0 rfl) ?_
                            refine sBv (sSt (As := [.ref (G.2.2.1 + 263), .int (iv q)]) (rest := []) Cx (s_X12_negate l G u_339 (ka := 263) (po := q) (Nka := 5280) (La := 6) iu_339 ⟨rfl, by decide, by decide, by decide, rfl⟩ (by omega) xu_339.1.1) (c_X12_540 Cx rfl rfl (rmk_ok (by omega) (by decide))) hW rfl hl.1 rfl (Nat.le_of_ble_eq_true rfl) dX12_pivot_156 ⟨Nat.le_of_ble_eq_true rfl, Nat.le_of_ble_eq_true rfl⟩) hL (fun u_352 H locs k_353 hW hL => ?_)
                            obtain ⟨iu_352, fu_352, xu_352⟩ := k_353
                            have F_354 := F_341.trans (fu_352.to (p1_sub rfl))
                            have F_355 := F_342.trans (fu_352.to (p1_sub rfl))
                            have F_356 := F_343.trans (fu_352.to (p1_sub rfl))
                            have F_357 := F_344.trans (fu_352.to (p1_sub rfl))
                            have F_358 := F_345.trans (fu_352.to (p1_sub rfl))
                            have g_359 : FF S u_352 (fl []) := FF.fr g_346 fu_352 rfl
                            have g_360 : FF S u_352 (fl []) := FF.fr g_347 fu_352 rfl
                            have g_361 : FF S28 u_352 (fl []) := FF.fr g_348 fu_352 rfl
                            have g_362 : FF S28 u_352 (fl []) := FF.fr g_349 fu_352 rfl
                            have g_363 : FF S58 u_352 (fl []) := FF.fr g_350 fu_352 rfl
                            refine lv_goto (tgt := 220) hx hb dX12_pivot_159 (by decide) ?_
                            exact join_220 u_352  _ _ _ iu_352 F_354 F_355 F_356 F_357 F_358 g_359 g_360 g_361 g_362 g_363 (FO.step hF (by omega) (by omega) (fun x a => by rw [show cl i j = q by unfold cl; omega] at a; rw [xu_352.2.2, uA_ne (fun z => by have := z.2; omega)]; exact xu_339.2 x a) (by rw [show cl i j = q by unfold cl; omega]; exact xu_352.1) (PC.b (by omega) (by omega) (by have k0 : nv (u_339.2.1 263) q = TV S i j := (by rw [xu_339.1.2.1, eD58]; unfold TV; rw [show cl i j = q by unfold cl; omega]); rw [show cl i j = q by unfold cl; omega, xu_352.2.1, k0, show tn = 1 by omega, asn_1]))) hW hL (lv_sub hl [0, 1, 2, 3, 4, 5, 6, 7] rfl)
                      · refine lv_aload_n hx hb dX12_pivot_91 rfl (lv_at hl 5 rfl) ?_
                        refine g_X12_109 Cx hW (k := 231) (by decide) rfl (v := .ref (G.2.2.1 + 264)) (rd_55 hI58) dX12_pivot_92 ?_
                        refine lv_iconst (v := iv 0) hx hb dX12_pivot_95 (by decide) ?_
                        refine lv_aload_n hx hb dX12_pivot_96 rfl (lv_at hl 5 rfl) ?_
                        refine g_X12_106 Cx hW (k := 231) (by decide) rfl (v := .ref (G.2.2.1 + 263)) (rd_54 hI58) dX12_pivot_97 ?_
                        refine lv_iload hx hb dX12_pivot_100 (lv_at hl 0 rfl) ?_
                        refine sBv (sSt (As := [.ref (G.2.2.1 + 264), .int (iv 0), .ref (G.2.2.1 + 263), .int (iv q)]) (rest := []) Cx (s_X12_copy l G S58 (ka := 264) (po := 0) (kb := 263) (qo := q) (Nka := 8) (Nkb := 5280) (La := 6) hI58 ⟨rfl, by decide, by decide, by decide, rfl⟩ ⟨rfl, by decide, by decide, by decide, rfl⟩ (show (263 : Nat) ≠ 264 by decide) (by omega) (by rw [show S58.2.1 264 = S.2.1 264 from (funext fun j => ((hL58_ 264 rfl).2.1 j).trans ((hL28_ 264 rfl).2.1 j) : S58.2.1 264 = S.2.1 264)]; exact hD.2.2.1)) (c_X12_233 Cx rfl rfl (rmk_ok (by omega) (by decide))) hW rfl hl.1 rfl (Nat.le_of_ble_eq_true rfl) dX12_pivot_102 ⟨Nat.le_of_ble_eq_true rfl, Nat.le_of_ble_eq_true rfl⟩) hL (fun u_364 H locs k_365 hW hL => ?_)
                        obtain ⟨iu_364, fu_364, xu_364⟩ := k_365
                        have F_366 := hFm58.trans (fu_364.to (p1_sub rfl))
                        have F_367 := hFL2858.trans (fu_364.to (p1_sub rfl))
                        have F_368 := hFL22658.trans (fu_364.to (p1_sub rfl))
                        have F_369 := hL58_.trans (fu_364.to (p1_sub rfl))
                        have F_370 := (Fr.rf : Fr S58 S58 (pl [233, 234, 235, 237, 238, 239, 240, 263])).trans (fu_364.to (p1_sub rfl))
                        have g_371 : FF S u_364 (fl []) := FF.fr hGm58 fu_364 rfl
                        have g_372 : FF S u_364 (fl []) := FF.fr hGL2858 fu_364 rfl
                        have g_373 : FF S28 u_364 (fl []) := FF.fr hGL22658 fu_364 rfl
                        have g_374 : FF S28 u_364 (fl []) := FF.fr gL58_ fu_364 rfl
                        have g_375 : FF S58 u_364 (fl []) := FF.fr (FF.rf : FF S58 S58 (fl [])) fu_364 rfl
                        refine lv_iload hx hb dX12_pivot_105 (lv_at hl 3 rfl) ?_
                        refine r_if_eq (tgt := 220) hx hb ⟨(by omega), (by omega)⟩ dX12_pivot_107 (by decide) (fun c_376 => ?_) (fun c_376 => ?_)
                        · exact join_220 u_364  _ _ _ iu_364 F_366 F_367 F_368 F_369 F_370 g_371 g_372 g_373 g_374 g_375 (FO.step hF (by omega) (by omega) (fun x a => by rw [show cl i j = q by unfold cl; omega] at a; exact xu_364.2 x a) (by rw [show cl i j = q by unfold cl; omega]; exact xu_364.1.1) (PC.a (by omega) (by omega) (by have k0 : nv (u_364.2.1 263) q = nv (S.2.1 264) 0 := (by rw [xu_364.1.2.1, eN58]); rw [show cl i j = q by unfold cl; omega, k0, show tn = 0 by omega, asn_0]))) hW hL (lv_sub hl [0, 1, 2, 3, 4, 5, 6, 7] rfl)
                        · refine lv_aload_n hx hb dX12_pivot_110 rfl (lv_at hl 5 rfl) ?_
                          refine g_X12_106 Cx hW (k := 231) (by decide) rfl (v := .ref (G.2.2.1 + 263)) (rd_54 iu_364) dX12_pivot_111 ?_
                          refine lv_iload hx hb dX12_pivot_114 (lv_at hl 0 rfl) ?_
                          refine sBv (sSt (As := [.ref (G.2.2.1 + 263), .int (iv q)]) (rest := []) Cx (s_X12_negate l G u_364 (ka := 263) (po := q) (Nka := 5280) (La := 6) iu_364 ⟨rfl, by decide, by decide, by decide, rfl⟩ (by omega) xu_364.1.1) (c_X12_540 Cx rfl rfl (rmk_ok (by omega) (by decide))) hW rfl hl.1 rfl (Nat.le_of_ble_eq_true rfl) dX12_pivot_116 ⟨Nat.le_of_ble_eq_true rfl, Nat.le_of_ble_eq_true rfl⟩) hL (fun u_377 H locs k_378 hW hL => ?_)
                          obtain ⟨iu_377, fu_377, xu_377⟩ := k_378
                          have F_379 := F_366.trans (fu_377.to (p1_sub rfl))
                          have F_380 := F_367.trans (fu_377.to (p1_sub rfl))
                          have F_381 := F_368.trans (fu_377.to (p1_sub rfl))
                          have F_382 := F_369.trans (fu_377.to (p1_sub rfl))
                          have F_383 := F_370.trans (fu_377.to (p1_sub rfl))
                          have g_384 : FF S u_377 (fl []) := FF.fr g_371 fu_377 rfl
                          have g_385 : FF S u_377 (fl []) := FF.fr g_372 fu_377 rfl
                          have g_386 : FF S28 u_377 (fl []) := FF.fr g_373 fu_377 rfl
                          have g_387 : FF S28 u_377 (fl []) := FF.fr g_374 fu_377 rfl
                          have g_388 : FF S58 u_377 (fl []) := FF.fr g_375 fu_377 rfl
                          refine lv_goto (tgt := 220) hx hb dX12_pivot_119 (by decide) ?_
                          exact join_220 u_377  _ _ _ iu_377 F_379 F_380 F_381 F_382 F_383 g_384 g_385 g_386 g_387 g_388 (FO.step hF (by omega) (by omega) (fun x a => by rw [show cl i j = q by unfold cl; omega] at a; rw [xu_377.2.2, uA_ne (fun z => by have := z.2; omega)]; exact xu_364.2 x a) (by rw [show cl i j = q by unfold cl; omega]; exact xu_377.1) (PC.a (by omega) (by omega) (by have k0 : nv (u_364.2.1 263) q = nv (S.2.1 264) 0 := (by rw [xu_364.1.2.1, eN58]); rw [show cl i j = q by unfold cl; omega, xu_377.2.1, k0, show tn = 1 by omega, asn_1]))) hW hL (lv_sub hl [0, 1, 2, 3, 4, 5, 6, 7] rfl)
              exact loop_58 (_ + 1) S28 0 _ _ _ (Nat.lt_succ_self _) hI28 hFm28 hL28_ (Fr.rf : Fr S28 S28 (pl [233, 234, 235, 237, 238, 239, 240, 263])) Fr.rf hGm28 gL28_ (FF.rf : FF S28 S28 (fl [])) FF.rf (by omega) hFo hW hL (lv_sub hl [0, 1, 2, 3, 4, 5, 6] rfl)
            · refine lv_goto (tgt := 226) hx hb dX12_pivot_52 (by decide) ?_
              exact join_226 S28  _ _ _ hI28 hFm28 hL28_ (Fr.rf : Fr S28 S28 (pl [233, 234, 235, 237, 238, 239, 240, 263])) hGm28 gL28_ (FF.rf : FF S28 S28 (fl [])) (by have e := hFo; rw [show i = 1 by omega] at e; rw [show i + 1 = 2 by omega]; exact e.skip (by omega)) hW hL (lv_sub hl [0, 1, 2, 3, 4, 5] rfl)
    exact loop_28 (_ + 1) S 0 _ _ _ (Nat.lt_succ_self _) hI (Fr.rf : Fr S S (pl [233, 234, 235, 237, 238, 239, 240, 262, 263, 264, 265, 266])) Fr.rf FF.rf FF.rf (by omega) (fun a b a0 ab _ _ b0 _ => absurd ab (by omega)) hW hL (lv_sub hl [0, 1, 2, 3, 4, 5] rfl)
  refine lv_aload_n hx hb dX12_pivot_9 rfl (lv_at hl 1 rfl) ?_
  refine g_X12_103 Cx hW (k := 231) (by decide) rfl (v := .ref (G.2.2.1 + 262)) (rd_53 hI) dX12_pivot_10 ?_
  refine lv_iload_n hx hb dX12_pivot_13 rfl (lv_at hl 0 rfl) ?_
  refine rIald Cx hW (k := 262) (by decide) rfl (by decide) (by omega) (by omega) dX12_pivot_14 ?_
  have q_389 : (-2147483648) ≤ S.2.1 262 pp ∧ S.2.1 262 pp ≤ 2147483647 := hI.ai 262 pp
  refine r_i (b := S.2.1 262 pp) rfl ?_
  have hrd : S.2.1 262 (8 * (15 * (rr + 1) + ss)) = S.2.1 262 pp := congrArg (S.2.1 262) (by omega)
  refine r_if_ge (tgt := 22) hx hb ⟨(by omega), (by omega)⟩ dX12_pivot_15 (by decide) (fun c_390 => ?_) (fun c_390 => ?_)
  · refine lv_iconst (v := iv 0) hx hb dX12_pivot_22 (by decide) ?_
    exact join_23 0 _ _ _ (by omega) (by unfold TV; rw [show cl (rr + 1) ss = 8 * (15 * (rr + 1) + ss) from rfl]; omega) hW hL (lv_sub hl [0, 1, 2, 3] rfl)
  · refine lv_iconst (v := iv 1) hx hb dX12_pivot_18 (by decide) ?_
    refine lv_goto (tgt := 23) hx hb dX12_pivot_19 (by decide) ?_
    exact join_23 1 _ _ _ (by omega) (by unfold TV; rw [show cl (rr + 1) ss = 8 * (15 * (rr + 1) + ss) from rfl]; omega) hW hL (lv_sub hl [0, 1, 2, 3] rfl)
