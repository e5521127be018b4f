/-! evaluate, goOn, work -/
theorem LD.of {S X u : sS} (h : LD X u) (e : X.1 231 65 = S.1 231 65) : LD S u := ⟨h.1, h.2.1, fun q => ⟨(h.2.2 q).1, (h.2.2 q).2.1, (h.2.2 q).2.2.1, by have := (h.2.2 q).2.2.2; omega⟩⟩
def LG (S : sS) : Prop := (1 ≤ S.1 231 61 ∧ S.1 231 61 ≤ 6) ∧ (S.1 231 61 = 1 → GI S) ∧ (S.1 231 61 ≠ 1 → EI S)
def GD (S : sS) : Prop := (1 ≤ S.1 231 61 ∧ S.1 231 61 ≤ 6) ∧ (S.1 231 61 = 1 → GQ S) ∧ (S.1 231 61 ≠ 1 → EI S)
def rk (z : Int) : Nat := if z = 0 then 5 else if z = 1 then 4 else if z = 2 then 3 else if z = 5 then 2 else if z = 3 then 1 else 0
def mz (S : sS) : Nat := if S.1 231 61 = 1 then 1 + 8 * (1000 - S.1 231 65).toNat + rk (S.1 231 62) else 0
theorem rk_le (z : Int) : rk z ≤ 5 := by unfold rk; (repeat' split) <;> decide
theorem mz1 {S u : sS} (hS : S.1 231 61 = 1) (h65 : S.1 231 65 ≤ 1000) (hu : u.1 231 61 = 1 → S.1 231 65 < u.1 231 65 ∧ u.1 231 65 ≤ 1000) : mz u < mz S := by
  unfold mz
  rw [if_pos hS]
  by_cases q : u.1 231 61 = 1
  · rw [if_pos q]; have := hu q; have := rk_le (u.1 231 62); omega
  · rw [if_neg q]; omega
theorem mz2 {S u : sS} (hS : S.1 231 61 = 1) (e : u.1 231 65 = S.1 231 65) (hr : rk (u.1 231 62) < rk (S.1 231 62)) : mz u < mz S := by
  unfold mz
  rw [if_pos hS, e]
  by_cases q : u.1 231 61 = 1
  · rw [if_pos q]; omega
  · rw [if_neg q]; omega
theorem LD.lg {S u : sS} (h : LD S u) : LG u := ⟨h.1, fun q => ⟨(h.2.2 q).1, .inl ⟨.inr (h.2.2 q).2.2.1, (h.2.2 q).2.1⟩⟩, h.2.1⟩
theorem LD.mz {S u : sS} (h : LD S u) (hS : S.1 231 61 = 1) (h65 : S.1 231 65 ≤ 1000) : mz u < mz S := mz1 hS h65 (fun q => ⟨(h.2.2 q).2.2.2, by have := (h.2.2 q).1.2.1; unfold GX at this; omega⟩)
theorem ST.s0 {S : sS} (h : ST S) (e : S.1 231 62 = 0) : dSA S ∧ Tab S ∧ dFI S := by
  rcases h with ⟨h, _⟩ | ⟨a, ⟨z, t⟩ | ⟨z, t⟩ | z⟩
  · omega
  · exact ⟨a, t⟩
  · omega
  · omega
theorem ST.s1 {S : sS} (h : ST S) (e : S.1 231 62 = 1 ∨ S.1 231 62 = 2) : dSA S ∧ Tab S ∧ WX S := by
  rcases h with ⟨h, _⟩ | ⟨a, ⟨z, t⟩ | ⟨z, t⟩ | z⟩
  · omega
  · omega
  · exact ⟨a, t⟩
  · omega
theorem ST.s5 {S : sS} (h : ST S) (e : S.1 231 62 = 5) : dSA S := by
  rcases h with ⟨h, _⟩ | ⟨a, _⟩
  · omega
  · exact a
theorem ST.s3 {S : sS} (h : ST S) (e : ¬ (S.1 231 62 = 0 ∨ S.1 231 62 = 1 ∨ S.1 231 62 = 2 ∨ S.1 231 62 = 5)) : (S.1 231 62 = 3 ∨ S.1 231 62 = 4) ∧ S.1 231 60 = 0 := by
  rcases h with h | ⟨a, ⟨z, t⟩ | ⟨z, t⟩ | z⟩
  · exact h
  · omega
  · omega
  · omega
theorem BO.drop {S u : sS} (h : BO S) (e46 : u.1 231 46 = S.1 231 46) (e58 : u.1 231 58 = S.1 231 58) (e59 : u.1 231 59 = S.1 231 59 - 1) (e63 : u.1 231 63 = S.1 231 63) (h59 : 1 ≤ S.1 231 59) (a265 : u.2.1 265 = S.2.1 265) (a266 : ∃ s, (0 ≤ s ∧ s ≤ S.1 231 59) ∧ ∀ x, u.2.1 266 x = if x = s then S.2.1 266 (S.1 231 59) else S.2.1 266 x) : BO u := ⟨fun i i0 i1 => by rw [a265, e46, e63]; exact h.1 i i0 (by omega), fun j j0 j1 => by
  obtain ⟨s, _, e⟩ := a266
  rw [e46, e63, e j]
  split
  · exact h.2 _ h59 (by omega)
  · exact h.2 j j0 (by omega)⟩
theorem BO.pv {S u : sS} {r s tn : Int} (h : BO S) (p : PV S u r s tn) (hr : 1 ≤ r ∧ r ≤ S.1 231 58) (hs : 1 ≤ s ∧ s ≤ S.1 231 59) (e46 : u.1 231 46 = S.1 231 46) (e58 : u.1 231 58 = S.1 231 58) (e59 : u.1 231 59 = S.1 231 59) (e63 : u.1 231 63 = S.1 231 63) : BO u := by
  obtain ⟨_, _, p5, p6⟩ := p
  refine ⟨fun i i0 i1 => ?_, fun j j0 j1 => ?_⟩
  · rw [p5, e46, e63]; split
    · exact h.2 s hs.1 hs.2
    · exact h.1 i i0 (by omega)
  · rw [p6, e46, e63]; split
    · exact h.1 r hr.1 hr.2
    · exact h.2 j j0 (by omega)
/-- the first pivot of PHASE 1 -/
theorem WX.first {S u : sS} {r tn : Int} (h : dFI S) (hK : KM S u) (hW : S.1 231 60 = 1) (hr : 1 ≤ r ∧ r ≤ S.1 231 58) (h8 : S.1 231 58 ≤ 40) (hs : 1 ≤ S.1 231 59 ∧ S.1 231 59 ≤ 13) (htn : 0 ≤ tn ∧ tn ≤ 1) (hp : (tn = 1 → TV S (r + 1) (S.1 231 59) < 0) ∧ (tn = 0 → 0 < TV S (r + 1) (S.1 231 59))) (p : PV S u r (S.1 231 59) tn) : WX u := by
  obtain ⟨hD, hz, hw1, hc, hb, ho, ho0⟩ := h
  obtain ⟨_, pC, p5, p6⟩ := p
  have e8 : u.1 231 58 = S.1 231 58 := hK.1 58
  have e9 : u.1 231 59 = S.1 231 59 := hK.1 59
  have c1 := hc r hr.1 hr.2
  have t1 : tn = 1 := by
    rcases (by omega : tn = 0 ∨ tn = 1) with q | q
    · have := hp.2 q; omega
    · exact q
  subst t1
  have cw : ∀ j, 0 ≤ j → j ≤ S.1 231 59 → PC S r (S.1 231 59) 1 1 j (TV u 1 j) := fun j j0 j1 => pC 1 j (by omega) (by omega) (fun _ => hW) j0 j1
  have cr : ∀ j, 0 ≤ j → j ≤ S.1 231 59 → PC S r (S.1 231 59) 1 (r + 1) j (TV u (r + 1) j) := fun j j0 j1 => pC (r + 1) j (by omega) (by omega) (fun _ => hW) j0 j1
  refine .inl ⟨r, by omega, ?_, fun i i0 i1 ne => ?_, fun j j0 j1 => ?_, fun j j0 j1 => ?_, S.1 231 59, hs.1, by omega, ?_⟩
  · rw [p5, if_pos rfl]; exact ho0
  · rw [p5, if_neg ne]; exact hb i i0 (by omega)
  · rw [p6]; split
    · exact hb r hr.1 hr.2
    · exact ho j j0 (by omega)
  · rw [e9] at j1
    by_cases q : j = S.1 231 59
    · rw [(cw j j0 j1).2.2.1 ⟨by omega, q⟩, (cr j j0 j1).1 ⟨rfl, q⟩, q, hw1, hD]
    · obtain ⟨Q, R, h1, h2, h3, h4⟩ := (cw j j0 j1).2.2.2 ⟨by omega, q⟩
      rw [(cr j j0 j1).2.1 ⟨rfl, q⟩, h1]
      rw [hz j j0 (by omega), hw1, hD, c1] at h2
      rw [hD] at h4
      rw [asn_1, asn_1]
      omega
  · rw [(cr _ (by omega) (Int.le_refl _)).1 ⟨rfl, rfl⟩, hD, asn_1]; decide
/-- behind a pivot the stages go on -/
theorem ST.pv {S u : sS} {r tn : Int} (h : dSQ S) (hD : DOK S) (hK : KM S u) (hr : 1 ≤ r ∧ r ≤ S.1 231 58) (hs : 1 ≤ S.1 231 72 ∧ S.1 231 72 ≤ S.1 231 59) (htn : 0 ≤ tn ∧ tn ≤ 1) (hp : (tn = 1 → TV S (r + 1) (S.1 231 72) < 0) ∧ (tn = 0 → 0 < TV S (r + 1) (S.1 231 72))) (p : PV S u r (S.1 231 72) tn) : ST u := by
  have e := hK.1
  have hd1 := hD.1
  rcases h with ⟨h1, h2⟩ | ⟨a, ⟨z, t, f⟩ | z⟩
  · exact .inl ⟨by rw [e 62]; exact h1, (e 60).trans h2⟩
  · have a' := a
    unfold dSA at a'
    have au : dSA u := a.sm (e 47) (e 58) (e 59) (e 60) (e 78)
    have tu : Tab u := t.pv hK hD a'.2.2.1 hr hs htn p
    refine .inr ⟨au, .inr (.inl ⟨.inl ((e 62).trans z), tu, ?_⟩)⟩
    rcases f with ⟨f, y⟩ | ⟨f, y⟩
    · rw [y] at p hp; exact WX.first f hK a'.1 hr (by omega) (by omega) htn hp p
    · exact f.pv t hK hD a'.1 a'.2.2.1 hr hs htn hp y p
  · exact .inr ⟨a.sm (e 47) (e 58) (e 59) (e 60) (e 78), .inr (.inr ((e 62).trans z))⟩
/-- the reference's solver, between calls -/
def XI (S : sS) : Prop := MR S ∧ (0 ≤ S.1 231 61 ∧ S.1 231 61 ≤ 6) ∧ (S.1 231 61 = 1 → S.1 231 70 = 0 → GI S) ∧ (S.1 231 61 = 1 → S.1 231 70 = 1 → GQ S) ∧ (2 ≤ S.1 231 61 → EI S)
theorem GD.mr {S : sS} (h : GD S) : MR S := by
  by_cases q : S.1 231 61 = 1
  · exact (h.2.1 q).1.1.1
  · exact (h.2.2 q).1
theorem GD.xi {S : sS} (h : GD S) (e : S.1 231 70 = 1) : XI S := ⟨h.mr, by have := h.1; omega, fun _ z => absurd (e.symm.trans z) (by decide), fun q _ => h.2.1 q, fun q => h.2.2 (by omega)⟩
theorem EI.xi {S : sS} (h : EI S) (e : 2 ≤ S.1 231 61 ∧ S.1 231 61 ≤ 6) : XI S := ⟨h.1, by omega, fun q => absurd q (by omega), fun q => absurd q (by omega), fun _ => h⟩
set_option maxRecDepth 100000 in
set_option maxHeartbeats 4000000 in
theorem s_X12_evaluate (l : Launch) (G : sG) (S : sS)  (hI : dX G S) (hG : GC S) (h60 : S.1 231 60 = 0) (hst : S.1 231 61 = 1) : Met l yX12_evaluate (.code yX12_evaluate cX12_evaluate 4 none :: tb) (rmk 11 0 0) (sPc G 294 S [.ref (G.2.2.1 + 231)]) (sQv G 294 (fun u => dX G u ∧ Fr S u (pl [231, 233, 234, 235, 236, 237, 238, 239, 240, 241, 242, 261, 262, 263, 264, 265, 266, 267, 268, 269, 270, 271, 272, 273, 274, 275, 276, 277, 278, 279, 280, 281]) ∧ FF S u (fl [6, 58, 59, 61, 62, 63, 65, 66, 67, 69, 78, 79, 84, 86]) ∧ (LD S u))) 0 0 (sF G) := by
  refine sEnter (by decide) (Nat.le_of_ble_eq_true rfl) ?_
  intro p e s m args below meth c Cx hr hlk hnm hW ls hl
  have Cx : sC G p m c cX12_evaluate 4 s args RX12 := Cx
  obtain ⟨hx, hb, hml, hown, hts⟩ := id Cx.1
  have hL : sL G [] := sL_nil
  have hl : lv_has ls 4 [(0, .ref (G.2.2.1 + 231))] := hl
  have hW0 := hW
  have hm1 := hG.1.1.1
  unfold MD at hm1
  have hx1 := hG.2.1
  unfold GX at hx1
  have hd1 := hG.1.2.1.1
  have hps1 := hG.1.2.2.2.2
  unfold dPS at hps1
  have join_19 : ∀ (S19 : sS)  (H : Heap) (locs : List Loc) (ls : Array Slot), (dX G S19) → (Fr S S19 (pl [231, 233, 234, 235, 236, 237, 238, 239, 240, 241, 242, 261, 262, 263, 264, 265, 266, 267, 268, 269, 270, 271, 272, 273, 274, 275, 276, 277, 278, 279, 280, 281])) → (Fr S S19 (pl [233, 234, 235, 237, 238, 240])) → (FF S S19 (fl [6, 58, 59, 61, 62, 63, 65, 66, 67, 69, 78, 79, 84, 86])) → (FF S S19 (fl [])) → sW G 294 S19 H → sL G locs → lv_has ls 4 [(0, .ref (G.2.2.1 + 231))] → W p l e (rmk 11 0 0) s m args below meth c H locs 0 0 (MQ below (sQv G 294 (fun u => dX G u ∧ Fr S u (pl [231, 233, 234, 235, 236, 237, 238, 239, 240, 241, 242, 261, 262, 263, 264, 265, 266, 267, 268, 269, 270, 271, 272, 273, 274, 275, 276, 277, 278, 279, 280, 281]) ∧ FF S u (fl [6, 58, 59, 61, 62, 63, 65, 66, 67, 69, 78, 79, 84, 86]) ∧ (LD S u))) args s 0 0 (sF G)) (F0 m 19 ls []) := by
    intro S19  H locs ls hI19 hFm19 hL19_ hGm19 gL19_ hW hL hl
    refine lv_iconst (v := iv 0) hx hb dX12_evaluate_19 (by decide) ?_
    refine lv_istore_n (lv' := [(1, .int (iv 0)), (0, .ref (G.2.2.1 + 231))]) hx hb dX12_evaluate_20 rfl hl (by decide) rfl (fun ls hl => ?_)
    refine lv_iconst (v := iv 1) hx hb dX12_evaluate_21 (by decide) ?_
    refine lv_istore_n (lv' := [(2, .int (iv 1)), (1, .int (iv 0)), (0, .ref (G.2.2.1 + 231))]) hx hb dX12_evaluate_22 rfl hl (by decide) rfl (fun ls hl => ?_)
    have loop_23 : ∀ (fuel : Nat) (S23 : sS) (i : Int) (r1 : Int) (H : Heap) (locs : List Loc) (ls : Array Slot), (S.1 231 58 + 1 - i).toNat < fuel → (dX G S23) → (Fr S S23 (pl [231, 233, 234, 235, 236, 237, 238, 239, 240, 241, 242, 261, 262, 263, 264, 265, 266, 267, 268, 269, 270, 271, 272, 273, 274, 275, 276, 277, 278, 279, 280, 281])) → (Fr S19 S23 (pl [233, 234, 235, 237, 238, 240])) → (FF S S23 (fl [6, 58, 59, 61, 62, 63, 65, 66, 67, 69, 78, 79, 84, 86])) → (FF S19 S23 (fl [])) → (1 ≤ i ∧ i ≤ S.1 231 58 + 1) → (0 ≤ r1 ∧ r1 < i) → (Hd (1 ≤ r1 → 1 ≤ S.2.1 265 r1 ∧ S.2.1 265 r1 ≤ S.1 231 46)) → sW G 294 S23 H → sL G locs → lv_has ls 4 [(2, .int (iv i)), (1, .int (iv r1)), (0, .ref (G.2.2.1 + 231))] → W p l e (rmk 11 0 0) s m args below meth c H locs 0 0 (MQ below (sQv G 294 (fun u => dX G u ∧ Fr S u (pl [231, 233, 234, 235, 236, 237, 238, 239, 240, 241, 242, 261, 262, 263, 264, 265, 266, 267, 268, 269, 270, 271, 272, 273, 274, 275, 276, 277, 278, 279, 280, 281]) ∧ FF S u (fl [6, 58, 59, 61, 62, 63, 65, 66, 67, 69, 78, 79, 84, 86]) ∧ (LD S u))) args s 0 0 (sF G)) (F0 m 23 ls []) := by
      intro fuel
      induction fuel with
      | zero => intro S23 i r1 H locs ls hmeas hI23 hFm23 hL23_ hGm23 gL23_ hi hr1 hrb hW hL hl; exact absurd hmeas (Nat.not_lt_zero _)
      | succ fuel ih_23 =>
        intro S23 i r1 H locs ls hmeas hI23 hFm23 hL23_ hGm23 gL23_ hi hr1 hrb hW hL hl
        refine lv_iload_n hx hb dX12_evaluate_23 rfl (lv_at hl 0 rfl) ?_
        refine lv_aload_n hx hb dX12_evaluate_24 rfl (lv_at hl 2 rfl) ?_
        have q_1 : (-2147483648) ≤ S.1 231 58 ∧ S.1 231 58 ≤ 2147483647 := hI.fi 58
        refine g_X12_483 Cx hW (k := 231) (by decide) rfl (v := S.1 231 58) ((gL23_ 58 rfl).trans (gL19_ 58 rfl)) dX12_evaluate_25 ?_
        refine r_icmp_gt (tgt := 125) hx hb ⟨(by omega), (by omega)⟩ ⟨(by omega), (by omega)⟩ dX12_evaluate_28 (by decide) (fun c_2 => ?_) (fun c_2 => ?_)
        · refine lv_iload_n hx hb dX12_evaluate_125 rfl (lv_at hl 1 rfl) ?_
          refine r_if_ne (tgt := 140) hx hb ⟨(by omega), (by omega)⟩ dX12_evaluate_126 (by decide) (fun c_3 => ?_) (fun c_3 => ?_)
          · refine lv_aload_n hx hb dX12_evaluate_140 rfl (lv_at hl 2 rfl) ?_
            have q_4 : (-2147483648) ≤ S.1 231 48 ∧ S.1 231 48 ≤ 2147483647 := hI.fi 48
            refine g_X12_471 Cx hW (k := 231) (by decide) rfl (v := S.1 231 48) ((gL23_ 48 rfl).trans (gL19_ 48 rfl)) dX12_evaluate_141 ?_
            refine lv_aload_n hx hb dX12_evaluate_144 rfl (lv_at hl 2 rfl) ?_
            have q_5 : (-2147483648) ≤ S.1 231 46 ∧ S.1 231 46 ≤ 2147483647 := hI.fi 46
            refine g_X12_465 Cx hW (k := 231) (by decide) rfl (v := S.1 231 46) ((gL23_ 46 rfl).trans (gL19_ 46 rfl)) dX12_evaluate_145 ?_
            refine r_icmp_ne (tgt := 170) hx hb ⟨(by omega), (by omega)⟩ ⟨(by omega), (by omega)⟩ dX12_evaluate_148 (by decide) (fun c_6 => ?_) (fun c_6 => ?_)
            · refine lv_aload_n hx hb dX12_evaluate_170 rfl (lv_at hl 2 rfl) ?_
              refine lv_iload_n hx hb dX12_evaluate_171 rfl (lv_at hl 1 rfl) ?_
              have q_7 : 0 ≤ S.1 231 60 ∧ S.1 231 60 ≤ 1 := hI.fi 60
              have lk_8 : S23.1 231 60 = S.1 231 60 := (gL23_ 60 rfl).trans (gL19_ 60 rfl)
              have q_9 : (-2147483648) ≤ S.1 231 61 ∧ S.1 231 61 ≤ 2147483647 := hI.fi 61
              have lk_10 : S23.1 231 61 = S.1 231 61 := (gL23_ 61 rfl).trans (gL19_ 61 rfl)
              have lk_11 : S23.1 231 48 = S.1 231 48 := (gL23_ 48 rfl).trans (gL19_ 48 rfl)
              have lk_12 : S23.1 231 46 = S.1 231 46 := (gL23_ 46 rfl).trans (gL19_ 46 rfl)
              have q_13 : (-2147483648) ≤ S.1 231 69 ∧ S.1 231 69 ≤ 2147483647 := hI.fi 69
              have lk_14 : S23.1 231 69 = S.1 231 69 := (gL23_ 69 rfl).trans (gL19_ 69 rfl)
              have q_15 : (-2147483648) ≤ S.1 231 68 ∧ S.1 231 68 ≤ 2147483647 := hI.fi 68
              have lk_16 : S23.1 231 68 = S.1 231 68 := (gL23_ 68 rfl).trans (gL19_ 68 rfl)
              have lk_17 : S23.1 231 58 = S.1 231 58 := (gL23_ 58 rfl).trans (gL19_ 58 rfl)
              refine sBv (sV (As := [.int (iv r1)]) (rest := []) (k := 231) Cx (s_X12_branch l G S23 (rr := r1) hI23 (GC.sm (S := S) (u := S23) hG ((gL23_ 46 rfl).trans (gL19_ 46 rfl)) ((gL23_ 47 rfl).trans (gL19_ 47 rfl)) ((gL23_ 48 rfl).trans (gL19_ 48 rfl)) ((gL23_ 58 rfl).trans (gL19_ 58 rfl)) ((gL23_ 59 rfl).trans (gL19_ 59 rfl)) ((gL23_ 60 rfl).trans (gL19_ 60 rfl)) ((gL23_ 63 rfl).trans (gL19_ 63 rfl)) ((gL23_ 65 rfl).trans (gL19_ 65 rfl)) ((gL23_ 68 rfl).trans (gL19_ 68 rfl)) ((gL23_ 69 rfl).trans (gL19_ 69 rfl)) ((gL23_ 78 rfl).trans (gL19_ 78 rfl)) ((gL23_ 79 rfl).trans (gL19_ 79 rfl)) ((gL23_ 84 rfl).trans (gL19_ 84 rfl)) ((gL23_ 86 rfl).trans (gL19_ 86 rfl)) (funext fun j => ((hL23_ 261 rfl).2.1 j).trans ((hL19_ 261 rfl).2.1 j)) (funext fun j => ((hL23_ 262 rfl).2.1 j).trans ((hL19_ 262 rfl).2.1 j)) (funext fun j => ((hL23_ 264 rfl).2.1 j).trans ((hL19_ 264 rfl).2.1 j)) (funext fun j => ((hL23_ 265 rfl).2.1 j).trans ((hL19_ 265 rfl).2.1 j)) (funext fun j => ((hL23_ 266 rfl).2.1 j).trans ((hL19_ 266 rfl).2.1 j)) (funext fun j => ((hL23_ 267 rfl).2.1 j).trans ((hL19_ 267 rfl).2.1 j)) (funext fun j => ((hL23_ 268 rfl).2.1 j).trans ((hL19_ 268 rfl).2.1 j)) (funext fun j => ((hL23_ 269 rfl).2.1 j).trans ((hL19_ 269 rfl).2.1 j)) (funext fun j => ((hL23_ 270 rfl).2.1 j).trans ((hL19_ 270 rfl).2.1 j)) (funext fun j => ((hL23_ 271 rfl).2.1 j).trans ((hL19_ 271 rfl).2.1 j)) (funext fun j => ((hL23_ 272 rfl).2.1 j).trans ((hL19_ 272 rfl).2.1 j)) (funext fun j => ((hL23_ 273 rfl).2.1 j).trans ((hL19_ 273 rfl).2.1 j)) (funext fun j => ((hL23_ 274 rfl).2.1 j).trans ((hL19_ 274 rfl).2.1 j)) (funext fun j => ((hL23_ 260 rfl).2.2.1 j).trans ((hL19_ 260 rfl).2.2.1 j)) (funext fun j => ((hL23_ 290 rfl).2.2.1 j).trans ((hL19_ 290 rfl).2.2.1 j))) (by omega) (by omega) (by omega) (by omega) (by rw [show S23.2.1 265 = S.2.1 265 from (funext fun j => ((hL23_ 265 rfl).2.1 j).trans ((hL19_ 265 rfl).2.1 j)), show S23.1 231 46 = S.1 231 46 from (gL23_ 46 rfl).trans (gL19_ 46 rfl)]; exact hrb (by omega))) (c_X12_643 Cx rfl rfl (rmk_ok (by omega) (by decide))) hW (by decide) rfl rfl rfl hl.1 rfl (Nat.le_of_ble_eq_true rfl) dX12_evaluate_172 ⟨Nat.le_of_ble_eq_true rfl, Nat.le_of_ble_eq_true rfl⟩) hL (fun u_18 H locs k_19 hW hL => ?_)
              obtain ⟨iu_18, fu_18, gu_18, xu_18⟩ := k_19
              have F_20 := hFm23.trans fu_18
              have g_21 : FF S u_18 (fl [6, 58, 59, 61, 62, 63, 65, 66, 67, 69, 78, 79, 84, 86]) := FF.trans hGm23 (FF.to gu_18 (fl_sub (by decide)))
              exact sVret Cx hr hlk hW hL ⟨iu_18, F_20, g_21, (LD.of (X := S23) xu_18 ((show S23.1 231 65 = S.1 231 65 from (gL23_ 65 rfl).trans (gL19_ 65 rfl))))⟩ dX12_evaluate_175
            · refine lv_aload_n hx hb dX12_evaluate_151 rfl (lv_at hl 2 rfl) ?_
              have q_23 : (-2147483648) ≤ S.1 231 69 ∧ S.1 231 69 ≤ 2147483647 := hI.fi 69
              refine g_X12_508 Cx hW (k := 231) (by decide) rfl (v := S.1 231 69) ((gL23_ 69 rfl).trans (gL19_ 69 rfl)) dX12_evaluate_152 ?_
              refine lv_aload_n hx hb dX12_evaluate_155 rfl (lv_at hl 2 rfl) ?_
              have q_24 : (-2147483648) ≤ S.1 231 68 ∧ S.1 231 68 ≤ 2147483647 := hI.fi 68
              refine g_X12_493 Cx hW (k := 231) (by decide) rfl (v := S.1 231 68) ((gL23_ 68 rfl).trans (gL19_ 68 rfl)) dX12_evaluate_156 ?_
              refine r_icmp_ge (tgt := 170) hx hb ⟨(by omega), (by omega)⟩ ⟨(by omega), (by omega)⟩ dX12_evaluate_159 (by decide) (fun c_25 => ?_) (fun c_25 => ?_)
              · refine lv_aload_n hx hb dX12_evaluate_170 rfl (lv_at hl 2 rfl) ?_
                refine lv_iload_n hx hb dX12_evaluate_171 rfl (lv_at hl 1 rfl) ?_
                have q_26 : 0 ≤ S.1 231 60 ∧ S.1 231 60 ≤ 1 := hI.fi 60
                have lk_27 : S23.1 231 60 = S.1 231 60 := (gL23_ 60 rfl).trans (gL19_ 60 rfl)
                have q_28 : (-2147483648) ≤ S.1 231 61 ∧ S.1 231 61 ≤ 2147483647 := hI.fi 61
                have lk_29 : S23.1 231 61 = S.1 231 61 := (gL23_ 61 rfl).trans (gL19_ 61 rfl)
                have lk_30 : S23.1 231 48 = S.1 231 48 := (gL23_ 48 rfl).trans (gL19_ 48 rfl)
                have lk_31 : S23.1 231 46 = S.1 231 46 := (gL23_ 46 rfl).trans (gL19_ 46 rfl)
                have lk_32 : S23.1 231 69 = S.1 231 69 := (gL23_ 69 rfl).trans (gL19_ 69 rfl)
                have lk_33 : S23.1 231 68 = S.1 231 68 := (gL23_ 68 rfl).trans (gL19_ 68 rfl)
                have lk_34 : S23.1 231 58 = S.1 231 58 := (gL23_ 58 rfl).trans (gL19_ 58 rfl)
                refine sBv (sV (As := [.int (iv r1)]) (rest := []) (k := 231) Cx (s_X12_branch l G S23 (rr := r1) hI23 (GC.sm (S := S) (u := S23) hG ((gL23_ 46 rfl).trans (gL19_ 46 rfl)) ((gL23_ 47 rfl).trans (gL19_ 47 rfl)) ((gL23_ 48 rfl).trans (gL19_ 48 rfl)) ((gL23_ 58 rfl).trans (gL19_ 58 rfl)) ((gL23_ 59 rfl).trans (gL19_ 59 rfl)) ((gL23_ 60 rfl).trans (gL19_ 60 rfl)) ((gL23_ 63 rfl).trans (gL19_ 63 rfl)) ((gL23_ 65 rfl).trans (gL19_ 65 rfl)) ((gL23_ 68 rfl).trans (gL19_ 68 rfl)) ((gL23_ 69 rfl).trans (gL19_ 69 rfl)) ((gL23_ 78 rfl).trans (gL19_ 78 rfl)) ((gL23_ 79 rfl).trans (gL19_ 79 rfl)) ((gL23_ 84 rfl).trans (gL19_ 84 rfl)) ((gL23_ 86 rfl).trans (gL19_ 86 rfl)) (funext fun j => ((hL23_ 261 rfl).2.1 j).trans ((hL19_ 261 rfl).2.1 j)) (funext fun j => ((hL23_ 262 rfl).2.1 j).trans ((hL19_ 262 rfl).2.1 j)) (funext fun j => ((hL23_ 264 rfl).2.1 j).trans ((hL19_ 264 rfl).2.1 j)) (funext fun j => ((hL23_ 265 rfl).2.1 j).trans ((hL19_ 265 rfl).2.1 j)) (funext fun j => ((hL23_ 266 rfl).2.1 j).trans ((hL19_ 266 rfl).2.1 j)) (funext fun j => ((hL23_ 267 rfl).2.1 j).trans ((hL19_ 267 rfl).2.1 j)) (funext fun j => ((hL23_ 268 rfl).2.1 j).trans ((hL19_ 268 rfl).2.1 j)) (funext fun j => ((hL23_ 269 rfl).2.1 j).trans ((hL19_ 269 rfl).2.1 j)) (funext fun j => ((hL23_ 270 rfl).2.1 j).trans ((hL19_ 270 rfl).2.1 j)) (funext fun j => ((hL23_ 271 rfl).2.1 j).trans ((hL19_ 271 rfl).2.1 j)) (funext fun j => ((hL23_ 272 rfl).2.1 j).trans ((hL19_ 272 rfl).2.1 j)) (funext fun j => ((hL23_ 273 rfl).2.1 j).trans ((hL19_ 273 rfl).2.1 j)) (funext fun j => ((hL23_ 274 rfl).2.1 j).trans ((hL19_ 274 rfl).2.1 j)) (funext fun j => ((hL23_ 260 rfl).2.2.1 j).trans ((hL19_ 260 rfl).2.2.1 j)) (funext fun j => ((hL23_ 290 rfl).2.2.1 j).trans ((hL19_ 290 rfl).2.2.1 j))) (by omega) (by omega) (by omega) (by omega) (by rw [show S23.2.1 265 = S.2.1 265 from (funext fun j => ((hL23_ 265 rfl).2.1 j).trans ((hL19_ 265 rfl).2.1 j)), show S23.1 231 46 = S.1 231 46 from (gL23_ 46 rfl).trans (gL19_ 46 rfl)]; exact hrb (by omega))) (c_X12_643 Cx rfl rfl (rmk_ok (by omega) (by decide))) hW (by decide) rfl rfl rfl hl.1 rfl (Nat.le_of_ble_eq_true rfl) dX12_evaluate_172 ⟨Nat.le_of_ble_eq_true rfl, Nat.le_of_ble_eq_true rfl⟩) hL (fun u_35 H locs k_36 hW hL => ?_)
                obtain ⟨iu_35, fu_35, gu_35, xu_35⟩ := k_36
                have F_37 := hFm23.trans fu_35
                have g_38 : FF S u_35 (fl [6, 58, 59, 61, 62, 63, 65, 66, 67, 69, 78, 79, 84, 86]) := FF.trans hGm23 (FF.to gu_35 (fl_sub (by decide)))
                exact sVret Cx hr hlk hW hL ⟨iu_35, F_37, g_38, (LD.of (X := S23) xu_35 ((show S23.1 231 65 = S.1 231 65 from (gL23_ 65 rfl).trans (gL19_ 65 rfl))))⟩ dX12_evaluate_175
              · refine lv_aload_n hx hb dX12_evaluate_162 rfl (lv_at hl 2 rfl) ?_
                refine lv_iload_n hx hb dX12_evaluate_163 rfl (lv_at hl 1 rfl) ?_
                have q_40 : 0 ≤ S.1 231 60 ∧ S.1 231 60 ≤ 1 := hI.fi 60
                have lk_41 : S23.1 231 60 = S.1 231 60 := (gL23_ 60 rfl).trans (gL19_ 60 rfl)
                have q_42 : (-2147483648) ≤ S.1 231 61 ∧ S.1 231 61 ≤ 2147483647 := hI.fi 61
                have lk_43 : S23.1 231 61 = S.1 231 61 := (gL23_ 61 rfl).trans (gL19_ 61 rfl)
                have lk_44 : S23.1 231 48 = S.1 231 48 := (gL23_ 48 rfl).trans (gL19_ 48 rfl)
                have lk_45 : S23.1 231 46 = S.1 231 46 := (gL23_ 46 rfl).trans (gL19_ 46 rfl)
                have lk_46 : S23.1 231 69 = S.1 231 69 := (gL23_ 69 rfl).trans (gL19_ 69 rfl)
                have lk_47 : S23.1 231 68 = S.1 231 68 := (gL23_ 68 rfl).trans (gL19_ 68 rfl)
                have lk_48 : S23.1 231 58 = S.1 231 58 := (gL23_ 58 rfl).trans (gL19_ 58 rfl)
                refine sBv (sV (As := [.int (iv r1)]) (rest := []) (k := 231) Cx (s_X12_cut l G S23 (rr := r1) hI23 (GC.sm (S := S) (u := S23) hG ((gL23_ 46 rfl).trans (gL19_ 46 rfl)) ((gL23_ 47 rfl).trans (gL19_ 47 rfl)) ((gL23_ 48 rfl).trans (gL19_ 48 rfl)) ((gL23_ 58 rfl).trans (gL19_ 58 rfl)) ((gL23_ 59 rfl).trans (gL19_ 59 rfl)) ((gL23_ 60 rfl).trans (gL19_ 60 rfl)) ((gL23_ 63 rfl).trans (gL19_ 63 rfl)) ((gL23_ 65 rfl).trans (gL19_ 65 rfl)) ((gL23_ 68 rfl).trans (gL19_ 68 rfl)) ((gL23_ 69 rfl).trans (gL19_ 69 rfl)) ((gL23_ 78 rfl).trans (gL19_ 78 rfl)) ((gL23_ 79 rfl).trans (gL19_ 79 rfl)) ((gL23_ 84 rfl).trans (gL19_ 84 rfl)) ((gL23_ 86 rfl).trans (gL19_ 86 rfl)) (funext fun j => ((hL23_ 261 rfl).2.1 j).trans ((hL19_ 261 rfl).2.1 j)) (funext fun j => ((hL23_ 262 rfl).2.1 j).trans ((hL19_ 262 rfl).2.1 j)) (funext fun j => ((hL23_ 264 rfl).2.1 j).trans ((hL19_ 264 rfl).2.1 j)) (funext fun j => ((hL23_ 265 rfl).2.1 j).trans ((hL19_ 265 rfl).2.1 j)) (funext fun j => ((hL23_ 266 rfl).2.1 j).trans ((hL19_ 266 rfl).2.1 j)) (funext fun j => ((hL23_ 267 rfl).2.1 j).trans ((hL19_ 267 rfl).2.1 j)) (funext fun j => ((hL23_ 268 rfl).2.1 j).trans ((hL19_ 268 rfl).2.1 j)) (funext fun j => ((hL23_ 269 rfl).2.1 j).trans ((hL19_ 269 rfl).2.1 j)) (funext fun j => ((hL23_ 270 rfl).2.1 j).trans ((hL19_ 270 rfl).2.1 j)) (funext fun j => ((hL23_ 271 rfl).2.1 j).trans ((hL19_ 271 rfl).2.1 j)) (funext fun j => ((hL23_ 272 rfl).2.1 j).trans ((hL19_ 272 rfl).2.1 j)) (funext fun j => ((hL23_ 273 rfl).2.1 j).trans ((hL19_ 273 rfl).2.1 j)) (funext fun j => ((hL23_ 274 rfl).2.1 j).trans ((hL19_ 274 rfl).2.1 j)) (funext fun j => ((hL23_ 260 rfl).2.2.1 j).trans ((hL19_ 260 rfl).2.2.1 j)) (funext fun j => ((hL23_ 290 rfl).2.2.1 j).trans ((hL19_ 290 rfl).2.2.1 j))) (by omega) (by omega) (by omega) (by omega)) (c_X12_640 Cx rfl rfl (rmk_ok (by omega) (by decide))) hW (by decide) rfl rfl rfl hl.1 rfl (Nat.le_of_ble_eq_true rfl) dX12_evaluate_164 ⟨Nat.le_of_ble_eq_true rfl, Nat.le_of_ble_eq_true rfl⟩) hL (fun u_49 H locs k_50 hW hL => ?_)
                obtain ⟨iu_49, fu_49, gu_49, xu_49⟩ := k_50
                have F_51 := hFm23.trans fu_49
                have g_52 : FF S u_49 (fl [6, 58, 59, 61, 62, 63, 65, 66, 67, 69, 78, 79, 84, 86]) := FF.trans hGm23 (FF.to gu_49 (fl_sub (by decide)))
                refine lv_goto (tgt := 175) hx hb dX12_evaluate_167 (by decide) ?_
                exact sVret Cx hr hlk hW hL ⟨iu_49, F_51, g_52, (LD.of (X := S23) xu_49 ((show S23.1 231 65 = S.1 231 65 from (gL23_ 65 rfl).trans (gL19_ 65 rfl))))⟩ dX12_evaluate_175
          · refine lv_aload_n hx hb dX12_evaluate_129 rfl (lv_at hl 2 rfl) ?_
            refine sBv (sV (As := []) (rest := []) (k := 231) Cx (s_X12_takeBest l G S23  hI23 (DOK.sm (S := S) (u := S23) hG.1.2.1 ((gL23_ 58 rfl).trans (gL19_ 58 rfl)) ((gL23_ 59 rfl).trans (gL19_ 59 rfl)) ((gL23_ 60 rfl).trans (gL19_ 60 rfl)) (funext fun j => ((hL23_ 262 rfl).2.1 j).trans ((hL19_ 262 rfl).2.1 j)) (funext fun j => ((hL23_ 264 rfl).2.1 j).trans ((hL19_ 264 rfl).2.1 j))) (by unfold MD; have y46 := (show S23.1 231 46 = S.1 231 46 from (gL23_ 46 rfl).trans (gL19_ 46 rfl)); have y47 := (show S23.1 231 47 = S.1 231 47 from (gL23_ 47 rfl).trans (gL19_ 47 rfl)); have y63 := (show S23.1 231 63 = S.1 231 63 from (gL23_ 63 rfl).trans (gL19_ 63 rfl)); omega)) (c_X12_637 Cx rfl rfl (rmk_ok (by omega) (by decide))) hW (by decide) rfl rfl rfl hl.1 rfl (Nat.le_of_ble_eq_true rfl) dX12_evaluate_130 ⟨Nat.le_of_ble_eq_true rfl, Nat.le_of_ble_eq_true rfl⟩) hL (fun u_54 H locs k_55 hW hL => ?_)
            obtain ⟨iu_54, fu_54, gu_54, xu_54⟩ := k_55
            have F_56 := hFm23.trans (fu_54.to (pl_sub (by decide)))
            have g_57 : FF S u_54 (fl [6, 58, 59, 61, 62, 63, 65, 66, 67, 69, 78, 79, 84, 86]) := FF.trans hGm23 (FF.to gu_54 (fl_sub (by decide)))
            refine lv_aload_n hx hb dX12_evaluate_133 rfl (lv_at hl 2 rfl) ?_
            have q_59 : 0 ≤ S.1 231 60 ∧ S.1 231 60 ≤ 1 := hI.fi 60
            have lk_60 : u_54.1 231 60 = S.1 231 60 := (gu_54 60 rfl).trans ((gL23_ 60 rfl).trans (gL19_ 60 rfl))
            have q_61 : (-2147483648) ≤ S.1 231 78 ∧ S.1 231 78 ≤ 2147483647 := hI.fi 78
            have lk_62 : u_54.1 231 78 = S.1 231 78 := (gu_54 78 rfl).trans ((gL23_ 78 rfl).trans (gL19_ 78 rfl))
            have q_63 : (-2147483648) ≤ S.1 231 61 ∧ S.1 231 61 ≤ 2147483647 := hI.fi 61
            have lk_64 : u_54.1 231 61 = S.1 231 61 := (gu_54 61 rfl).trans ((gL23_ 61 rfl).trans (gL19_ 61 rfl))
            refine sBv (sV (As := []) (rest := []) (k := 231) Cx (s_X12_leafBound l G u_54  iu_54 ⟨⟨(MR.sm (S := S) (u := u_54) hG.1.1 ((gu_54 46 rfl).trans ((gL23_ 46 rfl).trans (gL19_ 46 rfl))) ((gu_54 47 rfl).trans ((gL23_ 47 rfl).trans (gL19_ 47 rfl))) ((gu_54 63 rfl).trans ((gL23_ 63 rfl).trans (gL19_ 63 rfl))) (funext fun j => ((fu_54 261 rfl).2.1 j).trans (((hL23_ 261 rfl).2.1 j).trans ((hL19_ 261 rfl).2.1 j))) (funext fun j => ((fu_54 260 rfl).2.2.1 j).trans (((hL23_ 260 rfl).2.2.1 j).trans ((hL19_ 260 rfl).2.2.1 j))) (funext fun j => ((fu_54 290 rfl).2.2.1 j).trans (((hL23_ 290 rfl).2.2.1 j).trans ((hL19_ 290 rfl).2.2.1 j)))), (DOK.sm (S := S) (u := u_54) hG.1.2.1 ((gu_54 58 rfl).trans ((gL23_ 58 rfl).trans (gL19_ 58 rfl))) ((gu_54 59 rfl).trans ((gL23_ 59 rfl).trans (gL19_ 59 rfl))) ((gu_54 60 rfl).trans ((gL23_ 60 rfl).trans (gL19_ 60 rfl))) (funext fun j => ((fu_54 262 rfl).2.1 j).trans (((hL23_ 262 rfl).2.1 j).trans ((hL19_ 262 rfl).2.1 j))) (funext fun j => ((fu_54 264 rfl).2.1 j).trans (((hL23_ 264 rfl).2.1 j).trans ((hL19_ 264 rfl).2.1 j)))), (BO.sm (S := S) (u := u_54) hG.1.2.2.1 ((gu_54 46 rfl).trans ((gL23_ 46 rfl).trans (gL19_ 46 rfl))) ((gu_54 58 rfl).trans ((gL23_ 58 rfl).trans (gL19_ 58 rfl))) ((gu_54 59 rfl).trans ((gL23_ 59 rfl).trans (gL19_ 59 rfl))) ((gu_54 63 rfl).trans ((gL23_ 63 rfl).trans (gL19_ 63 rfl))) (funext fun j => ((fu_54 265 rfl).2.1 j).trans (((hL23_ 265 rfl).2.1 j).trans ((hL19_ 265 rfl).2.1 j))) (funext fun j => ((fu_54 266 rfl).2.1 j).trans (((hL23_ 266 rfl).2.1 j).trans ((hL19_ 266 rfl).2.1 j)))), (fun _ => xu_54.1), (dPS.sm (S := S) (u := u_54) hG.1.2.2.2.2 ((gu_54 86 rfl).trans ((gL23_ 86 rfl).trans (gL19_ 86 rfl))))⟩, (GX.sm (S := S) (u := u_54) hG.2.1 ((gu_54 47 rfl).trans ((gL23_ 47 rfl).trans (gL19_ 47 rfl))) ((gu_54 58 rfl).trans ((gL23_ 58 rfl).trans (gL19_ 58 rfl))) ((gu_54 63 rfl).trans ((gL23_ 63 rfl).trans (gL19_ 63 rfl))) ((gu_54 65 rfl).trans ((gL23_ 65 rfl).trans (gL19_ 65 rfl))) ((gu_54 68 rfl).trans ((gL23_ 68 rfl).trans (gL19_ 68 rfl))) ((gu_54 69 rfl).trans ((gL23_ 69 rfl).trans (gL19_ 69 rfl))) ((gu_54 78 rfl).trans ((gL23_ 78 rfl).trans (gL19_ 78 rfl))) ((gu_54 84 rfl).trans ((gL23_ 84 rfl).trans (gL19_ 84 rfl)))), (KE.sm (S := S) (u := u_54) hG.2.2.1 ((gu_54 46 rfl).trans ((gL23_ 46 rfl).trans (gL19_ 46 rfl))) ((gu_54 47 rfl).trans ((gL23_ 47 rfl).trans (gL19_ 47 rfl))) ((gu_54 48 rfl).trans ((gL23_ 48 rfl).trans (gL19_ 48 rfl))) ((gu_54 68 rfl).trans ((gL23_ 68 rfl).trans (gL19_ 68 rfl))) ((gu_54 78 rfl).trans ((gL23_ 78 rfl).trans (gL19_ 78 rfl))) (funext fun j => ((fu_54 267 rfl).2.1 j).trans (((hL23_ 267 rfl).2.1 j).trans ((hL19_ 267 rfl).2.1 j))) (funext fun j => ((fu_54 268 rfl).2.1 j).trans (((hL23_ 268 rfl).2.1 j).trans ((hL19_ 268 rfl).2.1 j))) (funext fun j => ((fu_54 269 rfl).2.1 j).trans (((hL23_ 269 rfl).2.1 j).trans ((hL19_ 269 rfl).2.1 j))) (funext fun j => ((fu_54 270 rfl).2.1 j).trans (((hL23_ 270 rfl).2.1 j).trans ((hL19_ 270 rfl).2.1 j))) (funext fun j => ((fu_54 271 rfl).2.1 j).trans (((hL23_ 271 rfl).2.1 j).trans ((hL19_ 271 rfl).2.1 j)))), (CB.sm (S := S) (u := u_54) hG.2.2.2 ((gu_54 46 rfl).trans ((gL23_ 46 rfl).trans (gL19_ 46 rfl))) ((gu_54 48 rfl).trans ((gL23_ 48 rfl).trans (gL19_ 48 rfl))) ((gu_54 63 rfl).trans ((gL23_ 63 rfl).trans (gL19_ 63 rfl))) ((gu_54 68 rfl).trans ((gL23_ 68 rfl).trans (gL19_ 68 rfl))) ((gu_54 69 rfl).trans ((gL23_ 69 rfl).trans (gL19_ 69 rfl))) (funext fun j => ((fu_54 261 rfl).2.1 j).trans (((hL23_ 261 rfl).2.1 j).trans ((hL19_ 261 rfl).2.1 j))))⟩ (by omega) (by omega)) (c_X12_634 Cx rfl rfl (rmk_ok (by omega) (by decide))) hW (by decide) rfl rfl rfl hl.1 rfl (Nat.le_of_ble_eq_true rfl) dX12_evaluate_134 ⟨Nat.le_of_ble_eq_true rfl, Nat.le_of_ble_eq_true rfl⟩) hL (fun u_65 H locs k_66 hW hL => ?_)
            obtain ⟨iu_65, fu_65, gu_65, xu_65⟩ := k_66
            have F_67 := F_56.trans fu_65
            have g_68 : FF S u_65 (fl [6, 58, 59, 61, 62, 63, 65, 66, 67, 69, 78, 79, 84, 86]) := FF.trans g_57 (FF.to gu_65 (fl_sub (by decide)))
            refine lv_goto (tgt := 175) hx hb dX12_evaluate_137 (by decide) ?_
            exact sVret Cx hr hlk hW hL ⟨iu_65, F_67, g_68, (LD.of (X := u_54) xu_65 ((show u_54.1 231 65 = S.1 231 65 from (gu_54 65 rfl).trans ((gL23_ 65 rfl).trans (gL19_ 65 rfl)))))⟩ dX12_evaluate_175
        · have join_119 : ∀ (S119 : sS) (r2 : Int) (H : Heap) (locs : List Loc) (ls : Array Slot), (dX G S119) → (Fr S S119 (pl [231, 233, 234, 235, 236, 237, 238, 239, 240, 241, 242, 261, 262, 263, 264, 265, 266, 267, 268, 269, 270, 271, 272, 273, 274, 275, 276, 277, 278, 279, 280, 281])) → (Fr S19 S119 (pl [233, 234, 235, 237, 238, 240])) → (Fr S23 S119 (pl [233, 234, 235, 237, 238, 240])) → (FF S S119 (fl [6, 58, 59, 61, 62, 63, 65, 66, 67, 69, 78, 79, 84, 86])) → (FF S19 S119 (fl [])) → (FF S23 S119 (fl [])) → (0 ≤ r2 ∧ r2 ≤ i) → (Hd (1 ≤ r2 → 1 ≤ S.2.1 265 r2 ∧ S.2.1 265 r2 ≤ S.1 231 46)) → sW G 294 S119 H → sL G locs → lv_has ls 4 [(2, .int (iv i)), (1, .int (iv r2)), (0, .ref (G.2.2.1 + 231))] → W p l e (rmk 11 0 0) s m args below meth c H locs 0 0 (MQ below (sQv G 294 (fun u => dX G u ∧ Fr S u (pl [231, 233, 234, 235, 236, 237, 238, 239, 240, 241, 242, 261, 262, 263, 264, 265, 266, 267, 268, 269, 270, 271, 272, 273, 274, 275, 276, 277, 278, 279, 280, 281]) ∧ FF S u (fl [6, 58, 59, 61, 62, 63, 65, 66, 67, 69, 78, 79, 84, 86]) ∧ (LD S u))) args s 0 0 (sF G)) (F0 m 119 ls []) := by
            intro S119 r2 H locs ls hI119 hFm119 hFL23119 hL119_ hGm119 hGL23119 gL119_ hr2 hrb2 hW hL hl
            refine lv_iinc (v := iv (i + 1)) (lv' := [(2, .int (iv (i + 1))), (1, .int (iv r2)), (0, .ref (G.2.2.1 + 231))]) hx hb dX12_evaluate_119 hl (k := 0) rfl ((Int32.ofInt_add _ _).symm) (by decide) rfl (fun ls hl => ?_)
            refine lv_goto (tgt := 23) hx hb dX12_evaluate_122 (by decide) ?_
            exact ih_23 S119 (i + 1) r2 _ _ _ (by omega) hI119 hFm119 hFL23119 hGm119 hGL23119 (by omega) (by omega) hrb2 hW hL (lv_sub hl [0, 1, 2] rfl)
          refine lv_aload_n hx hb dX12_evaluate_31 rfl (lv_at hl 2 rfl) ?_
          refine g_X12_112 Cx hW (k := 231) (by decide) rfl (v := .ref (G.2.2.1 + 265)) (rd_56 hI23) dX12_evaluate_32 ?_
          refine lv_iload_n hx hb dX12_evaluate_35 rfl (lv_at hl 0 rfl) ?_
          refine rIald Cx hW (k := 265) (by decide) rfl (by decide) (by omega) (by omega) dX12_evaluate_36 ?_
          have q_69 : (-2147483648) ≤ S.2.1 265 i ∧ S.2.1 265 i ≤ 2147483647 := hI.ai 265 i
          refine r_i (b := S.2.1 265 i) (((hL23_ 265 rfl).2.1 i).trans ((hL19_ 265 rfl).2.1 i)) ?_
          refine lv_istore_n (lv' := [(3, .int (iv (S.2.1 265 i))), (2, .int (iv i)), (1, .int (iv r1)), (0, .ref (G.2.2.1 + 231))]) hx hb dX12_evaluate_37 rfl hl (by decide) rfl (fun ls hl => ?_)
          refine lv_iload_n hx hb dX12_evaluate_38 rfl (lv_at hl 0 rfl) ?_
          refine lv_iconst (v := iv 1) hx hb dX12_evaluate_39 (by decide) ?_
          refine r_icmp_lt (tgt := 119) hx hb ⟨(by omega), (by omega)⟩ ⟨(by omega), (by omega)⟩ dX12_evaluate_40 (by decide) (fun c_70 => ?_) (fun c_70 => ?_)
          · exact join_119 S23 r1 _ _ _ hI23 hFm23 hL23_ (Fr.rf : Fr S23 S23 (pl [233, 234, 235, 237, 238, 240])) hGm23 gL23_ (FF.rf : FF S23 S23 (fl [])) (by omega) hrb hW hL (lv_sub hl [1, 2, 3] rfl)
          · refine lv_iload_n hx hb dX12_evaluate_43 rfl (lv_at hl 0 rfl) ?_
            refine lv_aload_n hx hb dX12_evaluate_44 rfl (lv_at hl 3 rfl) ?_
            have q_71 : (-2147483648) ≤ S.1 231 46 ∧ S.1 231 46 ≤ 2147483647 := hI.fi 46
            refine g_X12_465 Cx hW (k := 231) (by decide) rfl (v := S.1 231 46) ((gL23_ 46 rfl).trans (gL19_ 46 rfl)) dX12_evaluate_45 ?_
            refine r_icmp_gt (tgt := 119) hx hb ⟨(by omega), (by omega)⟩ ⟨(by omega), (by omega)⟩ dX12_evaluate_48 (by decide) (fun c_72 => ?_) (fun c_72 => ?_)
            · exact join_119 S23 r1 _ _ _ hI23 hFm23 hL23_ (Fr.rf : Fr S23 S23 (pl [233, 234, 235, 237, 238, 240])) hGm23 gL23_ (FF.rf : FF S23 S23 (fl [])) (by omega) hrb hW hL (lv_sub hl [1, 2, 3] rfl)
            · refine lv_aload_n hx hb dX12_evaluate_51 rfl (lv_at hl 3 rfl) ?_
              refine g_X12_94 Cx hW (k := 231) (by decide) rfl (v := .ref (G.2.2.1 + 259)) (rd_50 hI23) dX12_evaluate_52 ?_
              refine lv_iload_n hx hb dX12_evaluate_55 rfl (lv_at hl 0 rfl) ?_
              refine rZald Cx hW (k := 259) (by decide) rfl (by decide) (by omega) (by omega) dX12_evaluate_56 ?_
              have q_73 : 0 ≤ S.2.1 259 (S.2.1 265 i) ∧ S.2.1 259 (S.2.1 265 i) ≤ 1 := hI.ai 259 (S.2.1 265 i)
              refine r_i (b := S.2.1 259 (S.2.1 265 i)) (((hL23_ 259 rfl).2.1 (S.2.1 265 i)).trans ((hL19_ 259 rfl).2.1 (S.2.1 265 i))) ?_
              refine r_if_eq (tgt := 119) hx hb ⟨(by omega), (by omega)⟩ dX12_evaluate_57 (by decide) (fun c_74 => ?_) (fun c_74 => ?_)
              · exact join_119 S23 r1 _ _ _ hI23 hFm23 hL23_ (Fr.rf : Fr S23 S23 (pl [233, 234, 235, 237, 238, 240])) hGm23 gL23_ (FF.rf : FF S23 S23 (fl [])) (by omega) hrb hW hL (lv_sub hl [1, 2, 3] rfl)
              · refine lv_iload_n hx hb dX12_evaluate_60 rfl (lv_at hl 2 rfl) ?_
                refine r_if_le (tgt := 77) hx hb ⟨(by omega), (by omega)⟩ dX12_evaluate_61 (by decide) (fun c_75 => ?_) (fun c_75 => ?_)
                · refine lv_aload_n hx hb dX12_evaluate_77 rfl (lv_at hl 3 rfl) ?_
                  refine lv_aload_n hx hb dX12_evaluate_78 rfl (lv_at hl 3 rfl) ?_
                  refine g_X12_103 Cx hW (k := 231) (by decide) rfl (v := .ref (G.2.2.1 + 262)) (rd_53 hI23) dX12_evaluate_79 ?_
                  refine lv_aload_n hx hb dX12_evaluate_82 rfl (lv_at hl 3 rfl) ?_
                  refine lv_iload_n hx hb dX12_evaluate_83 rfl (lv_at hl 1 rfl) ?_
                  refine lv_iconst (v := iv 1) hx hb dX12_evaluate_84 (by decide) ?_
                  refine r_iadd hx hb dX12_evaluate_85 ?_
                  refine lv_iconst (v := iv 0) hx hb dX12_evaluate_86 (by decide) ?_
                  refine sBi (sV (As := [.int (iv (i + 1)), .int (iv 0)]) (rest := [.ref (G.2.2.1 + 262), .ref (G.2.2.1 + 231)]) (k := 231) Cx (s_X12_cell l G S23 (i := i + 1) (j := 0) (by omega) (by omega)) (c_X12_529 Cx rfl rfl (rmk_ok (by omega) (by decide))) hW (by decide) rfl rfl rfl hl.1 rfl (Nat.le_of_ble_eq_true rfl) dX12_evaluate_87 ⟨Nat.le_of_ble_eq_true rfl, Nat.le_of_ble_eq_true rfl⟩) hL (fun qd u_76 H locs k_77 hW hL => ?_)
                  obtain ⟨eu_76, xu_76⟩ := k_77
                  rw [eu_76] at hW
                  refine lv_aload_n hx hb dX12_evaluate_90 rfl (lv_at hl 3 rfl) ?_
                  refine g_X12_109 Cx hW (k := 231) (by decide) rfl (v := .ref (G.2.2.1 + 264)) (rd_55 hI23) dX12_evaluate_91 ?_
                  refine lv_iconst (v := iv 0) hx hb dX12_evaluate_94 (by decide) ?_
                  refine lv_aload_n hx hb dX12_evaluate_95 rfl (lv_at hl 3 rfl) ?_
                  refine g_X12_26 Cx hW (k := 231) (by decide) rfl (v := .ref (G.2.2.1 + 237)) (rd_7 hI23) dX12_evaluate_96 ?_
                  refine lv_iconst (v := iv 0) hx hb dX12_evaluate_99 (by decide) ?_
                  refine lv_aload_n hx hb dX12_evaluate_100 rfl (lv_at hl 3 rfl) ?_
                  refine g_X12_35 Cx hW (k := 231) (by decide) rfl (v := .ref (G.2.2.1 + 240)) (rd_10 hI23) dX12_evaluate_101 ?_
                  refine lv_iconst (v := iv 0) hx hb dX12_evaluate_104 (by decide) ?_
                  have hbp105 : 0 < S23.2.1 264 0 := by rw [show S23.2.1 264 = S.2.1 264 from (funext fun j => ((hL23_ 264 rfl).2.1 j).trans ((hL19_ 264 rfl).2.1 j))]; exact hG.1.2.1.2.2.1.sgn.2.1.mp hG.1.2.1.2.2.2
                  refine sBv (sV (As := [.ref (G.2.2.1 + 262), .int (iv qd), .ref (G.2.2.1 + 264), .int (iv 0), .ref (G.2.2.1 + 237), .int (iv 0), .ref (G.2.2.1 + 240), .int (iv 0)]) (rest := []) (k := 231) Cx (s_X12_divide l G S23 (ka := 262) (po := qd) (kb := 264) (qo := 0) (kc := 237) (ro := 0) (kd := 240) (eo := 0) (Nka := 5280) (Nkb := 8) (Nkc := 68) (Nkd := 68) (La := 6) (Lb := 6) (Ld := 7) hI23 ⟨rfl, by decide, by decide, by decide, rfl⟩ ⟨rfl, by decide, by decide, by decide, rfl⟩ ⟨rfl, by decide, by decide, by decide, rfl⟩ ⟨rfl, by decide, by decide, by decide, rfl⟩ (show (237 : Nat) ≠ 262 by decide) (show (240 : Nat) ≠ 262 by decide) (show (237 : Nat) ≠ 264 by decide) (show (240 : Nat) ≠ 264 by decide) (show (237 : Nat) ≠ 240 by decide) (show (262 : Nat) ≠ 233 by decide) (show (264 : Nat) ≠ 233 by decide) (show (264 : Nat) ≠ 234 by decide) (show (264 : Nat) ≠ 235 by decide) (show (237 : Nat) ≠ 233 by decide) (show (237 : Nat) ≠ 234 by decide) (show (237 : Nat) ≠ 235 by decide) (show (240 : Nat) ≠ 233 by decide) (show (240 : Nat) ≠ 234 by decide) (show (240 : Nat) ≠ 235 by decide) (by omega) (by omega) (by rw [show S23.2.1 262 = S.2.1 262 from (funext fun j => ((hL23_ 262 rfl).2.1 j).trans ((hL19_ 262 rfl).2.1 j))]; exact hG.1.2.1.at (i := i + 1) (j := 0) (by omega) (by omega) (by omega) (by omega)) (by rw [show S23.2.1 264 = S.2.1 264 from (funext fun j => ((hL23_ 264 rfl).2.1 j).trans ((hL19_ 264 rfl).2.1 j))]; exact hG.1.2.1.2.2.1)) (c_X12_266 Cx rfl rfl (rmk_ok (by omega) (by decide))) hW (by decide) rfl rfl rfl hl.1 rfl (Nat.le_of_ble_eq_true rfl) dX12_evaluate_105 ⟨Nat.le_of_ble_eq_true rfl, Nat.le_of_ble_eq_true rfl⟩) hL (fun u_78 H locs k_79 hW hL => ?_)
                  obtain ⟨iu_78, fu_78, xu_78⟩ := k_79
                  have F_80 := hFm23.trans (fu_78.to (pl_sub (by decide)))
                  have F_81 := hL23_.trans (fu_78.to (pl_sub (by decide)))
                  have F_82 := (Fr.rf : Fr S23 S23 (pl [233, 234, 235, 237, 238, 240])).trans (fu_78.to (pl_sub (by decide)))
                  have g_83 : FF S u_78 (fl [6, 58, 59, 61, 62, 63, 65, 66, 67, 69, 78, 79, 84, 86]) := FF.fr hGm23 fu_78 rfl
                  have g_84 : FF S19 u_78 (fl []) := FF.fr gL23_ fu_78 rfl
                  have g_85 : FF S23 u_78 (fl []) := FF.fr (FF.rf : FF S23 S23 (fl [])) fu_78 rfl
                  refine lv_aload_n hx hb dX12_evaluate_108 rfl (lv_at hl 3 rfl) ?_
                  refine g_X12_35 Cx hW (k := 231) (by decide) rfl (v := .ref (G.2.2.1 + 240)) (rd_10 iu_78) dX12_evaluate_109 ?_
                  refine lv_iconst (v := iv 0) hx hb dX12_evaluate_112 (by decide) ?_
                  refine rIald Cx hW (k := 240) (by decide) rfl (by decide) (by omega) (by omega) dX12_evaluate_113 ?_
                  have q_86 : (-2147483648) ≤ u_78.2.1 240 0 ∧ u_78.2.1 240 0 ≤ 2147483647 := iu_78.ai 240 0
                  refine r_i (b := u_78.2.1 240 0) rfl ?_
                  refine r_if_eq (tgt := 119) hx hb ⟨(by omega), (by omega)⟩ dX12_evaluate_114 (by decide) (fun c_87 => ?_) (fun c_87 => ?_)
                  · exact join_119 u_78 r1 _ _ _ iu_78 F_80 F_81 F_82 g_83 g_84 g_85 (by omega) hrb hW hL (lv_sub hl [1, 2, 3] rfl)
                  · refine lv_iload_n hx hb dX12_evaluate_117 rfl (lv_at hl 1 rfl) ?_
                    refine lv_istore_n (lv' := [(1, .int (iv i)), (3, .int (iv (S.2.1 265 i))), (2, .int (iv i)), (0, .ref (G.2.2.1 + 231))]) hx hb dX12_evaluate_118 rfl hl (by decide) rfl (fun ls hl => ?_)
                    exact join_119 u_78 i _ _ _ iu_78 F_80 F_81 F_82 g_83 g_84 g_85 (by omega) (fun _ => by omega) hW hL (lv_sub hl [2, 0, 3] rfl)
                · refine lv_aload_n hx hb dX12_evaluate_64 rfl (lv_at hl 3 rfl) ?_
                  refine g_X12_112 Cx hW (k := 231) (by decide) rfl (v := .ref (G.2.2.1 + 265)) (rd_56 hI23) dX12_evaluate_65 ?_
                  refine lv_iload_n hx hb dX12_evaluate_68 rfl (lv_at hl 2 rfl) ?_
                  refine rIald Cx hW (k := 265) (by decide) rfl (by decide) (by omega) (by omega) dX12_evaluate_69 ?_
                  have q_88 : (-2147483648) ≤ S.2.1 265 r1 ∧ S.2.1 265 r1 ≤ 2147483647 := hI.ai 265 r1
                  refine r_i (b := S.2.1 265 r1) (((hL23_ 265 rfl).2.1 r1).trans ((hL19_ 265 rfl).2.1 r1)) ?_
                  refine lv_iload_n hx hb dX12_evaluate_70 rfl (lv_at hl 0 rfl) ?_
                  refine r_icmp_ge (tgt := 77) hx hb ⟨(by omega), (by omega)⟩ ⟨(by omega), (by omega)⟩ dX12_evaluate_71 (by decide) (fun c_89 => ?_) (fun c_89 => ?_)
                  · refine lv_aload_n hx hb dX12_evaluate_77 rfl (lv_at hl 3 rfl) ?_
                    refine lv_aload_n hx hb dX12_evaluate_78 rfl (lv_at hl 3 rfl) ?_
                    refine g_X12_103 Cx hW (k := 231) (by decide) rfl (v := .ref (G.2.2.1 + 262)) (rd_53 hI23) dX12_evaluate_79 ?_
                    refine lv_aload_n hx hb dX12_evaluate_82 rfl (lv_at hl 3 rfl) ?_
                    refine lv_iload_n hx hb dX12_evaluate_83 rfl (lv_at hl 1 rfl) ?_
                    refine lv_iconst (v := iv 1) hx hb dX12_evaluate_84 (by decide) ?_
                    refine r_iadd hx hb dX12_evaluate_85 ?_
                    refine lv_iconst (v := iv 0) hx hb dX12_evaluate_86 (by decide) ?_
                    refine sBi (sV (As := [.int (iv (i + 1)), .int (iv 0)]) (rest := [.ref (G.2.2.1 + 262), .ref (G.2.2.1 + 231)]) (k := 231) Cx (s_X12_cell l G S23 (i := i + 1) (j := 0) (by omega) (by omega)) (c_X12_529 Cx rfl rfl (rmk_ok (by omega) (by decide))) hW (by decide) rfl rfl rfl hl.1 rfl (Nat.le_of_ble_eq_true rfl) dX12_evaluate_87 ⟨Nat.le_of_ble_eq_true rfl, Nat.le_of_ble_eq_true rfl⟩) hL (fun qd u_90 H locs k_91 hW hL => ?_)
                    obtain ⟨eu_90, xu_90⟩ := k_91
                    rw [eu_90] at hW
                    refine lv_aload_n hx hb dX12_evaluate_90 rfl (lv_at hl 3 rfl) ?_
                    refine g_X12_109 Cx hW (k := 231) (by decide) rfl (v := .ref (G.2.2.1 + 264)) (rd_55 hI23) dX12_evaluate_91 ?_
                    refine lv_iconst (v := iv 0) hx hb dX12_evaluate_94 (by decide) ?_
                    refine lv_aload_n hx hb dX12_evaluate_95 rfl (lv_at hl 3 rfl) ?_
                    refine g_X12_26 Cx hW (k := 231) (by decide) rfl (v := .ref (G.2.2.1 + 237)) (rd_7 hI23) dX12_evaluate_96 ?_
                    refine lv_iconst (v := iv 0) hx hb dX12_evaluate_99 (by decide) ?_
                    refine lv_aload_n hx hb dX12_evaluate_100 rfl (lv_at hl 3 rfl) ?_
                    refine g_X12_35 Cx hW (k := 231) (by decide) rfl (v := .ref (G.2.2.1 + 240)) (rd_10 hI23) dX12_evaluate_101 ?_
                    refine lv_iconst (v := iv 0) hx hb dX12_evaluate_104 (by decide) ?_
                    have hbp105 : 0 < S23.2.1 264 0 := by rw [show S23.2.1 264 = S.2.1 264 from (funext fun j => ((hL23_ 264 rfl).2.1 j).trans ((hL19_ 264 rfl).2.1 j))]; exact hG.1.2.1.2.2.1.sgn.2.1.mp hG.1.2.1.2.2.2
                    refine sBv (sV (As := [.ref (G.2.2.1 + 262), .int (iv qd), .ref (G.2.2.1 + 264), .int (iv 0), .ref (G.2.2.1 + 237), .int (iv 0), .ref (G.2.2.1 + 240), .int (iv 0)]) (rest := []) (k := 231) Cx (s_X12_divide l G S23 (ka := 262) (po := qd) (kb := 264) (qo := 0) (kc := 237) (ro := 0) (kd := 240) (eo := 0) (Nka := 5280) (Nkb := 8) (Nkc := 68) (Nkd := 68) (La := 6) (Lb := 6) (Ld := 7) hI23 ⟨rfl, by decide, by decide, by decide, rfl⟩ ⟨rfl, by decide, by decide, by decide, rfl⟩ ⟨rfl, by decide, by decide, by decide, rfl⟩ ⟨rfl, by decide, by decide, by decide, rfl⟩ (show (237 : Nat) ≠ 262 by decide) (show (240 : Nat) ≠ 262 by decide) (show (237 : Nat) ≠ 264 by decide) (show (240 : Nat) ≠ 264 by decide) (show (237 : Nat) ≠ 240 by decide) (show (262 : Nat) ≠ 233 by decide) (show (264 : Nat) ≠ 233 by decide) (show (264 : Nat) ≠ 234 by decide) (show (264 : Nat) ≠ 235 by decide) (show (237 : Nat) ≠ 233 by decide) (show (237 : Nat) ≠ 234 by decide) (show (237 : Nat) ≠ 235 by decide) (show (240 : Nat) ≠ 233 by decide) (show (240 : Nat) ≠ 234 by decide) (show (240 : Nat) ≠ 235 by decide) (by omega) (by omega) (by rw [show S23.2.1 262 = S.2.1 262 from (funext fun j => ((hL23_ 262 rfl).2.1 j).trans ((hL19_ 262 rfl).2.1 j))]; exact hG.1.2.1.at (i := i + 1) (j := 0) (by omega) (by omega) (by omega) (by omega)) (by rw [show S23.2.1 264 = S.2.1 264 from (funext fun j => ((hL23_ 264 rfl).2.1 j).trans ((hL19_ 264 rfl).2.1 j))]; exact hG.1.2.1.2.2.1)) (c_X12_266 Cx rfl rfl (rmk_ok (by omega) (by decide))) hW (by decide) rfl rfl rfl hl.1 rfl (Nat.le_of_ble_eq_true rfl) dX12_evaluate_105 ⟨Nat.le_of_ble_eq_true rfl, Nat.le_of_ble_eq_true rfl⟩) hL (fun u_92 H locs k_93 hW hL => ?_)
                    obtain ⟨iu_92, fu_92, xu_92⟩ := k_93
                    have F_94 := hFm23.trans (fu_92.to (pl_sub (by decide)))
                    have F_95 := hL23_.trans (fu_92.to (pl_sub (by decide)))
                    have F_96 := (Fr.rf : Fr S23 S23 (pl [233, 234, 235, 237, 238, 240])).trans (fu_92.to (pl_sub (by decide)))
                    have g_97 : FF S u_92 (fl [6, 58, 59, 61, 62, 63, 65, 66, 67, 69, 78, 79, 84, 86]) := FF.fr hGm23 fu_92 rfl
                    have g_98 : FF S19 u_92 (fl []) := FF.fr gL23_ fu_92 rfl
                    have g_99 : FF S23 u_92 (fl []) := FF.fr (FF.rf : FF S23 S23 (fl [])) fu_92 rfl
                    refine lv_aload_n hx hb dX12_evaluate_108 rfl (lv_at hl 3 rfl) ?_
                    refine g_X12_35 Cx hW (k := 231) (by decide) rfl (v := .ref (G.2.2.1 + 240)) (rd_10 iu_92) dX12_evaluate_109 ?_
                    refine lv_iconst (v := iv 0) hx hb dX12_evaluate_112 (by decide) ?_
                    refine rIald Cx hW (k := 240) (by decide) rfl (by decide) (by omega) (by omega) dX12_evaluate_113 ?_
                    have q_100 : (-2147483648) ≤ u_92.2.1 240 0 ∧ u_92.2.1 240 0 ≤ 2147483647 := iu_92.ai 240 0
                    refine r_i (b := u_92.2.1 240 0) rfl ?_
                    refine r_if_eq (tgt := 119) hx hb ⟨(by omega), (by omega)⟩ dX12_evaluate_114 (by decide) (fun c_101 => ?_) (fun c_101 => ?_)
                    · exact join_119 u_92 r1 _ _ _ iu_92 F_94 F_95 F_96 g_97 g_98 g_99 (by omega) hrb hW hL (lv_sub hl [1, 2, 3] rfl)
                    · refine lv_iload_n hx hb dX12_evaluate_117 rfl (lv_at hl 1 rfl) ?_
                      refine lv_istore_n (lv' := [(1, .int (iv i)), (3, .int (iv (S.2.1 265 i))), (2, .int (iv i)), (0, .ref (G.2.2.1 + 231))]) hx hb dX12_evaluate_118 rfl hl (by decide) rfl (fun ls hl => ?_)
                      exact join_119 u_92 i _ _ _ iu_92 F_94 F_95 F_96 g_97 g_98 g_99 (by omega) (fun _ => by omega) hW hL (lv_sub hl [2, 0, 3] rfl)
                  · refine lv_goto (tgt := 119) hx hb dX12_evaluate_74 (by decide) ?_
                    exact join_119 S23 r1 _ _ _ hI23 hFm23 hL23_ (Fr.rf : Fr S23 S23 (pl [233, 234, 235, 237, 238, 240])) hGm23 gL23_ (FF.rf : FF S23 S23 (fl [])) (by omega) hrb hW hL (lv_sub hl [1, 2, 3] rfl)
    exact loop_23 (_ + 1) S19 1 0 _ _ _ (Nat.lt_succ_self _) hI19 hFm19 Fr.rf hGm19 FF.rf (by omega) (by omega) (fun q => absurd q (by omega)) hW hL (lv_sub hl [0, 1, 2] rfl)
  refine lv_aload_n hx hb dX12_evaluate_0 rfl (lv_at hl 0 rfl) ?_
  have q_102 : 0 ≤ S.1 231 79 ∧ S.1 231 79 ≤ 1 := hI.fi 79
  refine g_X12_514 Cx hW (k := 231) (by decide) rfl (v := S.1 231 79) rfl dX12_evaluate_1 ?_
  refine r_if_eq (tgt := 19) hx hb ⟨(by omega), (by omega)⟩ dX12_evaluate_4 (by decide) (fun c_103 => ?_) (fun c_103 => ?_)
  · exact join_19 S  _ _ _ hI (Fr.rf : Fr S S (pl [231, 233, 234, 235, 236, 237, 238, 239, 240, 241, 242, 261, 262, 263, 264, 265, 266, 267, 268, 269, 270, 271, 272, 273, 274, 275, 276, 277, 278, 279, 280, 281])) (Fr.rf : Fr S S (pl [233, 234, 235, 237, 238, 240])) FF.rf (FF.rf : FF S S (fl [])) hW hL (lv_sub hl [0] rfl)
  · refine lv_aload_n hx hb dX12_evaluate_7 rfl (lv_at hl 0 rfl) ?_
    refine sBi (sV (As := []) (rest := []) (k := 231) Cx (s_X12_isNoBetter l G S  hI (by unfold MD; have y46 := (show S.1 231 46 = S.1 231 46 from rfl); have y47 := (show S.1 231 47 = S.1 231 47 from rfl); have y63 := (show S.1 231 63 = S.1 231 63 from rfl); omega) hG.1.2.1 (hG.1.2.2.2.1 (by omega))) (c_X12_631 Cx rfl rfl (rmk_ok (by omega) (by decide))) hW (by decide) rfl rfl rfl hl.1 rfl (Nat.le_of_ble_eq_true rfl) dX12_evaluate_8 ⟨Nat.le_of_ble_eq_true rfl, Nat.le_of_ble_eq_true rfl⟩) hL (fun r_106 u_104 H locs k_105 hW hL => ?_)
    obtain ⟨iu_104, fu_104, gu_104, xu_104⟩ := k_105
    have F_107 := (Fr.rf : Fr S S (pl [231, 233, 234, 235, 236, 237, 238, 239, 240, 241, 242, 261, 262, 263, 264, 265, 266, 267, 268, 269, 270, 271, 272, 273, 274, 275, 276, 277, 278, 279, 280, 281])).trans (fu_104.to (pl_sub (by decide)))
    have F_108 := (Fr.rf : Fr S S (pl [233, 234, 235, 237, 238, 240])).trans fu_104
    have g_109 : FF S u_104 (fl [6, 58, 59, 61, 62, 63, 65, 66, 67, 69, 78, 79, 84, 86]) := FF.trans FF.rf (FF.to gu_104 (fl_sub (by decide)))
    have g_110 : FF S u_104 (fl []) := FF.trans (FF.rf : FF S S (fl [])) (FF.to gu_104 (fl_sub (by decide)))
    refine r_if_eq (tgt := 19) hx hb ⟨(by omega), (by omega)⟩ dX12_evaluate_11 (by decide) (fun c_111 => ?_) (fun c_111 => ?_)
    · exact join_19 u_104  _ _ _ iu_104 F_107 F_108 g_109 g_110 hW hL (lv_sub hl [0] rfl)
    · refine lv_aload_n hx hb dX12_evaluate_14 rfl (lv_at hl 0 rfl) ?_
      have q_112 : 0 ≤ S.1 231 60 ∧ S.1 231 60 ≤ 1 := hI.fi 60
      have lk_113 : u_104.1 231 60 = S.1 231 60 := gu_104 60 rfl
      have q_114 : (-2147483648) ≤ S.1 231 78 ∧ S.1 231 78 ≤ 2147483647 := hI.fi 78
      have lk_115 : u_104.1 231 78 = S.1 231 78 := gu_104 78 rfl
      have q_116 : (-2147483648) ≤ S.1 231 61 ∧ S.1 231 61 ≤ 2147483647 := hI.fi 61
      have lk_117 : u_104.1 231 61 = S.1 231 61 := gu_104 61 rfl
      refine sBv (sV (As := []) (rest := []) (k := 231) Cx (s_X12_leafBound l G u_104  iu_104 (GC.sm (S := S) (u := u_104) hG (gu_104 46 rfl) (gu_104 47 rfl) (gu_104 48 rfl) (gu_104 58 rfl) (gu_104 59 rfl) (gu_104 60 rfl) (gu_104 63 rfl) (gu_104 65 rfl) (gu_104 68 rfl) (gu_104 69 rfl) (gu_104 78 rfl) (gu_104 79 rfl) (gu_104 84 rfl) (gu_104 86 rfl) (funext fun j => (fu_104 261 rfl).2.1 j) (funext fun j => (fu_104 262 rfl).2.1 j) (funext fun j => (fu_104 264 rfl).2.1 j) (funext fun j => (fu_104 265 rfl).2.1 j) (funext fun j => (fu_104 266 rfl).2.1 j) (funext fun j => (fu_104 267 rfl).2.1 j) (funext fun j => (fu_104 268 rfl).2.1 j) (funext fun j => (fu_104 269 rfl).2.1 j) (funext fun j => (fu_104 270 rfl).2.1 j) (funext fun j => (fu_104 271 rfl).2.1 j) (funext fun j => (fu_104 272 rfl).2.1 j) (funext fun j => (fu_104 273 rfl).2.1 j) (funext fun j => (fu_104 274 rfl).2.1 j) (funext fun j => (fu_104 260 rfl).2.2.1 j) (funext fun j => (fu_104 290 rfl).2.2.1 j)) (by omega) (by omega)) (c_X12_634 Cx rfl rfl (rmk_ok (by omega) (by decide))) hW (by decide) rfl rfl rfl hl.1 rfl (Nat.le_of_ble_eq_true rfl) dX12_evaluate_15 ⟨Nat.le_of_ble_eq_true rfl, Nat.le_of_ble_eq_true rfl⟩) hL (fun u_118 H locs k_119 hW hL => ?_)
      obtain ⟨iu_118, fu_118, gu_118, xu_118⟩ := k_119
      have F_120 := F_107.trans fu_118
      have g_121 : FF S u_118 (fl [6, 58, 59, 61, 62, 63, 65, 66, 67, 69, 78, 79, 84, 86]) := FF.trans g_109 (FF.to gu_118 (fl_sub (by decide)))
      exact sVret Cx hr hlk hW hL ⟨iu_118, F_120, g_121, (LD.of (X := u_104) xu_118 ((show u_104.1 231 65 = S.1 231 65 from gu_104 65 rfl)))⟩ dX12_evaluate_18

set_option maxRecDepth 100000 in
set_option maxHeartbeats 4000000 in
theorem s_X12_goOn (l : Launch) (G : sG) (S : sS)  (hI : dX G S) (hGI : GI S) (hst : S.1 231 61 = 1) : Met l yX12_goOn (.code yX12_goOn cX12_goOn 3 none :: tb) (rmk 12 0 0) (sPc G 294 S [.ref (G.2.2.1 + 231)]) (sQv G 294 (fun u => dX G u ∧ Fr S u (pl [231, 233, 234, 235, 236, 237, 238, 239, 240, 241, 242, 261, 262, 263, 264, 265, 266, 267, 268, 269, 270, 271, 272, 273, 274, 275, 276, 277, 278, 279, 280, 281]) ∧ FF S u (fl [6, 58, 59, 60, 61, 62, 63, 65, 66, 67, 69, 71, 72, 78, 79, 84, 86]) ∧ (GD u))) 0 0 (sF G) := by
  refine sEnter (by decide) (Nat.le_of_ble_eq_true rfl) ?_
  intro p e s m args below meth c Cx hr hlk hnm hW ls hl
  have Cx : sC G p m c cX12_goOn 3 s args RX12 := Cx
  obtain ⟨hx, hb, hml, hown, hts⟩ := id Cx.1
  have hL : sL G [] := sL_nil
  have hl : lv_has ls 3 [(0, .ref (G.2.2.1 + 231))] := hl
  have hW0 := hW
  have loop_0 : ∀ (fuel : Nat) (S0 : sS)  (H : Heap) (locs : List Loc) (ls : Array Slot), mz S0 < fuel → (dX G S0) → (Fr S S0 (pl [231, 233, 234, 235, 236, 237, 238, 239, 240, 241, 242, 261, 262, 263, 264, 265, 266, 267, 268, 269, 270, 271, 272, 273, 274, 275, 276, 277, 278, 279, 280, 281])) → (Fr S S0 (pl [231, 233, 234, 235, 236, 237, 238, 239, 240, 241, 242, 261, 262, 263, 264, 265, 266, 267, 268, 269, 270, 271, 272, 273, 274, 275, 276, 277, 278, 279, 280, 281])) → (FF S S0 (fl [6, 58, 59, 60, 61, 62, 63, 65, 66, 67, 69, 71, 72, 78, 79, 84, 86])) → (FF S S0 (fl [6, 58, 59, 60, 61, 62, 63, 65, 66, 67, 69, 71, 72, 78, 79, 84, 86])) → (LG S0) → sW G 294 S0 H → sL G locs → lv_has ls 3 [(0, .ref (G.2.2.1 + 231))] → W p l e (rmk 12 0 0) s m args below meth c H locs 0 0 (MQ below (sQv G 294 (fun u => dX G u ∧ Fr S u (pl [231, 233, 234, 235, 236, 237, 238, 239, 240, 241, 242, 261, 262, 263, 264, 265, 266, 267, 268, 269, 270, 271, 272, 273, 274, 275, 276, 277, 278, 279, 280, 281]) ∧ FF S u (fl [6, 58, 59, 60, 61, 62, 63, 65, 66, 67, 69, 71, 72, 78, 79, 84, 86]) ∧ (GD u))) args s 0 0 (sF G)) (F0 m 0 ls []) := by
    intro fuel
    induction fuel with
    | zero => intro S0  H locs ls hmeas hI0 hFm0 hL0_ hGm0 gL0_ hLG hW hL hl; exact absurd hmeas (Nat.not_lt_zero _)
    | succ fuel ih_0 =>
      intro S0  H locs ls hmeas hI0 hFm0 hL0_ hGm0 gL0_ hLG hW hL hl
      refine lv_aload_n hx hb dX12_goOn_0 rfl (lv_at hl 0 rfl) ?_
      have q_1 : (-2147483648) ≤ S0.1 231 61 ∧ S0.1 231 61 ≤ 2147483647 := hI0.fi 61
      refine g_X12_477 Cx hW (k := 231) (by decide) rfl (v := S0.1 231 61) rfl dX12_goOn_1 ?_
      refine lv_iconst (v := iv 1) hx hb dX12_goOn_4 (by decide) ?_
      refine r_icmp_ne (tgt := 262) hx hb ⟨(by omega), (by omega)⟩ ⟨(by omega), (by omega)⟩ dX12_goOn_5 (by decide) (fun c_2 => ?_) (fun c_2 => ?_)
      · exact sVret Cx hr hlk hW hL ⟨hI0, hFm0, hGm0, ⟨hLG.1, (fun q => absurd q (by omega)), hLG.2.2⟩⟩ dX12_goOn_262
      · have z46 := gL0_ 46 rfl
        have z47 := gL0_ 47 rfl
        have z48 := gL0_ 48 rfl
        have z68 := gL0_ 68 rfl
        have hs61 : S0.1 231 61 = 1 := by omega
        have hgi := hLG.2.1 hs61
        have hG := hgi.1
        have hm1 := hG.1.1.1
        unfold MD at hm1
        have hx1 := hG.2.1
        unfold GX at hx1
        have hd1 := hG.1.2.1.1
        have hps1 := hG.1.2.2.2.2
        unfold dPS at hps1
        refine lv_aload_n hx hb dX12_goOn_8 rfl (lv_at hl 0 rfl) ?_
        have q_3 : (-2147483648) ≤ S0.1 231 62 ∧ S0.1 231 62 ≤ 2147483647 := hI0.fi 62
        refine g_X12_532 Cx hW (k := 231) (by decide) rfl (v := S0.1 231 62) rfl dX12_goOn_9 ?_
        by_cases c_4 : S0.1 231 62 = 0
        · refine lv_tableIn (off := 40) (tgt := 52) hx hb dX12_goOn_12 (by rw [c_4]; decide) (by rw [c_4]; decide) (by rw [c_4]; decide) (by decide) ?_
          have hs0 := hgi.2.s0 (by omega)
          have hsa := hs0.1
          unfold dSA at hsa
          refine lv_aload_n hx hb dX12_goOn_52 rfl (lv_at hl 0 rfl) ?_
          refine lv_iconst (v := iv 1) hx hb dX12_goOn_53 (by decide) ?_
          refine p_X12_562 Cx hW hL (k := 231) (by decide) rfl dX12_goOn_54 (fun H locs hW hL => ?_)
          have F_5 : Fr S (uF S0 231 71 1) (pl [231, 233, 234, 235, 236, 237, 238, 239, 240, 241, 242, 261, 262, 263, 264, 265, 266, 267, 268, 269, 270, 271, 272, 273, 274, 275, 276, 277, 278, 279, 280, 281]) := hFm0.F rfl
          have F_6 : Fr S (uF S0 231 71 1) (pl [231, 233, 234, 235, 236, 237, 238, 239, 240, 241, 242, 261, 262, 263, 264, 265, 266, 267, 268, 269, 270, 271, 272, 273, 274, 275, 276, 277, 278, 279, 280, 281]) := hL0_.F rfl
          have g_7 : FF S (uF S0 231 71 1) (fl [6, 58, 59, 60, 61, 62, 63, 65, 66, 67, 69, 71, 72, 78, 79, 84, 86]) := FF.F hGm0 rfl
          have g_8 : FF S (uF S0 231 71 1) (fl [6, 58, 59, 60, 61, 62, 63, 65, 66, 67, 69, 71, 72, 78, 79, 84, 86]) := FF.F gL0_ rfl
          have i_9 : dX G (uF S0 231 71 1) := hI0.F (i := 71) (show (-2147483648) ≤ 1 ∧ 1 ≤ 2147483647 from ⟨by omega, by omega⟩)
          refine lv_iconst (v := iv 2) hx hb dX12_goOn_57 (by decide) ?_
          refine lv_istore_n (lv' := [(2, .int (iv 2)), (0, .ref (G.2.2.1 + 231))]) hx hb dX12_goOn_58 rfl hl (by decide) rfl (fun ls hl => ?_)
          have loop_59 : ∀ (fuel : Nat) (S59 : sS) (i : Int) (H : Heap) (locs : List Loc) (ls : Array Slot), (S0.1 231 58 + 1 - i).toNat < fuel → (dX G S59) → (Fr S S59 (pl [231, 233, 234, 235, 236, 237, 238, 239, 240, 241, 242, 261, 262, 263, 264, 265, 266, 267, 268, 269, 270, 271, 272, 273, 274, 275, 276, 277, 278, 279, 280, 281])) → (Fr S S59 (pl [231, 233, 234, 235, 236, 237, 238, 239, 240, 241, 242, 261, 262, 263, 264, 265, 266, 267, 268, 269, 270, 271, 272, 273, 274, 275, 276, 277, 278, 279, 280, 281])) → (Fr ((uF S0 231 71 1)) S59 (pl [231])) → (FF S S59 (fl [6, 58, 59, 60, 61, 62, 63, 65, 66, 67, 69, 71, 72, 78, 79, 84, 86])) → (FF S S59 (fl [6, 58, 59, 60, 61, 62, 63, 65, 66, 67, 69, 71, 72, 78, 79, 84, 86])) → (FF ((uF S0 231 71 1)) S59 (fl [71])) → (2 ≤ i ∧ i ≤ S0.1 231 58 + 1) → (1 ≤ S59.1 231 71 ∧ S59.1 231 71 < i) → sW G 294 S59 H → sL G locs → lv_has ls 3 [(2, .int (iv i)), (0, .ref (G.2.2.1 + 231))] → W p l e (rmk 12 0 0) s m args below meth c H locs 0 0 (MQ below (sQv G 294 (fun u => dX G u ∧ Fr S u (pl [231, 233, 234, 235, 236, 237, 238, 239, 240, 241, 242, 261, 262, 263, 264, 265, 266, 267, 268, 269, 270, 271, 272, 273, 274, 275, 276, 277, 278, 279, 280, 281]) ∧ FF S u (fl [6, 58, 59, 60, 61, 62, 63, 65, 66, 67, 69, 71, 72, 78, 79, 84, 86]) ∧ (GD u))) args s 0 0 (sF G)) (F0 m 59 ls []) := by
            intro fuel
            induction fuel with
            | zero => intro S59 i H locs ls hmeas hI59 hFm59 hFL059 hL59_ hGm59 hGL059 gL59_ hi h71 hW hL hl; exact absurd hmeas (Nat.not_lt_zero _)
            | succ fuel ih_59 =>
              intro S59 i H locs ls hmeas hI59 hFm59 hFL059 hL59_ hGm59 hGL059 gL59_ hi h71 hW hL hl
              refine lv_iload_n hx hb dX12_goOn_59 rfl (lv_at hl 0 rfl) ?_
              refine lv_aload_n hx hb dX12_goOn_60 rfl (lv_at hl 1 rfl) ?_
              have q_10 : (-2147483648) ≤ S0.1 231 58 ∧ S0.1 231 58 ≤ 2147483647 := hI0.fi 58
              refine g_X12_483 Cx hW (k := 231) (by decide) rfl (v := S0.1 231 58) ((gL59_ 58 rfl).trans (uF_ne (fun h => absurd h.2 (by decide)))) dX12_goOn_61 ?_
              refine r_icmp_gt (tgt := 111) hx hb ⟨(by omega), (by omega)⟩ ⟨(by omega), (by omega)⟩ dX12_goOn_64 (by decide) (fun c_11 => ?_) (fun c_11 => ?_)
              · refine lv_aload_n hx hb dX12_goOn_111 rfl (lv_at hl 1 rfl) ?_
                refine lv_aload_n hx hb dX12_goOn_112 rfl (lv_at hl 1 rfl) ?_
                have q_12 : (-2147483648) ≤ S0.1 231 59 ∧ S0.1 231 59 ≤ 2147483647 := hI0.fi 59
                refine g_X12_526 Cx hW (k := 231) (by decide) rfl (v := S0.1 231 59) ((gL59_ 59 rfl).trans (uF_ne (fun h => absurd h.2 (by decide)))) dX12_goOn_113 ?_
                refine p_X12_555 Cx hW hL (k := 231) (by decide) rfl dX12_goOn_116 (fun H locs hW hL => ?_)
                have F_13 : Fr S (uF S59 231 72 (S0.1 231 59)) (pl [231, 233, 234, 235, 236, 237, 238, 239, 240, 241, 242, 261, 262, 263, 264, 265, 266, 267, 268, 269, 270, 271, 272, 273, 274, 275, 276, 277, 278, 279, 280, 281]) := hFm59.F rfl
                have F_14 : Fr S (uF S59 231 72 (S0.1 231 59)) (pl [231, 233, 234, 235, 236, 237, 238, 239, 240, 241, 242, 261, 262, 263, 264, 265, 266, 267, 268, 269, 270, 271, 272, 273, 274, 275, 276, 277, 278, 279, 280, 281]) := hFL059.F rfl
                have F_15 : Fr ((uF S0 231 71 1)) (uF S59 231 72 (S0.1 231 59)) (pl [231]) := hL59_.F rfl
                have g_16 : FF S (uF S59 231 72 (S0.1 231 59)) (fl [6, 58, 59, 60, 61, 62, 63, 65, 66, 67, 69, 71, 72, 78, 79, 84, 86]) := FF.F hGm59 rfl
                have g_17 : FF S (uF S59 231 72 (S0.1 231 59)) (fl [6, 58, 59, 60, 61, 62, 63, 65, 66, 67, 69, 71, 72, 78, 79, 84, 86]) := FF.F hGL059 rfl
                have i_18 : dX G (uF S59 231 72 (S0.1 231 59)) := hI59.F (i := 72) (show (-2147483648) ≤ S0.1 231 59 ∧ S0.1 231 59 ≤ 2147483647 from ⟨by omega, by omega⟩)
                refine lv_aload_n hx hb dX12_goOn_119 rfl (lv_at hl 1 rfl) ?_
                refine lv_iconst (v := iv 1) hx hb dX12_goOn_120 (by decide) ?_
                refine p_X12_532 Cx hW hL (k := 231) (by decide) rfl dX12_goOn_121 (fun H locs hW hL => ?_)
                have F_19 : Fr S (uF (uF S59 231 72 (S0.1 231 59)) 231 62 1) (pl [231, 233, 234, 235, 236, 237, 238, 239, 240, 241, 242, 261, 262, 263, 264, 265, 266, 267, 268, 269, 270, 271, 272, 273, 274, 275, 276, 277, 278, 279, 280, 281]) := F_13.F rfl
                have F_20 : Fr S (uF (uF S59 231 72 (S0.1 231 59)) 231 62 1) (pl [231, 233, 234, 235, 236, 237, 238, 239, 240, 241, 242, 261, 262, 263, 264, 265, 266, 267, 268, 269, 270, 271, 272, 273, 274, 275, 276, 277, 278, 279, 280, 281]) := F_14.F rfl
                have F_21 : Fr ((uF S0 231 71 1)) (uF (uF S59 231 72 (S0.1 231 59)) 231 62 1) (pl [231]) := F_15.F rfl
                have g_22 : FF S (uF (uF S59 231 72 (S0.1 231 59)) 231 62 1) (fl [6, 58, 59, 60, 61, 62, 63, 65, 66, 67, 69, 71, 72, 78, 79, 84, 86]) := FF.F g_16 rfl
                have g_23 : FF S (uF (uF S59 231 72 (S0.1 231 59)) 231 62 1) (fl [6, 58, 59, 60, 61, 62, 63, 65, 66, 67, 69, 71, 72, 78, 79, 84, 86]) := FF.F g_17 rfl
                have i_24 : dX G (uF (uF S59 231 72 (S0.1 231 59)) 231 62 1) := i_18.F (i := 62) (show (-2147483648) ≤ 1 ∧ 1 ≤ 2147483647 from ⟨by omega, by omega⟩)
                exact sVret Cx hr hlk hW hL ⟨i_24, F_19, g_22, ⟨(by have y := (show (uF (uF S59 231 72 (S0.1 231 59)) 231 62 1).1 231 61 = S0.1 231 61 from (uF_ne (fun h => absurd h.2 (by decide))).trans ((uF_ne (fun h => absurd h.2 (by decide))).trans ((gL59_ 61 rfl).trans (uF_ne (fun h => absurd h.2 (by decide)))))); omega), (fun _ => ⟨(GC.sm (S := S0) (u := (uF (uF S59 231 72 (S0.1 231 59)) 231 62 1)) hG ((uF_ne (fun h => absurd h.2 (by decide))).trans ((uF_ne (fun h => absurd h.2 (by decide))).trans ((gL59_ 46 rfl).trans (uF_ne (fun h => absurd h.2 (by decide)))))) ((uF_ne (fun h => absurd h.2 (by decide))).trans ((uF_ne (fun h => absurd h.2 (by decide))).trans ((gL59_ 47 rfl).trans (uF_ne (fun h => absurd h.2 (by decide)))))) ((uF_ne (fun h => absurd h.2 (by decide))).trans ((uF_ne (fun h => absurd h.2 (by decide))).trans ((gL59_ 48 rfl).trans (uF_ne (fun h => absurd h.2 (by decide)))))) ((uF_ne (fun h => absurd h.2 (by decide))).trans ((uF_ne (fun h => absurd h.2 (by decide))).trans ((gL59_ 58 rfl).trans (uF_ne (fun h => absurd h.2 (by decide)))))) ((uF_ne (fun h => absurd h.2 (by decide))).trans ((uF_ne (fun h => absurd h.2 (by decide))).trans ((gL59_ 59 rfl).trans (uF_ne (fun h => absurd h.2 (by decide)))))) ((uF_ne (fun h => absurd h.2 (by decide))).trans ((uF_ne (fun h => absurd h.2 (by decide))).trans ((gL59_ 60 rfl).trans (uF_ne (fun h => absurd h.2 (by decide)))))) ((uF_ne (fun h => absurd h.2 (by decide))).trans ((uF_ne (fun h => absurd h.2 (by decide))).trans ((gL59_ 63 rfl).trans (uF_ne (fun h => absurd h.2 (by decide)))))) ((uF_ne (fun h => absurd h.2 (by decide))).trans ((uF_ne (fun h => absurd h.2 (by decide))).trans ((gL59_ 65 rfl).trans (uF_ne (fun h => absurd h.2 (by decide)))))) ((uF_ne (fun h => absurd h.2 (by decide))).trans ((uF_ne (fun h => absurd h.2 (by decide))).trans ((gL59_ 68 rfl).trans (uF_ne (fun h => absurd h.2 (by decide)))))) ((uF_ne (fun h => absurd h.2 (by decide))).trans ((uF_ne (fun h => absurd h.2 (by decide))).trans ((gL59_ 69 rfl).trans (uF_ne (fun h => absurd h.2 (by decide)))))) ((uF_ne (fun h => absurd h.2 (by decide))).trans ((uF_ne (fun h => absurd h.2 (by decide))).trans ((gL59_ 78 rfl).trans (uF_ne (fun h => absurd h.2 (by decide)))))) ((uF_ne (fun h => absurd h.2 (by decide))).trans ((uF_ne (fun h => absurd h.2 (by decide))).trans ((gL59_ 79 rfl).trans (uF_ne (fun h => absurd h.2 (by decide)))))) ((uF_ne (fun h => absurd h.2 (by decide))).trans ((uF_ne (fun h => absurd h.2 (by decide))).trans ((gL59_ 84 rfl).trans (uF_ne (fun h => absurd h.2 (by decide)))))) ((uF_ne (fun h => absurd h.2 (by decide))).trans ((uF_ne (fun h => absurd h.2 (by decide))).trans ((gL59_ 86 rfl).trans (uF_ne (fun h => absurd h.2 (by decide)))))) (funext fun j => (uF_a).trans ((uF_a).trans (((hL59_ 261 rfl).2.1 j).trans (uF_a)))) (funext fun j => (uF_a).trans ((uF_a).trans (((hL59_ 262 rfl).2.1 j).trans (uF_a)))) (funext fun j => (uF_a).trans ((uF_a).trans (((hL59_ 264 rfl).2.1 j).trans (uF_a)))) (funext fun j => (uF_a).trans ((uF_a).trans (((hL59_ 265 rfl).2.1 j).trans (uF_a)))) (funext fun j => (uF_a).trans ((uF_a).trans (((hL59_ 266 rfl).2.1 j).trans (uF_a)))) (funext fun j => (uF_a).trans ((uF_a).trans (((hL59_ 267 rfl).2.1 j).trans (uF_a)))) (funext fun j => (uF_a).trans ((uF_a).trans (((hL59_ 268 rfl).2.1 j).trans (uF_a)))) (funext fun j => (uF_a).trans ((uF_a).trans (((hL59_ 269 rfl).2.1 j).trans (uF_a)))) (funext fun j => (uF_a).trans ((uF_a).trans (((hL59_ 270 rfl).2.1 j).trans (uF_a)))) (funext fun j => (uF_a).trans ((uF_a).trans (((hL59_ 271 rfl).2.1 j).trans (uF_a)))) (funext fun j => (uF_a).trans ((uF_a).trans (((hL59_ 272 rfl).2.1 j).trans (uF_a)))) (funext fun j => (uF_a).trans ((uF_a).trans (((hL59_ 273 rfl).2.1 j).trans (uF_a)))) (funext fun j => (uF_a).trans ((uF_a).trans (((hL59_ 274 rfl).2.1 j).trans (uF_a)))) (funext fun j => (uF_l).trans ((uF_l).trans (((hL59_ 260 rfl).2.2.1 j).trans (uF_l)))) (funext fun j => (uF_l).trans ((uF_l).trans (((hL59_ 290 rfl).2.2.1 j).trans (uF_l))))), (.inr ⟨(dSA.sm (S := S0) (u := (uF (uF S59 231 72 (S0.1 231 59)) 231 62 1)) hs0.1 ((uF_ne (fun h => absurd h.2 (by decide))).trans ((uF_ne (fun h => absurd h.2 (by decide))).trans ((gL59_ 47 rfl).trans (uF_ne (fun h => absurd h.2 (by decide)))))) ((uF_ne (fun h => absurd h.2 (by decide))).trans ((uF_ne (fun h => absurd h.2 (by decide))).trans ((gL59_ 58 rfl).trans (uF_ne (fun h => absurd h.2 (by decide)))))) ((uF_ne (fun h => absurd h.2 (by decide))).trans ((uF_ne (fun h => absurd h.2 (by decide))).trans ((gL59_ 59 rfl).trans (uF_ne (fun h => absurd h.2 (by decide)))))) ((uF_ne (fun h => absurd h.2 (by decide))).trans ((uF_ne (fun h => absurd h.2 (by decide))).trans ((gL59_ 60 rfl).trans (uF_ne (fun h => absurd h.2 (by decide)))))) ((uF_ne (fun h => absurd h.2 (by decide))).trans ((uF_ne (fun h => absurd h.2 (by decide))).trans ((gL59_ 78 rfl).trans (uF_ne (fun h => absurd h.2 (by decide))))))), .inl ⟨(show (uF (uF S59 231 72 (S0.1 231 59)) 231 62 1).1 231 62 = 1 from uF_on), (Tab.sm (S := S0) (u := (uF (uF S59 231 72 (S0.1 231 59)) 231 62 1)) hs0.2.1 ((uF_ne (fun h => absurd h.2 (by decide))).trans ((uF_ne (fun h => absurd h.2 (by decide))).trans ((gL59_ 46 rfl).trans (uF_ne (fun h => absurd h.2 (by decide)))))) ((uF_ne (fun h => absurd h.2 (by decide))).trans ((uF_ne (fun h => absurd h.2 (by decide))).trans ((gL59_ 47 rfl).trans (uF_ne (fun h => absurd h.2 (by decide)))))) ((uF_ne (fun h => absurd h.2 (by decide))).trans ((uF_ne (fun h => absurd h.2 (by decide))).trans ((gL59_ 59 rfl).trans (uF_ne (fun h => absurd h.2 (by decide)))))) (funext fun j => (uF_a).trans ((uF_a).trans (((hL59_ 262 rfl).2.1 j).trans (uF_a)))) (funext fun j => (uF_a).trans ((uF_a).trans (((hL59_ 264 rfl).2.1 j).trans (uF_a)))) (funext fun j => (uF_a).trans ((uF_a).trans (((hL59_ 265 rfl).2.1 j).trans (uF_a)))) (funext fun j => (uF_a).trans ((uF_a).trans (((hL59_ 266 rfl).2.1 j).trans (uF_a)))) (funext fun j => (uF_l).trans ((uF_l).trans (((hL59_ 290 rfl).2.2.1 j).trans (uF_l))))), .inl ⟨(dFI.sm (S := S0) (u := (uF (uF S59 231 72 (S0.1 231 59)) 231 62 1)) hs0.2.2 ((uF_ne (fun h => absurd h.2 (by decide))).trans ((uF_ne (fun h => absurd h.2 (by decide))).trans ((gL59_ 58 rfl).trans (uF_ne (fun h => absurd h.2 (by decide)))))) ((uF_ne (fun h => absurd h.2 (by decide))).trans ((uF_ne (fun h => absurd h.2 (by decide))).trans ((gL59_ 59 rfl).trans (uF_ne (fun h => absurd h.2 (by decide)))))) (funext fun j => (uF_a).trans ((uF_a).trans (((hL59_ 262 rfl).2.1 j).trans (uF_a)))) (funext fun j => (uF_a).trans ((uF_a).trans (((hL59_ 264 rfl).2.1 j).trans (uF_a)))) (funext fun j => (uF_a).trans ((uF_a).trans (((hL59_ 265 rfl).2.1 j).trans (uF_a)))) (funext fun j => (uF_a).trans ((uF_a).trans (((hL59_ 266 rfl).2.1 j).trans (uF_a))))), (show (uF (uF S59 231 72 (S0.1 231 59)) 231 62 1).1 231 72 = S0.1 231 59 from (uF_ne (fun h => absurd h.2 (by decide))).trans (uF_on)).trans (show (uF (uF S59 231 72 (S0.1 231 59)) 231 62 1).1 231 59 = S0.1 231 59 from (uF_ne (fun h => absurd h.2 (by decide))).trans ((uF_ne (fun h => absurd h.2 (by decide))).trans ((gL59_ 59 rfl).trans (uF_ne (fun h => absurd h.2 (by decide)))))).symm⟩⟩⟩), ⟨(by have y1 := (show (uF (uF S59 231 72 (S0.1 231 59)) 231 62 1).1 231 58 = S0.1 231 58 from (uF_ne (fun h => absurd h.2 (by decide))).trans ((uF_ne (fun h => absurd h.2 (by decide))).trans ((gL59_ 58 rfl).trans (uF_ne (fun h => absurd h.2 (by decide)))))); have y2 := (show (uF (uF S59 231 72 (S0.1 231 59)) 231 62 1).1 231 71 = S59.1 231 71 from (uF_ne (fun h => absurd h.2 (by decide))).trans (uF_ne (fun h => absurd h.2 (by decide)))); omega), (by have y1 := (show (uF (uF S59 231 72 (S0.1 231 59)) 231 62 1).1 231 59 = S0.1 231 59 from (uF_ne (fun h => absurd h.2 (by decide))).trans ((uF_ne (fun h => absurd h.2 (by decide))).trans ((gL59_ 59 rfl).trans (uF_ne (fun h => absurd h.2 (by decide)))))); have y2 := (show (uF (uF S59 231 72 (S0.1 231 59)) 231 62 1).1 231 72 = S0.1 231 59 from (uF_ne (fun h => absurd h.2 (by decide))).trans (uF_on)); omega), (by rw [show (uF (uF S59 231 72 (S0.1 231 59)) 231 62 1).2.1 262 = S0.2.1 262 from (funext fun j => (uF_a).trans ((uF_a).trans (((hL59_ 262 rfl).2.1 j).trans (uF_a)))), (show (uF (uF S59 231 72 (S0.1 231 59)) 231 62 1).1 231 71 = S59.1 231 71 from (uF_ne (fun h => absurd h.2 (by decide))).trans (uF_ne (fun h => absurd h.2 (by decide)))), (show (uF (uF S59 231 72 (S0.1 231 59)) 231 62 1).1 231 72 = S0.1 231 59 from (uF_ne (fun h => absurd h.2 (by decide))).trans (uF_on))]; intro z; have e9 := (TV_z hG.1.2.1 (i := S59.1 231 71 + 1) (j := S0.1 231 59) (by omega) (by omega) (by omega)).mpr z; have e8 := hs0.2.2.2.2.2.1 (S59.1 231 71) (by omega) (by omega); omega)⟩⟩), (fun q => absurd (by have y := (show (uF (uF S59 231 72 (S0.1 231 59)) 231 62 1).1 231 61 = S0.1 231 61 from (uF_ne (fun h => absurd h.2 (by decide))).trans ((uF_ne (fun h => absurd h.2 (by decide))).trans ((gL59_ 61 rfl).trans (uF_ne (fun h => absurd h.2 (by decide)))))); omega) q)⟩⟩ dX12_goOn_124
              · refine lv_aload_n hx hb dX12_goOn_67 rfl (lv_at hl 1 rfl) ?_
                refine g_X12_103 Cx hW (k := 231) (by decide) rfl (v := .ref (G.2.2.1 + 262)) (rd_53 hI59) dX12_goOn_68 ?_
                refine lv_aload_n hx hb dX12_goOn_71 rfl (lv_at hl 1 rfl) ?_
                refine lv_iload_n hx hb dX12_goOn_72 rfl (lv_at hl 0 rfl) ?_
                refine lv_iconst (v := iv 1) hx hb dX12_goOn_73 (by decide) ?_
                refine r_iadd hx hb dX12_goOn_74 ?_
                refine lv_iconst (v := iv 0) hx hb dX12_goOn_75 (by decide) ?_
                refine sBi (sV (As := [.int (iv (i + 1)), .int (iv 0)]) (rest := [.ref (G.2.2.1 + 262)]) (k := 231) Cx (s_X12_cell l G S59 (i := i + 1) (j := 0) (by omega) (by omega)) (c_X12_529 Cx rfl rfl (rmk_ok (by omega) (by decide))) hW (by decide) rfl rfl rfl hl.1 rfl (Nat.le_of_ble_eq_true rfl) dX12_goOn_76 ⟨Nat.le_of_ble_eq_true rfl, Nat.le_of_ble_eq_true rfl⟩) hL (fun r_27 u_25 H locs k_26 hW hL => ?_)
                obtain ⟨eu_25, xu_25⟩ := k_26
                rw [eu_25] at hW
                refine lv_aload_n hx hb dX12_goOn_79 rfl (lv_at hl 1 rfl) ?_
                refine g_X12_103 Cx hW (k := 231) (by decide) rfl (v := .ref (G.2.2.1 + 262)) (rd_53 hI59) dX12_goOn_80 ?_
                refine lv_aload_n hx hb dX12_goOn_83 rfl (lv_at hl 1 rfl) ?_
                refine lv_aload_n hx hb dX12_goOn_84 rfl (lv_at hl 1 rfl) ?_
                have q_28 : (-2147483648) ≤ S59.1 231 71 ∧ S59.1 231 71 ≤ 2147483647 := hI59.fi 71
                refine g_X12_562 Cx hW (k := 231) (by decide) rfl (v := S59.1 231 71) rfl dX12_goOn_85 ?_
                refine lv_iconst (v := iv 1) hx hb dX12_goOn_88 (by decide) ?_
                refine r_iadd hx hb dX12_goOn_89 ?_
                refine lv_iconst (v := iv 0) hx hb dX12_goOn_90 (by decide) ?_
                refine sBi (sV (As := [.int (iv ((S59.1 231 71) + 1)), .int (iv 0)]) (rest := [.ref (G.2.2.1 + 262), .int (iv r_27), .ref (G.2.2.1 + 262)]) (k := 231) Cx (s_X12_cell l G S59 (i := (S59.1 231 71) + 1) (j := 0) (by omega) (by omega)) (c_X12_529 Cx rfl rfl (rmk_ok (by omega) (by decide))) hW (by decide) rfl rfl rfl hl.1 rfl (Nat.le_of_ble_eq_true rfl) dX12_goOn_91 ⟨Nat.le_of_ble_eq_true rfl, Nat.le_of_ble_eq_true rfl⟩) hL (fun r_31 u_29 H locs k_30 hW hL => ?_)
                obtain ⟨eu_29, xu_29⟩ := k_30
                rw [eu_29] at hW
                refine sBi (sSt (As := [.ref (G.2.2.1 + 262), .int (iv r_27), .ref (G.2.2.1 + 262), .int (iv r_31)]) (rest := []) Cx (s_X12_compare l G S59 (ka := 262) (po := r_27) (kb := 262) (qo := r_31) (Nka := 5280) (Nkb := 5280) (La := 6) (Lb := 6) hI59 ⟨rfl, by decide, by decide, by decide, rfl⟩ ⟨rfl, by decide, by decide, by decide, rfl⟩ (by omega) (by rw [show S59.2.1 262 = S0.2.1 262 from (funext fun j => ((hL59_ 262 rfl).2.1 j).trans (uF_a))]; exact hG.1.2.1.at (i := i + 1) (j := 0) (by omega) (by omega) (by omega) (by omega)) (by rw [show S59.2.1 262 = S0.2.1 262 from (funext fun j => ((hL59_ 262 rfl).2.1 j).trans (uF_a))]; exact hG.1.2.1.at (i := S59.1 231 71 + 1) (j := 0) (by omega) (by omega) (by omega) (by omega))) (c_X12_552 Cx rfl rfl (rmk_ok (by omega) (by decide))) hW rfl hl.1 rfl (Nat.le_of_ble_eq_true rfl) dX12_goOn_94 ⟨Nat.le_of_ble_eq_true rfl, Nat.le_of_ble_eq_true rfl⟩) hL (fun r_34 u_32 H locs k_33 hW hL => ?_)
                obtain ⟨eu_32, xu_32⟩ := k_33
                rw [eu_32] at hW
                have yu_32 := xu_32.2
                unfold Hd at yu_32
                refine r_if_ge (tgt := 105) hx hb ⟨(by omega), (by omega)⟩ dX12_goOn_97 (by decide) (fun c_35 => ?_) (fun c_35 => ?_)
                · refine lv_iinc (v := iv (i + 1)) (lv' := [(2, .int (iv (i + 1))), (0, .ref (G.2.2.1 + 231))]) hx hb dX12_goOn_105 hl (k := 0) rfl ((Int32.ofInt_add _ _).symm) (by decide) rfl (fun ls hl => ?_)
                  refine lv_goto (tgt := 59) hx hb dX12_goOn_108 (by decide) ?_
                  exact ih_59 S59 (i + 1) _ _ _ (by omega) hI59 hFm59 hFL059 hL59_ hGm59 hGL059 gL59_ (by omega) (by omega) hW hL (lv_sub hl [0, 1] rfl)
                · refine lv_aload_n hx hb dX12_goOn_100 rfl (lv_at hl 1 rfl) ?_
                  refine lv_iload_n hx hb dX12_goOn_101 rfl (lv_at hl 0 rfl) ?_
                  refine p_X12_562 Cx hW hL (k := 231) (by decide) rfl dX12_goOn_102 (fun H locs hW hL => ?_)
                  have F_36 : Fr S (uF S59 231 71 i) (pl [231, 233, 234, 235, 236, 237, 238, 239, 240, 241, 242, 261, 262, 263, 264, 265, 266, 267, 268, 269, 270, 271, 272, 273, 274, 275, 276, 277, 278, 279, 280, 281]) := hFm59.F rfl
                  have F_37 : Fr S (uF S59 231 71 i) (pl [231, 233, 234, 235, 236, 237, 238, 239, 240, 241, 242, 261, 262, 263, 264, 265, 266, 267, 268, 269, 270, 271, 272, 273, 274, 275, 276, 277, 278, 279, 280, 281]) := hFL059.F rfl
                  have F_38 : Fr ((uF S0 231 71 1)) (uF S59 231 71 i) (pl [231]) := hL59_.F rfl
                  have g_39 : FF S (uF S59 231 71 i) (fl [6, 58, 59, 60, 61, 62, 63, 65, 66, 67, 69, 71, 72, 78, 79, 84, 86]) := FF.F hGm59 rfl
                  have g_40 : FF S (uF S59 231 71 i) (fl [6, 58, 59, 60, 61, 62, 63, 65, 66, 67, 69, 71, 72, 78, 79, 84, 86]) := FF.F hGL059 rfl
                  have g_41 : FF ((uF S0 231 71 1)) (uF S59 231 71 i) (fl [71]) := FF.F gL59_ rfl
                  have i_42 : dX G (uF S59 231 71 i) := hI59.F (i := 71) (show (-2147483648) ≤ i ∧ i ≤ 2147483647 from ⟨by omega, by omega⟩)
                  refine lv_iinc (v := iv (i + 1)) (lv' := [(2, .int (iv (i + 1))), (0, .ref (G.2.2.1 + 231))]) hx hb dX12_goOn_105 hl (k := 0) rfl ((Int32.ofInt_add _ _).symm) (by decide) rfl (fun ls hl => ?_)
                  refine lv_goto (tgt := 59) hx hb dX12_goOn_108 (by decide) ?_
                  have lk_43 : (uF S59 231 71 i).1 231 71 = i := uF_on
                  exact ih_59 (uF S59 231 71 i) (i + 1) _ _ _ (by omega) i_42 F_36 F_37 F_38 g_39 g_40 g_41 (by omega) (by omega) hW hL (lv_sub hl [0, 1] rfl)
          have lk_44 : (uF S0 231 71 1).1 231 71 = 1 := uF_on
          exact loop_59 (_ + 1) (uF S0 231 71 1) 2 _ _ _ (Nat.lt_succ_self _) i_9 F_5 F_6 Fr.rf g_7 g_8 FF.rf (by omega) (by omega) hW hL (lv_sub hl [0, 1] rfl)
        by_cases c_45 : S0.1 231 62 = 1
        · refine lv_tableIn (off := 113) (tgt := 125) hx hb dX12_goOn_12 (by rw [c_45]; decide) (by rw [c_45]; decide) (by rw [c_45]; decide) (by decide) ?_
          have hs1 := hgi.2.s1 (.inl (by omega))
          have hsa := hs1.1
          unfold dSA at hsa
          refine lv_aload_n hx hb dX12_goOn_125 rfl (lv_at hl 0 rfl) ?_
          refine lv_iconst (v := iv 1) hx hb dX12_goOn_126 (by decide) ?_
          have q_46 : (-2147483648) ≤ S0.1 231 59 ∧ S0.1 231 59 ≤ 2147483647 := hI0.fi 59
          have q_47 : (-2147483648) ≤ S0.1 231 58 ∧ S0.1 231 58 ≤ 2147483647 := hI0.fi 58
          refine sBi (sV (As := [.int (iv 1)]) (rest := []) (k := 231) Cx (s_X12_stepUp l G S0 (gl := 1) hI0 (by omega) hG.1.2.1) (c_X12_572 Cx rfl rfl (rmk_ok (by omega) (by decide))) hW (by decide) rfl rfl rfl hl.1 rfl (Nat.le_of_ble_eq_true rfl) dX12_goOn_127 ⟨Nat.le_of_ble_eq_true rfl, Nat.le_of_ble_eq_true rfl⟩) hL (fun r_50 u_48 H locs k_49 hW hL => ?_)
          obtain ⟨iu_48, fu_48, gu_48, xu_48⟩ := k_49
          have F_51 := hFm0.trans (fu_48.to (pl_sub (by decide)))
          have F_52 := hL0_.trans (fu_48.to (pl_sub (by decide)))
          have g_53 : FF S u_48 (fl [6, 58, 59, 60, 61, 62, 63, 65, 66, 67, 69, 71, 72, 78, 79, 84, 86]) := FF.trans hGm0 (FF.to gu_48 (fl_sub (by decide)))
          have g_54 : FF S u_48 (fl [6, 58, 59, 60, 61, 62, 63, 65, 66, 67, 69, 71, 72, 78, 79, 84, 86]) := FF.trans gL0_ (FF.to gu_48 (fl_sub (by decide)))
          refine lv_istore_n (lv' := [(1, .int (iv r_50)), (0, .ref (G.2.2.1 + 231))]) hx hb dX12_goOn_130 rfl hl (by decide) rfl (fun ls hl => ?_)
          refine lv_iload_n hx hb dX12_goOn_131 rfl (lv_at hl 0 rfl) ?_
          refine lv_iconst (v := iv 1) hx hb dX12_goOn_132 (by decide) ?_
          refine r_icmp_ne (tgt := 137) hx hb ⟨(by omega), (by omega)⟩ ⟨(by omega), (by omega)⟩ dX12_goOn_133 (by decide) (fun c_55 => ?_) (fun c_55 => ?_)
          · refine lv_aload_n hx hb dX12_goOn_137 rfl (lv_at hl 1 rfl) ?_
            refine g_X12_103 Cx hW (k := 231) (by decide) rfl (v := .ref (G.2.2.1 + 262)) (rd_53 iu_48) dX12_goOn_138 ?_
            refine lv_aload_n hx hb dX12_goOn_141 rfl (lv_at hl 1 rfl) ?_
            refine lv_iconst (v := iv 1) hx hb dX12_goOn_142 (by decide) ?_
            refine lv_iconst (v := iv 0) hx hb dX12_goOn_143 (by decide) ?_
            refine sBi (sV (As := [.int (iv 1), .int (iv 0)]) (rest := [.ref (G.2.2.1 + 262)]) (k := 231) Cx (s_X12_cell l G u_48 (i := 1) (j := 0) (by omega) (by omega)) (c_X12_529 Cx rfl rfl (rmk_ok (by omega) (by decide))) hW (by decide) rfl rfl rfl hl.1 rfl (Nat.le_of_ble_eq_true rfl) dX12_goOn_144 ⟨Nat.le_of_ble_eq_true rfl, Nat.le_of_ble_eq_true rfl⟩) hL (fun r_58 u_56 H locs k_57 hW hL => ?_)
            obtain ⟨eu_56, xu_56⟩ := k_57
            rw [eu_56] at hW
            refine rIald Cx hW (k := 262) (by decide) rfl (by decide) (by omega) (by omega) dX12_goOn_147 ?_
            have q_59 : (-2147483648) ≤ S0.2.1 262 r_58 ∧ S0.2.1 262 r_58 ≤ 2147483647 := hI0.ai 262 r_58
            refine r_i (b := S0.2.1 262 r_58) ((fu_48 262 rfl).2.1 r_58) ?_
            refine r_if_ge (tgt := 160) hx hb ⟨(by omega), (by omega)⟩ dX12_goOn_148 (by decide) (fun c_60 => ?_) (fun c_60 => ?_)
            · refine lv_aload_n hx hb dX12_goOn_160 rfl (lv_at hl 1 rfl) ?_
              refine lv_iconst (v := iv 2) hx hb dX12_goOn_161 (by decide) ?_
              refine p_X12_532 Cx hW hL (k := 231) (by decide) rfl dX12_goOn_162 (fun H locs hW hL => ?_)
              have F_61 : Fr S (uF u_48 231 62 2) (pl [231, 233, 234, 235, 236, 237, 238, 239, 240, 241, 242, 261, 262, 263, 264, 265, 266, 267, 268, 269, 270, 271, 272, 273, 274, 275, 276, 277, 278, 279, 280, 281]) := F_51.F rfl
              have F_62 : Fr S (uF u_48 231 62 2) (pl [231, 233, 234, 235, 236, 237, 238, 239, 240, 241, 242, 261, 262, 263, 264, 265, 266, 267, 268, 269, 270, 271, 272, 273, 274, 275, 276, 277, 278, 279, 280, 281]) := F_52.F rfl
              have g_63 : FF S (uF u_48 231 62 2) (fl [6, 58, 59, 60, 61, 62, 63, 65, 66, 67, 69, 71, 72, 78, 79, 84, 86]) := FF.F g_53 rfl
              have g_64 : FF S (uF u_48 231 62 2) (fl [6, 58, 59, 60, 61, 62, 63, 65, 66, 67, 69, 71, 72, 78, 79, 84, 86]) := FF.F g_54 rfl
              have i_65 : dX G (uF u_48 231 62 2) := iu_48.F (i := 62) (show (-2147483648) ≤ 2 ∧ 2 ≤ 2147483647 from ⟨by omega, by omega⟩)
              refine lv_goto (tgt := 259) hx hb dX12_goOn_165 (by decide) ?_
              refine lv_goto (tgt := 0) hx hb dX12_goOn_259 (by decide) ?_
              exact ih_0 (uF u_48 231 62 2)  _ _ _ (Nat.lt_of_lt_of_le (mz2 (S := S0) hs61 (show (uF u_48 231 62 2).1 231 65 = S0.1 231 65 from (uF_ne (fun h => absurd h.2 (by decide))).trans (gu_48 65 rfl)) (by rw [(show (uF u_48 231 62 2).1 231 62 = 2 from uF_on), show S0.1 231 62 = 1 by omega]; decide)) (Nat.le_of_lt_succ hmeas)) i_65 F_61 F_62 g_63 g_64 ⟨(by have y := (show (uF u_48 231 62 2).1 231 61 = S0.1 231 61 from (uF_ne (fun h => absurd h.2 (by decide))).trans (gu_48 61 rfl)); omega), (fun _ => ⟨(GC.sm (S := S0) (u := (uF u_48 231 62 2)) hG ((uF_ne (fun h => absurd h.2 (by decide))).trans (gu_48 46 rfl)) ((uF_ne (fun h => absurd h.2 (by decide))).trans (gu_48 47 rfl)) ((uF_ne (fun h => absurd h.2 (by decide))).trans (gu_48 48 rfl)) ((uF_ne (fun h => absurd h.2 (by decide))).trans (gu_48 58 rfl)) ((uF_ne (fun h => absurd h.2 (by decide))).trans (gu_48 59 rfl)) ((uF_ne (fun h => absurd h.2 (by decide))).trans (gu_48 60 rfl)) ((uF_ne (fun h => absurd h.2 (by decide))).trans (gu_48 63 rfl)) ((uF_ne (fun h => absurd h.2 (by decide))).trans (gu_48 65 rfl)) ((uF_ne (fun h => absurd h.2 (by decide))).trans (gu_48 68 rfl)) ((uF_ne (fun h => absurd h.2 (by decide))).trans (gu_48 69 rfl)) ((uF_ne (fun h => absurd h.2 (by decide))).trans (gu_48 78 rfl)) ((uF_ne (fun h => absurd h.2 (by decide))).trans (gu_48 79 rfl)) ((uF_ne (fun h => absurd h.2 (by decide))).trans (gu_48 84 rfl)) ((uF_ne (fun h => absurd h.2 (by decide))).trans (gu_48 86 rfl)) (funext fun j => (uF_a).trans ((fu_48 261 rfl).2.1 j)) (funext fun j => (uF_a).trans ((fu_48 262 rfl).2.1 j)) (funext fun j => (uF_a).trans ((fu_48 264 rfl).2.1 j)) (funext fun j => (uF_a).trans ((fu_48 265 rfl).2.1 j)) (funext fun j => (uF_a).trans ((fu_48 266 rfl).2.1 j)) (funext fun j => (uF_a).trans ((fu_48 267 rfl).2.1 j)) (funext fun j => (uF_a).trans ((fu_48 268 rfl).2.1 j)) (funext fun j => (uF_a).trans ((fu_48 269 rfl).2.1 j)) (funext fun j => (uF_a).trans ((fu_48 270 rfl).2.1 j)) (funext fun j => (uF_a).trans ((fu_48 271 rfl).2.1 j)) (funext fun j => (uF_a).trans ((fu_48 272 rfl).2.1 j)) (funext fun j => (uF_a).trans ((fu_48 273 rfl).2.1 j)) (funext fun j => (uF_a).trans ((fu_48 274 rfl).2.1 j)) (funext fun j => (uF_l).trans ((fu_48 260 rfl).2.2.1 j)) (funext fun j => (uF_l).trans ((fu_48 290 rfl).2.2.1 j))), (.inr ⟨(dSA.sm (S := S0) (u := (uF u_48 231 62 2)) hs1.1 ((uF_ne (fun h => absurd h.2 (by decide))).trans (gu_48 47 rfl)) ((uF_ne (fun h => absurd h.2 (by decide))).trans (gu_48 58 rfl)) ((uF_ne (fun h => absurd h.2 (by decide))).trans (gu_48 59 rfl)) ((uF_ne (fun h => absurd h.2 (by decide))).trans (gu_48 60 rfl)) ((uF_ne (fun h => absurd h.2 (by decide))).trans (gu_48 78 rfl))), .inr (.inl ⟨.inr (show (uF u_48 231 62 2).1 231 62 = 2 from uF_on), (Tab.sm (S := S0) (u := (uF u_48 231 62 2)) hs1.2.1 ((uF_ne (fun h => absurd h.2 (by decide))).trans (gu_48 46 rfl)) ((uF_ne (fun h => absurd h.2 (by decide))).trans (gu_48 47 rfl)) ((uF_ne (fun h => absurd h.2 (by decide))).trans (gu_48 59 rfl)) (funext fun j => (uF_a).trans ((fu_48 262 rfl).2.1 j)) (funext fun j => (uF_a).trans ((fu_48 264 rfl).2.1 j)) (funext fun j => (uF_a).trans ((fu_48 265 rfl).2.1 j)) (funext fun j => (uF_a).trans ((fu_48 266 rfl).2.1 j)) (funext fun j => (uF_l).trans ((fu_48 290 rfl).2.2.1 j))), (WX.sm (S := S0) (u := (uF u_48 231 62 2)) hs1.2.2 ((uF_ne (fun h => absurd h.2 (by decide))).trans (gu_48 58 rfl)) ((uF_ne (fun h => absurd h.2 (by decide))).trans (gu_48 59 rfl)) (funext fun j => (uF_a).trans ((fu_48 262 rfl).2.1 j)) (funext fun j => (uF_a).trans ((fu_48 265 rfl).2.1 j)) (funext fun j => (uF_a).trans ((fu_48 266 rfl).2.1 j)))⟩)⟩)⟩), (fun q => absurd (by have y := (show (uF u_48 231 62 2).1 231 61 = S0.1 231 61 from (uF_ne (fun h => absurd h.2 (by decide))).trans (gu_48 61 rfl)); omega) q)⟩ hW hL (lv_sub hl [1] rfl)
            · refine lv_aload_n hx hb dX12_goOn_151 rfl (lv_at hl 1 rfl) ?_
              refine lv_iconst (v := iv 1) hx hb dX12_goOn_152 (by decide) ?_
              refine lv_iconst (v := iv 0) hx hb dX12_goOn_153 (by decide) ?_
              have q_66 : 0 ≤ S0.1 231 60 ∧ S0.1 231 60 ≤ 1 := hI0.fi 60
              have lk_67 : u_48.1 231 60 = S0.1 231 60 := gu_48 60 rfl
              have q_68 : (-2147483648) ≤ S0.1 231 78 ∧ S0.1 231 78 ≤ 2147483647 := hI0.fi 78
              have lk_69 : u_48.1 231 78 = S0.1 231 78 := gu_48 78 rfl
              have lk_70 : u_48.1 231 61 = S0.1 231 61 := gu_48 61 rfl
              have lk_71 : u_48.1 231 58 = S0.1 231 58 := gu_48 58 rfl
              have q_72 : (-2147483648) ≤ S.1 231 46 ∧ S.1 231 46 ≤ 2147483647 := hI.fi 46
              have lk_73 : u_48.1 231 46 = S.1 231 46 := (gu_48 46 rfl).trans (gL0_ 46 rfl)
              have q_74 : (-2147483648) ≤ S0.1 231 63 ∧ S0.1 231 63 ≤ 2147483647 := hI0.fi 63
              have lk_75 : u_48.1 231 63 = S0.1 231 63 := gu_48 63 rfl
              refine sBv (sV (As := [.int (iv 1), .int (iv 0)]) (rest := []) (k := 231) Cx (s_X12_leafFarkas l G u_48 (ri := 1) (bb := 0) iu_48 (GC.sm (S := S0) (u := u_48) hG (gu_48 46 rfl) (gu_48 47 rfl) (gu_48 48 rfl) (gu_48 58 rfl) (gu_48 59 rfl) (gu_48 60 rfl) (gu_48 63 rfl) (gu_48 65 rfl) (gu_48 68 rfl) (gu_48 69 rfl) (gu_48 78 rfl) (gu_48 79 rfl) (gu_48 84 rfl) (gu_48 86 rfl) (funext fun j => (fu_48 261 rfl).2.1 j) (funext fun j => (fu_48 262 rfl).2.1 j) (funext fun j => (fu_48 264 rfl).2.1 j) (funext fun j => (fu_48 265 rfl).2.1 j) (funext fun j => (fu_48 266 rfl).2.1 j) (funext fun j => (fu_48 267 rfl).2.1 j) (funext fun j => (fu_48 268 rfl).2.1 j) (funext fun j => (fu_48 269 rfl).2.1 j) (funext fun j => (fu_48 270 rfl).2.1 j) (funext fun j => (fu_48 271 rfl).2.1 j) (funext fun j => (fu_48 272 rfl).2.1 j) (funext fun j => (fu_48 273 rfl).2.1 j) (funext fun j => (fu_48 274 rfl).2.1 j) (funext fun j => (fu_48 260 rfl).2.2.1 j) (funext fun j => (fu_48 290 rfl).2.2.1 j)) (by omega) (by omega) (by omega) (by omega)) (c_X12_575 Cx rfl rfl (rmk_ok (by omega) (by decide))) hW (by decide) rfl rfl rfl hl.1 rfl (Nat.le_of_ble_eq_true rfl) dX12_goOn_154 ⟨Nat.le_of_ble_eq_true rfl, Nat.le_of_ble_eq_true rfl⟩) hL (fun u_76 H locs k_77 hW hL => ?_)
              obtain ⟨iu_76, fu_76, gu_76, xu_76⟩ := k_77
              have F_78 := F_51.trans fu_76
              have F_79 := F_52.trans fu_76
              have g_80 : FF S u_76 (fl [6, 58, 59, 60, 61, 62, 63, 65, 66, 67, 69, 71, 72, 78, 79, 84, 86]) := FF.trans g_53 (FF.to gu_76 (fl_sub (by decide)))
              have g_81 : FF S u_76 (fl [6, 58, 59, 60, 61, 62, 63, 65, 66, 67, 69, 71, 72, 78, 79, 84, 86]) := FF.trans g_54 (FF.to gu_76 (fl_sub (by decide)))
              refine lv_goto (tgt := 259) hx hb dX12_goOn_157 (by decide) ?_
              refine lv_goto (tgt := 0) hx hb dX12_goOn_259 (by decide) ?_
              exact ih_0 u_76  _ _ _ (Nat.lt_of_lt_of_le ((LD.of (S := S0) (X := u_48) xu_76 ((show u_48.1 231 65 = S0.1 231 65 from gu_48 65 rfl))).mz hs61 (by omega)) (Nat.le_of_lt_succ hmeas)) iu_76 F_78 F_79 g_80 g_81 (LD.of (S := S0) (X := u_48) xu_76 ((show u_48.1 231 65 = S0.1 231 65 from gu_48 65 rfl))).lg hW hL (lv_sub hl [1] rfl)
          · exact sVret Cx hr hlk hW hL ⟨iu_48, F_51, g_53, ⟨(by have y := (show u_48.1 231 61 = S0.1 231 61 from gu_48 61 rfl); omega), (fun _ => ⟨(GC.sm (S := S0) (u := u_48) hG (gu_48 46 rfl) (gu_48 47 rfl) (gu_48 48 rfl) (gu_48 58 rfl) (gu_48 59 rfl) (gu_48 60 rfl) (gu_48 63 rfl) (gu_48 65 rfl) (gu_48 68 rfl) (gu_48 69 rfl) (gu_48 78 rfl) (gu_48 79 rfl) (gu_48 84 rfl) (gu_48 86 rfl) (funext fun j => (fu_48 261 rfl).2.1 j) (funext fun j => (fu_48 262 rfl).2.1 j) (funext fun j => (fu_48 264 rfl).2.1 j) (funext fun j => (fu_48 265 rfl).2.1 j) (funext fun j => (fu_48 266 rfl).2.1 j) (funext fun j => (fu_48 267 rfl).2.1 j) (funext fun j => (fu_48 268 rfl).2.1 j) (funext fun j => (fu_48 269 rfl).2.1 j) (funext fun j => (fu_48 270 rfl).2.1 j) (funext fun j => (fu_48 271 rfl).2.1 j) (funext fun j => (fu_48 272 rfl).2.1 j) (funext fun j => (fu_48 273 rfl).2.1 j) (funext fun j => (fu_48 274 rfl).2.1 j) (funext fun j => (fu_48 260 rfl).2.2.1 j) (funext fun j => (fu_48 290 rfl).2.2.1 j)), (.inr ⟨(dSA.sm (S := S0) (u := u_48) hs1.1 (gu_48 47 rfl) (gu_48 58 rfl) (gu_48 59 rfl) (gu_48 60 rfl) (gu_48 78 rfl)), .inl ⟨(by have y := (show u_48.1 231 62 = S0.1 231 62 from gu_48 62 rfl); omega), (Tab.sm (S := S0) (u := u_48) hs1.2.1 (gu_48 46 rfl) (gu_48 47 rfl) (gu_48 59 rfl) (funext fun j => (fu_48 262 rfl).2.1 j) (funext fun j => (fu_48 264 rfl).2.1 j) (funext fun j => (fu_48 265 rfl).2.1 j) (funext fun j => (fu_48 266 rfl).2.1 j) (funext fun j => (fu_48 290 rfl).2.2.1 j)), .inr ⟨(WX.sm (S := S0) (u := u_48) hs1.2.2 (gu_48 58 rfl) (gu_48 59 rfl) (funext fun j => (fu_48 262 rfl).2.1 j) (funext fun j => (fu_48 265 rfl).2.1 j) (funext fun j => (fu_48 266 rfl).2.1 j)), (by unfold TV; rw [show u_48.2.1 262 = S0.2.1 262 from (funext fun j => (fu_48 262 rfl).2.1 j)]; exact (hG.1.2.1.at (i := 1) (j := u_48.1 231 72) (by omega) (by omega) (by have y := (xu_48.2.2.1 (by omega)).1; omega) rfl).sgn.1.mpr (xu_48.2.2.1 (by omega)).2)⟩⟩⟩), ⟨(by have y1 := (show u_48.1 231 58 = S0.1 231 58 from gu_48 58 rfl); have y2 := (xu_48.2.2.2 (by omega)).1; omega), (by have y1 := (show u_48.1 231 59 = S0.1 231 59 from gu_48 59 rfl); have y2 := (xu_48.2.2.1 (by omega)).1; omega), (by rw [show u_48.2.1 262 = S0.2.1 262 from (funext fun j => (fu_48 262 rfl).2.1 j)]; have y2 := (xu_48.2.2.2 (by omega)).2; omega)⟩⟩), (fun q => absurd (by have y := (show u_48.1 231 61 = S0.1 231 61 from gu_48 61 rfl); omega) q)⟩⟩ dX12_goOn_136
        by_cases c_82 : S0.1 231 62 = 2
        · refine lv_tableIn (off := 156) (tgt := 168) hx hb dX12_goOn_12 (by rw [c_82]; decide) (by rw [c_82]; decide) (by rw [c_82]; decide) (by decide) ?_
          have hs1 := hgi.2.s1 (.inr (by omega))
          have hsa := hs1.1
          unfold dSA at hsa
          refine lv_aload_n hx hb dX12_goOn_168 rfl (lv_at hl 0 rfl) ?_
          have q_83 : (-2147483648) ≤ S0.1 231 58 ∧ S0.1 231 58 ≤ 2147483647 := hI0.fi 58
          have q_84 : (-2147483648) ≤ S0.1 231 59 ∧ S0.1 231 59 ≤ 2147483647 := hI0.fi 59
          refine sBi (sV (As := []) (rest := []) (k := 231) Cx (s_X12_outOfBasis l G S0  hI0 hG.1.2.1 hs1.2.2) (c_X12_578 Cx rfl rfl (rmk_ok (by omega) (by decide))) hW (by decide) rfl rfl rfl hl.1 rfl (Nat.le_of_ble_eq_true rfl) dX12_goOn_169 ⟨Nat.le_of_ble_eq_true rfl, Nat.le_of_ble_eq_true rfl⟩) hL (fun r_87 u_85 H locs k_86 hW hL => ?_)
          obtain ⟨iu_85, fu_85, gu_85, xu_85⟩ := k_86
          have F_88 := hFm0.trans (fu_85.to (pl_sub (by decide)))
          have F_89 := hL0_.trans (fu_85.to (pl_sub (by decide)))
          have g_90 : FF S u_85 (fl [6, 58, 59, 60, 61, 62, 63, 65, 66, 67, 69, 71, 72, 78, 79, 84, 86]) := FF.trans hGm0 (FF.to gu_85 (fl_sub (by decide)))
          have g_91 : FF S u_85 (fl [6, 58, 59, 60, 61, 62, 63, 65, 66, 67, 69, 71, 72, 78, 79, 84, 86]) := FF.trans gL0_ (FF.to gu_85 (fl_sub (by decide)))
          refine r_if_eq (tgt := 259) hx hb ⟨(by omega), (by omega)⟩ dX12_goOn_172 (by decide) (fun c_92 => ?_) (fun c_92 => ?_)
          · refine lv_goto (tgt := 0) hx hb dX12_goOn_259 (by decide) ?_
            exact ih_0 u_85  _ _ _ (Nat.lt_of_lt_of_le (mz2 (S := S0) hs61 (show u_85.1 231 65 = S0.1 231 65 from gu_85 65 rfl) (by rw [xu_85.2.1, show S0.1 231 62 = 2 by omega]; decide)) (Nat.le_of_lt_succ hmeas)) iu_85 F_88 F_89 g_90 g_91 ⟨(by have y := (show u_85.1 231 61 = S0.1 231 61 from gu_85 61 rfl); omega), (fun _ => ⟨(GC.sm (S := S0) (u := u_85) hG (gu_85 46 rfl) (gu_85 47 rfl) (gu_85 48 rfl) (gu_85 58 rfl) (gu_85 59 rfl) (gu_85 60 rfl) (gu_85 63 rfl) (gu_85 65 rfl) (gu_85 68 rfl) (gu_85 69 rfl) (gu_85 78 rfl) (gu_85 79 rfl) (gu_85 84 rfl) (gu_85 86 rfl) (funext fun j => (fu_85 261 rfl).2.1 j) (funext fun j => (fu_85 262 rfl).2.1 j) (funext fun j => (fu_85 264 rfl).2.1 j) (funext fun j => (fu_85 265 rfl).2.1 j) (funext fun j => (fu_85 266 rfl).2.1 j) (funext fun j => (fu_85 267 rfl).2.1 j) (funext fun j => (fu_85 268 rfl).2.1 j) (funext fun j => (fu_85 269 rfl).2.1 j) (funext fun j => (fu_85 270 rfl).2.1 j) (funext fun j => (fu_85 271 rfl).2.1 j) (funext fun j => (fu_85 272 rfl).2.1 j) (funext fun j => (fu_85 273 rfl).2.1 j) (funext fun j => (fu_85 274 rfl).2.1 j) (funext fun j => (fu_85 260 rfl).2.2.1 j) (funext fun j => (fu_85 290 rfl).2.2.1 j)), (.inr ⟨(dSA.sm (S := S0) (u := u_85) hs1.1 (gu_85 47 rfl) (gu_85 58 rfl) (gu_85 59 rfl) (gu_85 60 rfl) (gu_85 78 rfl)), .inr (.inr xu_85.2.1)⟩)⟩), (fun q => absurd (by have y := (show u_85.1 231 61 = S0.1 231 61 from gu_85 61 rfl); omega) q)⟩ hW hL (lv_sub hl [0] rfl)
          · exact sVret Cx hr hlk hW hL ⟨iu_85, F_88, g_90, ⟨(by have y := (show u_85.1 231 61 = S0.1 231 61 from gu_85 61 rfl); omega), (fun _ => ⟨(GC.sm (S := S0) (u := u_85) hG (gu_85 46 rfl) (gu_85 47 rfl) (gu_85 48 rfl) (gu_85 58 rfl) (gu_85 59 rfl) (gu_85 60 rfl) (gu_85 63 rfl) (gu_85 65 rfl) (gu_85 68 rfl) (gu_85 69 rfl) (gu_85 78 rfl) (gu_85 79 rfl) (gu_85 84 rfl) (gu_85 86 rfl) (funext fun j => (fu_85 261 rfl).2.1 j) (funext fun j => (fu_85 262 rfl).2.1 j) (funext fun j => (fu_85 264 rfl).2.1 j) (funext fun j => (fu_85 265 rfl).2.1 j) (funext fun j => (fu_85 266 rfl).2.1 j) (funext fun j => (fu_85 267 rfl).2.1 j) (funext fun j => (fu_85 268 rfl).2.1 j) (funext fun j => (fu_85 269 rfl).2.1 j) (funext fun j => (fu_85 270 rfl).2.1 j) (funext fun j => (fu_85 271 rfl).2.1 j) (funext fun j => (fu_85 272 rfl).2.1 j) (funext fun j => (fu_85 273 rfl).2.1 j) (funext fun j => (fu_85 274 rfl).2.1 j) (funext fun j => (fu_85 260 rfl).2.2.1 j) (funext fun j => (fu_85 290 rfl).2.2.1 j)), (.inr ⟨(dSA.sm (S := S0) (u := u_85) hs1.1 (gu_85 47 rfl) (gu_85 58 rfl) (gu_85 59 rfl) (gu_85 60 rfl) (gu_85 78 rfl)), .inr xu_85.2.1⟩), ⟨(by have y1 := (show u_85.1 231 58 = S0.1 231 58 from gu_85 58 rfl); have y2 := (xu_85.2.2 (by omega)).1; omega), (by have y1 := (show u_85.1 231 59 = S0.1 231 59 from gu_85 59 rfl); have y2 := (xu_85.2.2 (by omega)).2.1; omega), (by rw [show u_85.2.1 262 = S0.2.1 262 from (funext fun j => (fu_85 262 rfl).2.1 j)]; exact (xu_85.2.2 (by omega)).2.2)⟩⟩), (fun q => absurd (by have y := (show u_85.1 231 61 = S0.1 231 61 from gu_85 61 rfl); omega) q)⟩⟩ dX12_goOn_175
        by_cases c_93 : S0.1 231 62 = 3
        · refine lv_tableIn (off := 176) (tgt := 188) hx hb dX12_goOn_12 (by rw [c_93]; decide) (by rw [c_93]; decide) (by rw [c_93]; decide) (by decide) ?_
          have hs3 := hgi.2.s3 (by omega)
          refine lv_aload_n hx hb dX12_goOn_188 rfl (lv_at hl 0 rfl) ?_
          refine lv_iconst (v := iv 0) hx hb dX12_goOn_189 (by decide) ?_
          have q_94 : (-2147483648) ≤ S0.1 231 59 ∧ S0.1 231 59 ≤ 2147483647 := hI0.fi 59
          have q_95 : (-2147483648) ≤ S0.1 231 58 ∧ S0.1 231 58 ≤ 2147483647 := hI0.fi 58
          refine sBi (sV (As := [.int (iv 0)]) (rest := []) (k := 231) Cx (s_X12_stepUp l G S0 (gl := 0) hI0 (by omega) hG.1.2.1) (c_X12_572 Cx rfl rfl (rmk_ok (by omega) (by decide))) hW (by decide) rfl rfl rfl hl.1 rfl (Nat.le_of_ble_eq_true rfl) dX12_goOn_190 ⟨Nat.le_of_ble_eq_true rfl, Nat.le_of_ble_eq_true rfl⟩) hL (fun r_98 u_96 H locs k_97 hW hL => ?_)
          obtain ⟨iu_96, fu_96, gu_96, xu_96⟩ := k_97
          have F_99 := hFm0.trans (fu_96.to (pl_sub (by decide)))
          have F_100 := hL0_.trans (fu_96.to (pl_sub (by decide)))
          have g_101 : FF S u_96 (fl [6, 58, 59, 60, 61, 62, 63, 65, 66, 67, 69, 71, 72, 78, 79, 84, 86]) := FF.trans hGm0 (FF.to gu_96 (fl_sub (by decide)))
          have g_102 : FF S u_96 (fl [6, 58, 59, 60, 61, 62, 63, 65, 66, 67, 69, 71, 72, 78, 79, 84, 86]) := FF.trans gL0_ (FF.to gu_96 (fl_sub (by decide)))
          refine lv_istore_n (lv' := [(1, .int (iv r_98)), (0, .ref (G.2.2.1 + 231))]) hx hb dX12_goOn_193 rfl hl (by decide) rfl (fun ls hl => ?_)
          refine lv_iload_n hx hb dX12_goOn_194 rfl (lv_at hl 0 rfl) ?_
          refine lv_iconst (v := iv 1) hx hb dX12_goOn_195 (by decide) ?_
          refine r_icmp_ne (tgt := 200) hx hb ⟨(by omega), (by omega)⟩ ⟨(by omega), (by omega)⟩ dX12_goOn_196 (by decide) (fun c_103 => ?_) (fun c_103 => ?_)
          · refine lv_iload_n hx hb dX12_goOn_200 rfl (lv_at hl 0 rfl) ?_
            refine r_if_ne (tgt := 211) hx hb ⟨(by omega), (by omega)⟩ dX12_goOn_201 (by decide) (fun c_104 => ?_) (fun c_104 => ?_)
            · have hpc9 := (xu_96.2.2.1 (by omega)).1
              refine lv_aload_n hx hb dX12_goOn_211 rfl (lv_at hl 1 rfl) ?_
              have q_105 : (-2147483648) ≤ u_96.1 231 72 ∧ u_96.1 231 72 ≤ 2147483647 := iu_96.fi 72
              have lk_106 : u_96.1 231 59 = S0.1 231 59 := gu_96 59 rfl
              refine sBv (sV (As := []) (rest := []) (k := 231) Cx (s_X12_ray l G u_96  iu_96 (MD.sm (S := S0) (u := u_96) hG.1.1.1 (gu_96 46 rfl) (gu_96 47 rfl) (gu_96 63 rfl)) (DOK.sm (S := S0) (u := u_96) hG.1.2.1 (gu_96 58 rfl) (gu_96 59 rfl) (gu_96 60 rfl) (funext fun j => (fu_96 262 rfl).2.1 j) (funext fun j => (fu_96 264 rfl).2.1 j)) (BO.sm (S := S0) (u := u_96) hG.1.2.2.1 (gu_96 46 rfl) (gu_96 58 rfl) (gu_96 59 rfl) (gu_96 63 rfl) (funext fun j => (fu_96 265 rfl).2.1 j) (funext fun j => (fu_96 266 rfl).2.1 j)) (by omega)) (c_X12_588 Cx rfl rfl (rmk_ok (by omega) (by decide))) hW (by decide) rfl rfl rfl hl.1 rfl (Nat.le_of_ble_eq_true rfl) dX12_goOn_212 ⟨Nat.le_of_ble_eq_true rfl, Nat.le_of_ble_eq_true rfl⟩) hL (fun u_107 H locs k_108 hW hL => ?_)
              obtain ⟨iu_107, fu_107, gu_107, xu_107⟩ := k_108
              have F_109 := F_99.trans (fu_107.to (pl_sub (by decide)))
              have F_110 := F_100.trans (fu_107.to (pl_sub (by decide)))
              have g_111 : FF S u_107 (fl [6, 58, 59, 60, 61, 62, 63, 65, 66, 67, 69, 71, 72, 78, 79, 84, 86]) := FF.trans g_101 (FF.to gu_107 (fl_sub (by decide)))
              have g_112 : FF S u_107 (fl [6, 58, 59, 60, 61, 62, 63, 65, 66, 67, 69, 71, 72, 78, 79, 84, 86]) := FF.trans g_102 (FF.to gu_107 (fl_sub (by decide)))
              refine lv_goto (tgt := 259) hx hb dX12_goOn_215 (by decide) ?_
              refine lv_goto (tgt := 0) hx hb dX12_goOn_259 (by decide) ?_
              exact ih_0 u_107  _ _ _ (Nat.lt_of_lt_of_le (mz1 (S := S0) hs61 (by omega) (fun q => absurd q (by omega))) (Nat.le_of_lt_succ hmeas)) iu_107 F_109 F_110 g_111 g_112 ⟨(by omega), (fun q => absurd q (by omega)), (fun _ => ⟨(MR.sm (S := S0) (u := u_107) hG.1.1 ((gu_107 46 rfl).trans (gu_96 46 rfl)) ((gu_107 47 rfl).trans (gu_96 47 rfl)) ((gu_107 63 rfl).trans (gu_96 63 rfl)) (funext fun j => ((fu_107 261 rfl).2.1 j).trans ((fu_96 261 rfl).2.1 j)) (funext fun j => ((fu_107 260 rfl).2.2.1 j).trans ((fu_96 260 rfl).2.2.1 j)) (funext fun j => ((fu_107 290 rfl).2.2.1 j).trans ((fu_96 290 rfl).2.2.1 j))), (DOK.sm (S := S0) (u := u_107) hG.1.2.1 ((gu_107 58 rfl).trans (gu_96 58 rfl)) ((gu_107 59 rfl).trans (gu_96 59 rfl)) ((gu_107 60 rfl).trans (gu_96 60 rfl)) (funext fun j => ((fu_107 262 rfl).2.1 j).trans ((fu_96 262 rfl).2.1 j)) (funext fun j => ((fu_107 264 rfl).2.1 j).trans ((fu_96 264 rfl).2.1 j))), (BO.sm (S := S0) (u := u_107) hG.1.2.2.1 ((gu_107 46 rfl).trans (gu_96 46 rfl)) ((gu_107 58 rfl).trans (gu_96 58 rfl)) ((gu_107 59 rfl).trans (gu_96 59 rfl)) ((gu_107 63 rfl).trans (gu_96 63 rfl)) (funext fun j => ((fu_107 265 rfl).2.1 j).trans ((fu_96 265 rfl).2.1 j)) (funext fun j => ((fu_107 266 rfl).2.1 j).trans ((fu_96 266 rfl).2.1 j))), (BB.sm (S := S0) (u := u_107) hG.1.2.2.2.1 ((gu_107 46 rfl).trans (gu_96 46 rfl)) ((gu_107 79 rfl).trans (gu_96 79 rfl)) (funext fun j => ((fu_107 272 rfl).2.1 j).trans ((fu_96 272 rfl).2.1 j)) (funext fun j => ((fu_107 273 rfl).2.1 j).trans ((fu_96 273 rfl).2.1 j)) (funext fun j => ((fu_107 274 rfl).2.1 j).trans ((fu_96 274 rfl).2.1 j))), (by unfold dPS; omega)⟩)⟩ hW hL (lv_sub hl [1] rfl)
            · refine lv_aload_n hx hb dX12_goOn_204 rfl (lv_at hl 1 rfl) ?_
              have q_113 : 0 ≤ S0.1 231 60 ∧ S0.1 231 60 ≤ 1 := hI0.fi 60
              have lk_114 : u_96.1 231 60 = S0.1 231 60 := gu_96 60 rfl
              have lk_115 : u_96.1 231 61 = S0.1 231 61 := gu_96 61 rfl
              refine sBv (sV (As := []) (rest := []) (k := 231) Cx (s_X12_evaluate l G u_96  iu_96 (GC.sm (S := S0) (u := u_96) hG (gu_96 46 rfl) (gu_96 47 rfl) (gu_96 48 rfl) (gu_96 58 rfl) (gu_96 59 rfl) (gu_96 60 rfl) (gu_96 63 rfl) (gu_96 65 rfl) (gu_96 68 rfl) (gu_96 69 rfl) (gu_96 78 rfl) (gu_96 79 rfl) (gu_96 84 rfl) (gu_96 86 rfl) (funext fun j => (fu_96 261 rfl).2.1 j) (funext fun j => (fu_96 262 rfl).2.1 j) (funext fun j => (fu_96 264 rfl).2.1 j) (funext fun j => (fu_96 265 rfl).2.1 j) (funext fun j => (fu_96 266 rfl).2.1 j) (funext fun j => (fu_96 267 rfl).2.1 j) (funext fun j => (fu_96 268 rfl).2.1 j) (funext fun j => (fu_96 269 rfl).2.1 j) (funext fun j => (fu_96 270 rfl).2.1 j) (funext fun j => (fu_96 271 rfl).2.1 j) (funext fun j => (fu_96 272 rfl).2.1 j) (funext fun j => (fu_96 273 rfl).2.1 j) (funext fun j => (fu_96 274 rfl).2.1 j) (funext fun j => (fu_96 260 rfl).2.2.1 j) (funext fun j => (fu_96 290 rfl).2.2.1 j)) (by omega) (by omega)) (c_X12_585 Cx rfl rfl (rmk_ok (by omega) (by decide))) hW (by decide) rfl rfl rfl hl.1 rfl (Nat.le_of_ble_eq_true rfl) dX12_goOn_205 ⟨Nat.le_of_ble_eq_true rfl, Nat.le_of_ble_eq_true rfl⟩) hL (fun u_116 H locs k_117 hW hL => ?_)
              obtain ⟨iu_116, fu_116, gu_116, xu_116⟩ := k_117
              have F_118 := F_99.trans fu_116
              have F_119 := F_100.trans fu_116
              have g_120 : FF S u_116 (fl [6, 58, 59, 60, 61, 62, 63, 65, 66, 67, 69, 71, 72, 78, 79, 84, 86]) := FF.trans g_101 (FF.to gu_116 (fl_sub (by decide)))
              have g_121 : FF S u_116 (fl [6, 58, 59, 60, 61, 62, 63, 65, 66, 67, 69, 71, 72, 78, 79, 84, 86]) := FF.trans g_102 (FF.to gu_116 (fl_sub (by decide)))
              refine lv_goto (tgt := 259) hx hb dX12_goOn_208 (by decide) ?_
              refine lv_goto (tgt := 0) hx hb dX12_goOn_259 (by decide) ?_
              exact ih_0 u_116  _ _ _ (Nat.lt_of_lt_of_le ((LD.of (S := S0) (X := u_96) xu_116 ((show u_96.1 231 65 = S0.1 231 65 from gu_96 65 rfl))).mz hs61 (by omega)) (Nat.le_of_lt_succ hmeas)) iu_116 F_118 F_119 g_120 g_121 (LD.of (S := S0) (X := u_96) xu_116 ((show u_96.1 231 65 = S0.1 231 65 from gu_96 65 rfl))).lg hW hL (lv_sub hl [1] rfl)
          · exact sVret Cx hr hlk hW hL ⟨iu_96, F_99, g_101, ⟨(by have y := (show u_96.1 231 61 = S0.1 231 61 from gu_96 61 rfl); omega), (fun _ => ⟨(GC.sm (S := S0) (u := u_96) hG (gu_96 46 rfl) (gu_96 47 rfl) (gu_96 48 rfl) (gu_96 58 rfl) (gu_96 59 rfl) (gu_96 60 rfl) (gu_96 63 rfl) (gu_96 65 rfl) (gu_96 68 rfl) (gu_96 69 rfl) (gu_96 78 rfl) (gu_96 79 rfl) (gu_96 84 rfl) (gu_96 86 rfl) (funext fun j => (fu_96 261 rfl).2.1 j) (funext fun j => (fu_96 262 rfl).2.1 j) (funext fun j => (fu_96 264 rfl).2.1 j) (funext fun j => (fu_96 265 rfl).2.1 j) (funext fun j => (fu_96 266 rfl).2.1 j) (funext fun j => (fu_96 267 rfl).2.1 j) (funext fun j => (fu_96 268 rfl).2.1 j) (funext fun j => (fu_96 269 rfl).2.1 j) (funext fun j => (fu_96 270 rfl).2.1 j) (funext fun j => (fu_96 271 rfl).2.1 j) (funext fun j => (fu_96 272 rfl).2.1 j) (funext fun j => (fu_96 273 rfl).2.1 j) (funext fun j => (fu_96 274 rfl).2.1 j) (funext fun j => (fu_96 260 rfl).2.2.1 j) (funext fun j => (fu_96 290 rfl).2.2.1 j)), (.inl ⟨(by rw [(show u_96.1 231 62 = S0.1 231 62 from gu_96 62 rfl)]; exact hs3.1), (show u_96.1 231 60 = S0.1 231 60 from gu_96 60 rfl).trans hs3.2⟩), ⟨(by have y1 := (show u_96.1 231 58 = S0.1 231 58 from gu_96 58 rfl); have y2 := (xu_96.2.2.2 (by omega)).1; omega), (by have y1 := (show u_96.1 231 59 = S0.1 231 59 from gu_96 59 rfl); have y2 := (xu_96.2.2.1 (by omega)).1; omega), (by rw [show u_96.2.1 262 = S0.2.1 262 from (funext fun j => (fu_96 262 rfl).2.1 j)]; have y2 := (xu_96.2.2.2 (by omega)).2; omega)⟩⟩), (fun q => absurd (by have y := (show u_96.1 231 61 = S0.1 231 61 from gu_96 61 rfl); omega) q)⟩⟩ dX12_goOn_199
        by_cases c_122 : S0.1 231 62 = 4
        · refine lv_tableIn (off := 206) (tgt := 218) hx hb dX12_goOn_12 (by rw [c_122]; decide) (by rw [c_122]; decide) (by rw [c_122]; decide) (by decide) ?_
          have hs3 := hgi.2.s3 (by omega)
          refine lv_aload_n hx hb dX12_goOn_218 rfl (lv_at hl 0 rfl) ?_
          have q_123 : (-2147483648) ≤ S0.1 231 58 ∧ S0.1 231 58 ≤ 2147483647 := hI0.fi 58
          have q_124 : (-2147483648) ≤ S0.1 231 59 ∧ S0.1 231 59 ≤ 2147483647 := hI0.fi 59
          refine sBi (sV (As := []) (rest := []) (k := 231) Cx (s_X12_stepDown l G S0  hI0 hG.1.2.1) (c_X12_591 Cx rfl rfl (rmk_ok (by omega) (by decide))) hW (by decide) rfl rfl rfl hl.1 rfl (Nat.le_of_ble_eq_true rfl) dX12_goOn_219 ⟨Nat.le_of_ble_eq_true rfl, Nat.le_of_ble_eq_true rfl⟩) hL (fun r_127 u_125 H locs k_126 hW hL => ?_)
          obtain ⟨iu_125, fu_125, gu_125, xu_125⟩ := k_126
          have F_128 := hFm0.trans (fu_125.to (pl_sub (by decide)))
          have F_129 := hL0_.trans (fu_125.to (pl_sub (by decide)))
          have g_130 : FF S u_125 (fl [6, 58, 59, 60, 61, 62, 63, 65, 66, 67, 69, 71, 72, 78, 79, 84, 86]) := FF.trans hGm0 (FF.to gu_125 (fl_sub (by decide)))
          have g_131 : FF S u_125 (fl [6, 58, 59, 60, 61, 62, 63, 65, 66, 67, 69, 71, 72, 78, 79, 84, 86]) := FF.trans gL0_ (FF.to gu_125 (fl_sub (by decide)))
          refine lv_istore_n (lv' := [(1, .int (iv r_127)), (0, .ref (G.2.2.1 + 231))]) hx hb dX12_goOn_222 rfl hl (by decide) rfl (fun ls hl => ?_)
          refine lv_iload_n hx hb dX12_goOn_223 rfl (lv_at hl 0 rfl) ?_
          refine lv_iconst (v := iv 1) hx hb dX12_goOn_224 (by decide) ?_
          refine r_icmp_ne (tgt := 229) hx hb ⟨(by omega), (by omega)⟩ ⟨(by omega), (by omega)⟩ dX12_goOn_225 (by decide) (fun c_132 => ?_) (fun c_132 => ?_)
          · refine lv_iload_n hx hb dX12_goOn_229 rfl (lv_at hl 0 rfl) ?_
            refine r_if_ne (tgt := 240) hx hb ⟨(by omega), (by omega)⟩ dX12_goOn_230 (by decide) (fun c_133 => ?_) (fun c_133 => ?_)
            · have hbb9 := hG.1.2.2.1.1 (u_125.1 231 71) (xu_125.2.1 (by omega)).1 (xu_125.2.1 (by omega)).2
              have hpr9 := xu_125.2.1 (by omega)
              refine lv_aload_n hx hb dX12_goOn_240 rfl (lv_at hl 1 rfl) ?_
              refine lv_aload_n hx hb dX12_goOn_241 rfl (lv_at hl 1 rfl) ?_
              have q_134 : (-2147483648) ≤ u_125.1 231 71 ∧ u_125.1 231 71 ≤ 2147483647 := iu_125.fi 71
              refine g_X12_562 Cx hW (k := 231) (by decide) rfl (v := u_125.1 231 71) rfl dX12_goOn_242 ?_
              refine lv_iconst (v := iv 1) hx hb dX12_goOn_245 (by decide) ?_
              refine r_iadd hx hb dX12_goOn_246 ?_
              refine lv_aload_n hx hb dX12_goOn_247 rfl (lv_at hl 1 rfl) ?_
              refine g_X12_112 Cx hW (k := 231) (by decide) rfl (v := .ref (G.2.2.1 + 265)) (rd_56 iu_125) dX12_goOn_248 ?_
              refine lv_aload_n hx hb dX12_goOn_251 rfl (lv_at hl 1 rfl) ?_
              refine g_X12_562 Cx hW (k := 231) (by decide) rfl (v := u_125.1 231 71) rfl dX12_goOn_252 ?_
              refine rIald Cx hW (k := 265) (by decide) rfl (by decide) (by omega) (by omega) dX12_goOn_255 ?_
              have q_135 : (-2147483648) ≤ S0.2.1 265 (u_125.1 231 71) ∧ S0.2.1 265 (u_125.1 231 71) ≤ 2147483647 := hI0.ai 265 (u_125.1 231 71)
              refine r_i (b := S0.2.1 265 (u_125.1 231 71)) ((fu_125 265 rfl).2.1 (u_125.1 231 71)) ?_
              have q_136 : 0 ≤ S0.1 231 60 ∧ S0.1 231 60 ≤ 1 := hI0.fi 60
              have lk_137 : u_125.1 231 60 = S0.1 231 60 := gu_125 60 rfl
              have q_138 : (-2147483648) ≤ S0.1 231 78 ∧ S0.1 231 78 ≤ 2147483647 := hI0.fi 78
              have lk_139 : u_125.1 231 78 = S0.1 231 78 := gu_125 78 rfl
              have lk_140 : u_125.1 231 61 = S0.1 231 61 := gu_125 61 rfl
              have lk_141 : u_125.1 231 58 = S0.1 231 58 := gu_125 58 rfl
              have q_142 : (-2147483648) ≤ S.1 231 46 ∧ S.1 231 46 ≤ 2147483647 := hI.fi 46
              have lk_143 : u_125.1 231 46 = S.1 231 46 := (gu_125 46 rfl).trans (gL0_ 46 rfl)
              have q_144 : (-2147483648) ≤ S0.1 231 63 ∧ S0.1 231 63 ≤ 2147483647 := hI0.fi 63
              have lk_145 : u_125.1 231 63 = S0.1 231 63 := gu_125 63 rfl
              refine sBv (sV (As := [.int (iv ((u_125.1 231 71) + 1)), .int (iv (S0.2.1 265 (u_125.1 231 71)))]) (rest := []) (k := 231) Cx (s_X12_leafFarkas l G u_125 (ri := (u_125.1 231 71) + 1) (bb := S0.2.1 265 (u_125.1 231 71)) iu_125 (GC.sm (S := S0) (u := u_125) hG (gu_125 46 rfl) (gu_125 47 rfl) (gu_125 48 rfl) (gu_125 58 rfl) (gu_125 59 rfl) (gu_125 60 rfl) (gu_125 63 rfl) (gu_125 65 rfl) (gu_125 68 rfl) (gu_125 69 rfl) (gu_125 78 rfl) (gu_125 79 rfl) (gu_125 84 rfl) (gu_125 86 rfl) (funext fun j => (fu_125 261 rfl).2.1 j) (funext fun j => (fu_125 262 rfl).2.1 j) (funext fun j => (fu_125 264 rfl).2.1 j) (funext fun j => (fu_125 265 rfl).2.1 j) (funext fun j => (fu_125 266 rfl).2.1 j) (funext fun j => (fu_125 267 rfl).2.1 j) (funext fun j => (fu_125 268 rfl).2.1 j) (funext fun j => (fu_125 269 rfl).2.1 j) (funext fun j => (fu_125 270 rfl).2.1 j) (funext fun j => (fu_125 271 rfl).2.1 j) (funext fun j => (fu_125 272 rfl).2.1 j) (funext fun j => (fu_125 273 rfl).2.1 j) (funext fun j => (fu_125 274 rfl).2.1 j) (funext fun j => (fu_125 260 rfl).2.2.1 j) (funext fun j => (fu_125 290 rfl).2.2.1 j)) (by omega) (by omega) (by omega) (by omega)) (c_X12_575 Cx rfl rfl (rmk_ok (by omega) (by decide))) hW (by decide) rfl rfl rfl hl.1 rfl (Nat.le_of_ble_eq_true rfl) dX12_goOn_256 ⟨Nat.le_of_ble_eq_true rfl, Nat.le_of_ble_eq_true rfl⟩) hL (fun u_146 H locs k_147 hW hL => ?_)
              obtain ⟨iu_146, fu_146, gu_146, xu_146⟩ := k_147
              have F_148 := F_128.trans fu_146
              have F_149 := F_129.trans fu_146
              have g_150 : FF S u_146 (fl [6, 58, 59, 60, 61, 62, 63, 65, 66, 67, 69, 71, 72, 78, 79, 84, 86]) := FF.trans g_130 (FF.to gu_146 (fl_sub (by decide)))
              have g_151 : FF S u_146 (fl [6, 58, 59, 60, 61, 62, 63, 65, 66, 67, 69, 71, 72, 78, 79, 84, 86]) := FF.trans g_131 (FF.to gu_146 (fl_sub (by decide)))
              refine lv_goto (tgt := 0) hx hb dX12_goOn_259 (by decide) ?_
              exact ih_0 u_146  _ _ _ (Nat.lt_of_lt_of_le ((LD.of (S := S0) (X := u_125) xu_146 ((show u_125.1 231 65 = S0.1 231 65 from gu_125 65 rfl))).mz hs61 (by omega)) (Nat.le_of_lt_succ hmeas)) iu_146 F_148 F_149 g_150 g_151 (LD.of (S := S0) (X := u_125) xu_146 ((show u_125.1 231 65 = S0.1 231 65 from gu_125 65 rfl))).lg hW hL (lv_sub hl [1] rfl)
            · refine lv_aload_n hx hb dX12_goOn_233 rfl (lv_at hl 1 rfl) ?_
              have q_152 : 0 ≤ S0.1 231 60 ∧ S0.1 231 60 ≤ 1 := hI0.fi 60
              have lk_153 : u_125.1 231 60 = S0.1 231 60 := gu_125 60 rfl
              have lk_154 : u_125.1 231 61 = S0.1 231 61 := gu_125 61 rfl
              refine sBv (sV (As := []) (rest := []) (k := 231) Cx (s_X12_evaluate l G u_125  iu_125 (GC.sm (S := S0) (u := u_125) hG (gu_125 46 rfl) (gu_125 47 rfl) (gu_125 48 rfl) (gu_125 58 rfl) (gu_125 59 rfl) (gu_125 60 rfl) (gu_125 63 rfl) (gu_125 65 rfl) (gu_125 68 rfl) (gu_125 69 rfl) (gu_125 78 rfl) (gu_125 79 rfl) (gu_125 84 rfl) (gu_125 86 rfl) (funext fun j => (fu_125 261 rfl).2.1 j) (funext fun j => (fu_125 262 rfl).2.1 j) (funext fun j => (fu_125 264 rfl).2.1 j) (funext fun j => (fu_125 265 rfl).2.1 j) (funext fun j => (fu_125 266 rfl).2.1 j) (funext fun j => (fu_125 267 rfl).2.1 j) (funext fun j => (fu_125 268 rfl).2.1 j) (funext fun j => (fu_125 269 rfl).2.1 j) (funext fun j => (fu_125 270 rfl).2.1 j) (funext fun j => (fu_125 271 rfl).2.1 j) (funext fun j => (fu_125 272 rfl).2.1 j) (funext fun j => (fu_125 273 rfl).2.1 j) (funext fun j => (fu_125 274 rfl).2.1 j) (funext fun j => (fu_125 260 rfl).2.2.1 j) (funext fun j => (fu_125 290 rfl).2.2.1 j)) (by omega) (by omega)) (c_X12_585 Cx rfl rfl (rmk_ok (by omega) (by decide))) hW (by decide) rfl rfl rfl hl.1 rfl (Nat.le_of_ble_eq_true rfl) dX12_goOn_234 ⟨Nat.le_of_ble_eq_true rfl, Nat.le_of_ble_eq_true rfl⟩) hL (fun u_155 H locs k_156 hW hL => ?_)
              obtain ⟨iu_155, fu_155, gu_155, xu_155⟩ := k_156
              have F_157 := F_128.trans fu_155
              have F_158 := F_129.trans fu_155
              have g_159 : FF S u_155 (fl [6, 58, 59, 60, 61, 62, 63, 65, 66, 67, 69, 71, 72, 78, 79, 84, 86]) := FF.trans g_130 (FF.to gu_155 (fl_sub (by decide)))
              have g_160 : FF S u_155 (fl [6, 58, 59, 60, 61, 62, 63, 65, 66, 67, 69, 71, 72, 78, 79, 84, 86]) := FF.trans g_131 (FF.to gu_155 (fl_sub (by decide)))
              refine lv_goto (tgt := 259) hx hb dX12_goOn_237 (by decide) ?_
              refine lv_goto (tgt := 0) hx hb dX12_goOn_259 (by decide) ?_
              exact ih_0 u_155  _ _ _ (Nat.lt_of_lt_of_le ((LD.of (S := S0) (X := u_125) xu_155 ((show u_125.1 231 65 = S0.1 231 65 from gu_125 65 rfl))).mz hs61 (by omega)) (Nat.le_of_lt_succ hmeas)) iu_155 F_157 F_158 g_159 g_160 (LD.of (S := S0) (X := u_125) xu_155 ((show u_125.1 231 65 = S0.1 231 65 from gu_125 65 rfl))).lg hW hL (lv_sub hl [1] rfl)
          · exact sVret Cx hr hlk hW hL ⟨iu_125, F_128, g_130, ⟨(by have y := (show u_125.1 231 61 = S0.1 231 61 from gu_125 61 rfl); omega), (fun _ => ⟨(GC.sm (S := S0) (u := u_125) hG (gu_125 46 rfl) (gu_125 47 rfl) (gu_125 48 rfl) (gu_125 58 rfl) (gu_125 59 rfl) (gu_125 60 rfl) (gu_125 63 rfl) (gu_125 65 rfl) (gu_125 68 rfl) (gu_125 69 rfl) (gu_125 78 rfl) (gu_125 79 rfl) (gu_125 84 rfl) (gu_125 86 rfl) (funext fun j => (fu_125 261 rfl).2.1 j) (funext fun j => (fu_125 262 rfl).2.1 j) (funext fun j => (fu_125 264 rfl).2.1 j) (funext fun j => (fu_125 265 rfl).2.1 j) (funext fun j => (fu_125 266 rfl).2.1 j) (funext fun j => (fu_125 267 rfl).2.1 j) (funext fun j => (fu_125 268 rfl).2.1 j) (funext fun j => (fu_125 269 rfl).2.1 j) (funext fun j => (fu_125 270 rfl).2.1 j) (funext fun j => (fu_125 271 rfl).2.1 j) (funext fun j => (fu_125 272 rfl).2.1 j) (funext fun j => (fu_125 273 rfl).2.1 j) (funext fun j => (fu_125 274 rfl).2.1 j) (funext fun j => (fu_125 260 rfl).2.2.1 j) (funext fun j => (fu_125 290 rfl).2.2.1 j)), (.inl ⟨(by rw [(show u_125.1 231 62 = S0.1 231 62 from gu_125 62 rfl)]; exact hs3.1), (show u_125.1 231 60 = S0.1 231 60 from gu_125 60 rfl).trans hs3.2⟩), ⟨(by have y1 := (show u_125.1 231 58 = S0.1 231 58 from gu_125 58 rfl); have y2 := xu_125.2.1 (by omega); omega), (by have y1 := (show u_125.1 231 59 = S0.1 231 59 from gu_125 59 rfl); have y2 := (xu_125.2.2 (by omega)).1; omega), (by rw [show u_125.2.1 262 = S0.2.1 262 from (funext fun j => (fu_125 262 rfl).2.1 j)]; have y2 := (xu_125.2.2 (by omega)).2; omega)⟩⟩), (fun q => absurd (by have y := (show u_125.1 231 61 = S0.1 231 61 from gu_125 61 rfl); omega) q)⟩⟩ dX12_goOn_228
        by_cases c_161 : S0.1 231 62 = 5
        · refine lv_tableIn (off := 164) (tgt := 176) hx hb dX12_goOn_12 (by rw [c_161]; decide) (by rw [c_161]; decide) (by rw [c_161]; decide) (by decide) ?_
          have hsa := hgi.2.s5 (by omega)
          unfold dSA at hsa
          refine lv_aload_n hx hb dX12_goOn_176 rfl (lv_at hl 0 rfl) ?_
          have q_162 : 0 ≤ S0.1 231 60 ∧ S0.1 231 60 ≤ 1 := hI0.fi 60
          have q_163 : (-2147483648) ≤ S0.1 231 59 ∧ S0.1 231 59 ≤ 2147483647 := hI0.fi 59
          refine sBv (sV (As := []) (rest := []) (k := 231) Cx (s_X12_dropPlace l G S0  hI0 hG.1.2.1 (by omega)) (c_X12_582 Cx rfl rfl (rmk_ok (by omega) (by decide))) hW (by decide) rfl rfl rfl hl.1 rfl (Nat.le_of_ble_eq_true rfl) dX12_goOn_177 ⟨Nat.le_of_ble_eq_true rfl, Nat.le_of_ble_eq_true rfl⟩) hL (fun u_164 H locs k_165 hW hL => ?_)
          obtain ⟨iu_164, fu_164, gu_164, xu_164⟩ := k_165
          have F_166 := hFm0.trans (fu_164.to (pl_sub (by decide)))
          have F_167 := hL0_.trans (fu_164.to (pl_sub (by decide)))
          have g_168 : FF S u_164 (fl [6, 58, 59, 60, 61, 62, 63, 65, 66, 67, 69, 71, 72, 78, 79, 84, 86]) := FF.trans hGm0 (FF.to gu_164 (fl_sub (by decide)))
          have g_169 : FF S u_164 (fl [6, 58, 59, 60, 61, 62, 63, 65, 66, 67, 69, 71, 72, 78, 79, 84, 86]) := FF.trans gL0_ (FF.to gu_164 (fl_sub (by decide)))
          refine lv_aload_n hx hb dX12_goOn_180 rfl (lv_at hl 0 rfl) ?_
          refine lv_iconst (v := iv 3) hx hb dX12_goOn_181 (by decide) ?_
          refine p_X12_532 Cx hW hL (k := 231) (by decide) rfl dX12_goOn_182 (fun H locs hW hL => ?_)
          have F_170 : Fr S (uF u_164 231 62 3) (pl [231, 233, 234, 235, 236, 237, 238, 239, 240, 241, 242, 261, 262, 263, 264, 265, 266, 267, 268, 269, 270, 271, 272, 273, 274, 275, 276, 277, 278, 279, 280, 281]) := F_166.F rfl
          have F_171 : Fr S (uF u_164 231 62 3) (pl [231, 233, 234, 235, 236, 237, 238, 239, 240, 241, 242, 261, 262, 263, 264, 265, 266, 267, 268, 269, 270, 271, 272, 273, 274, 275, 276, 277, 278, 279, 280, 281]) := F_167.F rfl
          have g_172 : FF S (uF u_164 231 62 3) (fl [6, 58, 59, 60, 61, 62, 63, 65, 66, 67, 69, 71, 72, 78, 79, 84, 86]) := FF.F g_168 rfl
          have g_173 : FF S (uF u_164 231 62 3) (fl [6, 58, 59, 60, 61, 62, 63, 65, 66, 67, 69, 71, 72, 78, 79, 84, 86]) := FF.F g_169 rfl
          have i_174 : dX G (uF u_164 231 62 3) := iu_164.F (i := 62) (show (-2147483648) ≤ 3 ∧ 3 ≤ 2147483647 from ⟨by omega, by omega⟩)
          refine lv_goto (tgt := 259) hx hb dX12_goOn_185 (by decide) ?_
          refine lv_goto (tgt := 0) hx hb dX12_goOn_259 (by decide) ?_
          exact ih_0 (uF u_164 231 62 3)  _ _ _ (Nat.lt_of_lt_of_le (mz2 (S := S0) hs61 (show (uF u_164 231 62 3).1 231 65 = S0.1 231 65 from (uF_ne (fun h => absurd h.2 (by decide))).trans (gu_164 65 rfl)) (by rw [(show (uF u_164 231 62 3).1 231 62 = 3 from uF_on), show S0.1 231 62 = 5 by omega]; decide)) (Nat.le_of_lt_succ hmeas)) i_174 F_170 F_171 g_172 g_173 ⟨(by have y := (show (uF u_164 231 62 3).1 231 61 = S0.1 231 61 from (uF_ne (fun h => absurd h.2 (by decide))).trans (gu_164 61 rfl)); omega), (fun _ => ⟨⟨⟨(MR.sm (S := S0) (u := (uF u_164 231 62 3)) hG.1.1 ((uF_ne (fun h => absurd h.2 (by decide))).trans (gu_164 46 rfl)) ((uF_ne (fun h => absurd h.2 (by decide))).trans (gu_164 47 rfl)) ((uF_ne (fun h => absurd h.2 (by decide))).trans (gu_164 63 rfl)) (funext fun j => (uF_a).trans ((fu_164 261 rfl).2.1 j)) (funext fun j => (uF_l).trans ((fu_164 260 rfl).2.2.1 j)) (funext fun j => (uF_l).trans ((fu_164 290 rfl).2.2.1 j))), (DOK.sm (S := u_164) (u := (uF u_164 231 62 3)) xu_164.1 (uF_ne (fun h => absurd h.2 (by decide))) (uF_ne (fun h => absurd h.2 (by decide))) (uF_ne (fun h => absurd h.2 (by decide))) (funext fun j => uF_a) (funext fun j => uF_a)), (BO.drop (S := S0) (u := (uF u_164 231 62 3)) hG.1.2.2.1 ((uF_ne (fun h => absurd h.2 (by decide))).trans (gu_164 46 rfl)) ((uF_ne (fun h => absurd h.2 (by decide))).trans (gu_164 58 rfl)) (by have y := (show (uF u_164 231 62 3).1 231 59 = u_164.1 231 59 from uF_ne (fun h => absurd h.2 (by decide))); omega) ((uF_ne (fun h => absurd h.2 (by decide))).trans (gu_164 63 rfl)) (by omega) (funext fun j => (uF_a).trans ((fu_164 265 rfl).2.1 j)) (by rw [show (uF u_164 231 62 3).2.1 266 = u_164.2.1 266 from (funext fun j => uF_a)]; exact xu_164.2.2.2)), (BB.sm (S := S0) (u := (uF u_164 231 62 3)) hG.1.2.2.2.1 ((uF_ne (fun h => absurd h.2 (by decide))).trans (gu_164 46 rfl)) ((uF_ne (fun h => absurd h.2 (by decide))).trans (gu_164 79 rfl)) (funext fun j => (uF_a).trans ((fu_164 272 rfl).2.1 j)) (funext fun j => (uF_a).trans ((fu_164 273 rfl).2.1 j)) (funext fun j => (uF_a).trans ((fu_164 274 rfl).2.1 j))), (dPS.sm (S := S0) (u := (uF u_164 231 62 3)) hG.1.2.2.2.2 ((uF_ne (fun h => absurd h.2 (by decide))).trans (gu_164 86 rfl)))⟩, (GX.sm (S := S0) (u := (uF u_164 231 62 3)) hG.2.1 ((uF_ne (fun h => absurd h.2 (by decide))).trans (gu_164 47 rfl)) ((uF_ne (fun h => absurd h.2 (by decide))).trans (gu_164 58 rfl)) ((uF_ne (fun h => absurd h.2 (by decide))).trans (gu_164 63 rfl)) ((uF_ne (fun h => absurd h.2 (by decide))).trans (gu_164 65 rfl)) ((uF_ne (fun h => absurd h.2 (by decide))).trans (gu_164 68 rfl)) ((uF_ne (fun h => absurd h.2 (by decide))).trans (gu_164 69 rfl)) ((uF_ne (fun h => absurd h.2 (by decide))).trans (gu_164 78 rfl)) ((uF_ne (fun h => absurd h.2 (by decide))).trans (gu_164 84 rfl))), (KE.sm (S := S0) (u := (uF u_164 231 62 3)) hG.2.2.1 ((uF_ne (fun h => absurd h.2 (by decide))).trans (gu_164 46 rfl)) ((uF_ne (fun h => absurd h.2 (by decide))).trans (gu_164 47 rfl)) ((uF_ne (fun h => absurd h.2 (by decide))).trans (gu_164 48 rfl)) ((uF_ne (fun h => absurd h.2 (by decide))).trans (gu_164 68 rfl)) ((uF_ne (fun h => absurd h.2 (by decide))).trans (gu_164 78 rfl)) (funext fun j => (uF_a).trans ((fu_164 267 rfl).2.1 j)) (funext fun j => (uF_a).trans ((fu_164 268 rfl).2.1 j)) (funext fun j => (uF_a).trans ((fu_164 269 rfl).2.1 j)) (funext fun j => (uF_a).trans ((fu_164 270 rfl).2.1 j)) (funext fun j => (uF_a).trans ((fu_164 271 rfl).2.1 j))), (CB.sm (S := S0) (u := (uF u_164 231 62 3)) hG.2.2.2 ((uF_ne (fun h => absurd h.2 (by decide))).trans (gu_164 46 rfl)) ((uF_ne (fun h => absurd h.2 (by decide))).trans (gu_164 48 rfl)) ((uF_ne (fun h => absurd h.2 (by decide))).trans (gu_164 63 rfl)) ((uF_ne (fun h => absurd h.2 (by decide))).trans (gu_164 68 rfl)) ((uF_ne (fun h => absurd h.2 (by decide))).trans (gu_164 69 rfl)) (funext fun j => (uF_a).trans ((fu_164 261 rfl).2.1 j)))⟩, .inl ⟨.inl (show (uF u_164 231 62 3).1 231 62 = 3 from uF_on), (by have y := (show (uF u_164 231 62 3).1 231 60 = u_164.1 231 60 from uF_ne (fun h => absurd h.2 (by decide))); omega)⟩⟩), (fun q => absurd (by have y := (show (uF u_164 231 62 3).1 231 61 = S0.1 231 61 from (uF_ne (fun h => absurd h.2 (by decide))).trans (gu_164 61 rfl)); omega) q)⟩ hW hL (lv_sub hl [0] rfl)
        refine lv_tableOut (tgt := 218) hx hb dX12_goOn_12 (by rw [iv_toInt ⟨(by omega), (by omega)⟩]; omega) (by decide) ?_
        have hs3 := hgi.2.s3 (by omega)
        refine lv_aload_n hx hb dX12_goOn_218 rfl (lv_at hl 0 rfl) ?_
        have q_175 : (-2147483648) ≤ S0.1 231 58 ∧ S0.1 231 58 ≤ 2147483647 := hI0.fi 58
        have q_176 : (-2147483648) ≤ S0.1 231 59 ∧ S0.1 231 59 ≤ 2147483647 := hI0.fi 59
        refine sBi (sV (As := []) (rest := []) (k := 231) Cx (s_X12_stepDown l G S0  hI0 hG.1.2.1) (c_X12_591 Cx rfl rfl (rmk_ok (by omega) (by decide))) hW (by decide) rfl rfl rfl hl.1 rfl (Nat.le_of_ble_eq_true rfl) dX12_goOn_219 ⟨Nat.le_of_ble_eq_true rfl, Nat.le_of_ble_eq_true rfl⟩) hL (fun r_179 u_177 H locs k_178 hW hL => ?_)
        obtain ⟨iu_177, fu_177, gu_177, xu_177⟩ := k_178
        have F_180 := hFm0.trans (fu_177.to (pl_sub (by decide)))
        have F_181 := hL0_.trans (fu_177.to (pl_sub (by decide)))
        have g_182 : FF S u_177 (fl [6, 58, 59, 60, 61, 62, 63, 65, 66, 67, 69, 71, 72, 78, 79, 84, 86]) := FF.trans hGm0 (FF.to gu_177 (fl_sub (by decide)))
        have g_183 : FF S u_177 (fl [6, 58, 59, 60, 61, 62, 63, 65, 66, 67, 69, 71, 72, 78, 79, 84, 86]) := FF.trans gL0_ (FF.to gu_177 (fl_sub (by decide)))
        refine lv_istore_n (lv' := [(1, .int (iv r_179)), (0, .ref (G.2.2.1 + 231))]) hx hb dX12_goOn_222 rfl hl (by decide) rfl (fun ls hl => ?_)
        refine lv_iload_n hx hb dX12_goOn_223 rfl (lv_at hl 0 rfl) ?_
        refine lv_iconst (v := iv 1) hx hb dX12_goOn_224 (by decide) ?_
        refine r_icmp_ne (tgt := 229) hx hb ⟨(by omega), (by omega)⟩ ⟨(by omega), (by omega)⟩ dX12_goOn_225 (by decide) (fun c_184 => ?_) (fun c_184 => ?_)
        · refine lv_iload_n hx hb dX12_goOn_229 rfl (lv_at hl 0 rfl) ?_
          refine r_if_ne (tgt := 240) hx hb ⟨(by omega), (by omega)⟩ dX12_goOn_230 (by decide) (fun c_185 => ?_) (fun c_185 => ?_)
          · have hbb9 := hG.1.2.2.1.1 (u_177.1 231 71) (xu_177.2.1 (by omega)).1 (xu_177.2.1 (by omega)).2
            have hpr9 := xu_177.2.1 (by omega)
            refine lv_aload_n hx hb dX12_goOn_240 rfl (lv_at hl 1 rfl) ?_
            refine lv_aload_n hx hb dX12_goOn_241 rfl (lv_at hl 1 rfl) ?_
            have q_186 : (-2147483648) ≤ u_177.1 231 71 ∧ u_177.1 231 71 ≤ 2147483647 := iu_177.fi 71
            refine g_X12_562 Cx hW (k := 231) (by decide) rfl (v := u_177.1 231 71) rfl dX12_goOn_242 ?_
            refine lv_iconst (v := iv 1) hx hb dX12_goOn_245 (by decide) ?_
            refine r_iadd hx hb dX12_goOn_246 ?_
            refine lv_aload_n hx hb dX12_goOn_247 rfl (lv_at hl 1 rfl) ?_
            refine g_X12_112 Cx hW (k := 231) (by decide) rfl (v := .ref (G.2.2.1 + 265)) (rd_56 iu_177) dX12_goOn_248 ?_
            refine lv_aload_n hx hb dX12_goOn_251 rfl (lv_at hl 1 rfl) ?_
            refine g_X12_562 Cx hW (k := 231) (by decide) rfl (v := u_177.1 231 71) rfl dX12_goOn_252 ?_
            refine rIald Cx hW (k := 265) (by decide) rfl (by decide) (by omega) (by omega) dX12_goOn_255 ?_
            have q_187 : (-2147483648) ≤ S0.2.1 265 (u_177.1 231 71) ∧ S0.2.1 265 (u_177.1 231 71) ≤ 2147483647 := hI0.ai 265 (u_177.1 231 71)
            refine r_i (b := S0.2.1 265 (u_177.1 231 71)) ((fu_177 265 rfl).2.1 (u_177.1 231 71)) ?_
            have q_188 : 0 ≤ S0.1 231 60 ∧ S0.1 231 60 ≤ 1 := hI0.fi 60
            have lk_189 : u_177.1 231 60 = S0.1 231 60 := gu_177 60 rfl
            have q_190 : (-2147483648) ≤ S0.1 231 78 ∧ S0.1 231 78 ≤ 2147483647 := hI0.fi 78
            have lk_191 : u_177.1 231 78 = S0.1 231 78 := gu_177 78 rfl
            have lk_192 : u_177.1 231 61 = S0.1 231 61 := gu_177 61 rfl
            have lk_193 : u_177.1 231 58 = S0.1 231 58 := gu_177 58 rfl
            have q_194 : (-2147483648) ≤ S.1 231 46 ∧ S.1 231 46 ≤ 2147483647 := hI.fi 46
            have lk_195 : u_177.1 231 46 = S.1 231 46 := (gu_177 46 rfl).trans (gL0_ 46 rfl)
            have q_196 : (-2147483648) ≤ S0.1 231 63 ∧ S0.1 231 63 ≤ 2147483647 := hI0.fi 63
            have lk_197 : u_177.1 231 63 = S0.1 231 63 := gu_177 63 rfl
            refine sBv (sV (As := [.int (iv ((u_177.1 231 71) + 1)), .int (iv (S0.2.1 265 (u_177.1 231 71)))]) (rest := []) (k := 231) Cx (s_X12_leafFarkas l G u_177 (ri := (u_177.1 231 71) + 1) (bb := S0.2.1 265 (u_177.1 231 71)) iu_177 (GC.sm (S := S0) (u := u_177) hG (gu_177 46 rfl) (gu_177 47 rfl) (gu_177 48 rfl) (gu_177 58 rfl) (gu_177 59 rfl) (gu_177 60 rfl) (gu_177 63 rfl) (gu_177 65 rfl) (gu_177 68 rfl) (gu_177 69 rfl) (gu_177 78 rfl) (gu_177 79 rfl) (gu_177 84 rfl) (gu_177 86 rfl) (funext fun j => (fu_177 261 rfl).2.1 j) (funext fun j => (fu_177 262 rfl).2.1 j) (funext fun j => (fu_177 264 rfl).2.1 j) (funext fun j => (fu_177 265 rfl).2.1 j) (funext fun j => (fu_177 266 rfl).2.1 j) (funext fun j => (fu_177 267 rfl).2.1 j) (funext fun j => (fu_177 268 rfl).2.1 j) (funext fun j => (fu_177 269 rfl).2.1 j) (funext fun j => (fu_177 270 rfl).2.1 j) (funext fun j => (fu_177 271 rfl).2.1 j) (funext fun j => (fu_177 272 rfl).2.1 j) (funext fun j => (fu_177 273 rfl).2.1 j) (funext fun j => (fu_177 274 rfl).2.1 j) (funext fun j => (fu_177 260 rfl).2.2.1 j) (funext fun j => (fu_177 290 rfl).2.2.1 j)) (by omega) (by omega) (by omega) (by omega)) (c_X12_575 Cx rfl rfl (rmk_ok (by omega) (by decide))) hW (by decide) rfl rfl rfl hl.1 rfl (Nat.le_of_ble_eq_true rfl) dX12_goOn_256 ⟨Nat.le_of_ble_eq_true rfl, Nat.le_of_ble_eq_true rfl⟩) hL (fun u_198 H locs k_199 hW hL => ?_)
            obtain ⟨iu_198, fu_198, gu_198, xu_198⟩ := k_199
            have F_200 := F_180.trans fu_198
            have F_201 := F_181.trans fu_198
            have g_202 : FF S u_198 (fl [6, 58, 59, 60, 61, 62, 63, 65, 66, 67, 69, 71, 72, 78, 79, 84, 86]) := FF.trans g_182 (FF.to gu_198 (fl_sub (by decide)))
            have g_203 : FF S u_198 (fl [6, 58, 59, 60, 61, 62, 63, 65, 66, 67, 69, 71, 72, 78, 79, 84, 86]) := FF.trans g_183 (FF.to gu_198 (fl_sub (by decide)))
            refine lv_goto (tgt := 0) hx hb dX12_goOn_259 (by decide) ?_
            exact ih_0 u_198  _ _ _ (Nat.lt_of_lt_of_le ((LD.of (S := S0) (X := u_177) xu_198 ((show u_177.1 231 65 = S0.1 231 65 from gu_177 65 rfl))).mz hs61 (by omega)) (Nat.le_of_lt_succ hmeas)) iu_198 F_200 F_201 g_202 g_203 (LD.of (S := S0) (X := u_177) xu_198 ((show u_177.1 231 65 = S0.1 231 65 from gu_177 65 rfl))).lg hW hL (lv_sub hl [1] rfl)
          · refine lv_aload_n hx hb dX12_goOn_233 rfl (lv_at hl 1 rfl) ?_
            have q_204 : 0 ≤ S0.1 231 60 ∧ S0.1 231 60 ≤ 1 := hI0.fi 60
            have lk_205 : u_177.1 231 60 = S0.1 231 60 := gu_177 60 rfl
            have lk_206 : u_177.1 231 61 = S0.1 231 61 := gu_177 61 rfl
            refine sBv (sV (As := []) (rest := []) (k := 231) Cx (s_X12_evaluate l G u_177  iu_177 (GC.sm (S := S0) (u := u_177) hG (gu_177 46 rfl) (gu_177 47 rfl) (gu_177 48 rfl) (gu_177 58 rfl) (gu_177 59 rfl) (gu_177 60 rfl) (gu_177 63 rfl) (gu_177 65 rfl) (gu_177 68 rfl) (gu_177 69 rfl) (gu_177 78 rfl) (gu_177 79 rfl) (gu_177 84 rfl) (gu_177 86 rfl) (funext fun j => (fu_177 261 rfl).2.1 j) (funext fun j => (fu_177 262 rfl).2.1 j) (funext fun j => (fu_177 264 rfl).2.1 j) (funext fun j => (fu_177 265 rfl).2.1 j) (funext fun j => (fu_177 266 rfl).2.1 j) (funext fun j => (fu_177 267 rfl).2.1 j) (funext fun j => (fu_177 268 rfl).2.1 j) (funext fun j => (fu_177 269 rfl).2.1 j) (funext fun j => (fu_177 270 rfl).2.1 j) (funext fun j => (fu_177 271 rfl).2.1 j) (funext fun j => (fu_177 272 rfl).2.1 j) (funext fun j => (fu_177 273 rfl).2.1 j) (funext fun j => (fu_177 274 rfl).2.1 j) (funext fun j => (fu_177 260 rfl).2.2.1 j) (funext fun j => (fu_177 290 rfl).2.2.1 j)) (by omega) (by omega)) (c_X12_585 Cx rfl rfl (rmk_ok (by omega) (by decide))) hW (by decide) rfl rfl rfl hl.1 rfl (Nat.le_of_ble_eq_true rfl) dX12_goOn_234 ⟨Nat.le_of_ble_eq_true rfl, Nat.le_of_ble_eq_true rfl⟩) hL (fun u_207 H locs k_208 hW hL => ?_)
            obtain ⟨iu_207, fu_207, gu_207, xu_207⟩ := k_208
            have F_209 := F_180.trans fu_207
            have F_210 := F_181.trans fu_207
            have g_211 : FF S u_207 (fl [6, 58, 59, 60, 61, 62, 63, 65, 66, 67, 69, 71, 72, 78, 79, 84, 86]) := FF.trans g_182 (FF.to gu_207 (fl_sub (by decide)))
            have g_212 : FF S u_207 (fl [6, 58, 59, 60, 61, 62, 63, 65, 66, 67, 69, 71, 72, 78, 79, 84, 86]) := FF.trans g_183 (FF.to gu_207 (fl_sub (by decide)))
            refine lv_goto (tgt := 259) hx hb dX12_goOn_237 (by decide) ?_
            refine lv_goto (tgt := 0) hx hb dX12_goOn_259 (by decide) ?_
            exact ih_0 u_207  _ _ _ (Nat.lt_of_lt_of_le ((LD.of (S := S0) (X := u_177) xu_207 ((show u_177.1 231 65 = S0.1 231 65 from gu_177 65 rfl))).mz hs61 (by omega)) (Nat.le_of_lt_succ hmeas)) iu_207 F_209 F_210 g_211 g_212 (LD.of (S := S0) (X := u_177) xu_207 ((show u_177.1 231 65 = S0.1 231 65 from gu_177 65 rfl))).lg hW hL (lv_sub hl [1] rfl)
        · exact sVret Cx hr hlk hW hL ⟨iu_177, F_180, g_182, ⟨(by have y := (show u_177.1 231 61 = S0.1 231 61 from gu_177 61 rfl); omega), (fun _ => ⟨(GC.sm (S := S0) (u := u_177) hG (gu_177 46 rfl) (gu_177 47 rfl) (gu_177 48 rfl) (gu_177 58 rfl) (gu_177 59 rfl) (gu_177 60 rfl) (gu_177 63 rfl) (gu_177 65 rfl) (gu_177 68 rfl) (gu_177 69 rfl) (gu_177 78 rfl) (gu_177 79 rfl) (gu_177 84 rfl) (gu_177 86 rfl) (funext fun j => (fu_177 261 rfl).2.1 j) (funext fun j => (fu_177 262 rfl).2.1 j) (funext fun j => (fu_177 264 rfl).2.1 j) (funext fun j => (fu_177 265 rfl).2.1 j) (funext fun j => (fu_177 266 rfl).2.1 j) (funext fun j => (fu_177 267 rfl).2.1 j) (funext fun j => (fu_177 268 rfl).2.1 j) (funext fun j => (fu_177 269 rfl).2.1 j) (funext fun j => (fu_177 270 rfl).2.1 j) (funext fun j => (fu_177 271 rfl).2.1 j) (funext fun j => (fu_177 272 rfl).2.1 j) (funext fun j => (fu_177 273 rfl).2.1 j) (funext fun j => (fu_177 274 rfl).2.1 j) (funext fun j => (fu_177 260 rfl).2.2.1 j) (funext fun j => (fu_177 290 rfl).2.2.1 j)), (.inl ⟨(by rw [(show u_177.1 231 62 = S0.1 231 62 from gu_177 62 rfl)]; exact hs3.1), (show u_177.1 231 60 = S0.1 231 60 from gu_177 60 rfl).trans hs3.2⟩), ⟨(by have y1 := (show u_177.1 231 58 = S0.1 231 58 from gu_177 58 rfl); have y2 := xu_177.2.1 (by omega); omega), (by have y1 := (show u_177.1 231 59 = S0.1 231 59 from gu_177 59 rfl); have y2 := (xu_177.2.2 (by omega)).1; omega), (by rw [show u_177.2.1 262 = S0.2.1 262 from (funext fun j => (fu_177 262 rfl).2.1 j)]; have y2 := (xu_177.2.2 (by omega)).2; omega)⟩⟩), (fun q => absurd (by have y := (show u_177.1 231 61 = S0.1 231 61 from gu_177 61 rfl); omega) q)⟩⟩ dX12_goOn_228
  exact loop_0 (_ + 1) S  _ _ _ (Nat.lt_succ_self _) hI (Fr.rf : Fr S S (pl [231, 233, 234, 235, 236, 237, 238, 239, 240, 241, 242, 261, 262, 263, 264, 265, 266, 267, 268, 269, 270, 271, 272, 273, 274, 275, 276, 277, 278, 279, 280, 281])) Fr.rf FF.rf FF.rf ⟨(by omega), (fun _ => hGI), (fun q => absurd hst q)⟩ hW hL (lv_sub hl [0] rfl)

set_option maxRecDepth 100000 in
set_option maxHeartbeats 4000000 in
theorem s_X12_work (l : Launch) (G : sG) (S : sS) {ct : Int} (hI : dX G S) (hct : -2147483648 ≤ ct ∧ ct ≤ 2147483647) (hXI : XI S) : Met l yX12_work (.code yX12_work cX12_work 3 (some .int) :: tb) (rmk 13 0 0) (sPc G 294 S [.ref (G.2.2.1 + 231), .int (iv ct)]) (sQi G 294 (fun r u => dX G u ∧ Fr S u (pl [231, 233, 234, 235, 236, 237, 238, 239, 240, 241, 242, 261, 262, 263, 264, 265, 266, 267, 268, 269, 270, 271, 272, 273, 274, 275, 276, 277, 278, 279, 280, 281]) ∧ FF S u (fl [6, 58, 59, 60, 61, 62, 63, 64, 65, 66, 67, 69, 70, 71, 72, 78, 79, 84, 86]) ∧ (XI u ∧ (-1 ≤ r ∧ r ≤ 500)))) 0 0 (sF G) := by
  refine sEnter (by decide) (Nat.le_of_ble_eq_true rfl) ?_
  intro p e s m args below meth c Cx hr hlk hnm hW ls hl
  have Cx : sC G p m c cX12_work 3 s args RX12 := Cx
  obtain ⟨hx, hb, hml, hown, hts⟩ := id Cx.1
  have hL : sL G [] := sL_nil
  have hl : lv_has ls 3 [(0, .ref (G.2.2.1 + 231)), (1, .int (iv ct))] := hl
  have hW0 := hW
  refine lv_iload_n hx hb dX12_work_0 rfl (lv_at hl 1 rfl) ?_
  refine lv_iconst (v := iv 1) hx hb dX12_work_1 (by decide) ?_
  refine r_icmp_lt (tgt := 12) hx hb ⟨(by omega), (by omega)⟩ ⟨(by omega), (by omega)⟩ dX12_work_2 (by decide) (fun c_1 => ?_) (fun c_1 => ?_)
  · refine lv_iconst (v := iv (-1)) hx hb dX12_work_12 (by decide) ?_
    exact sIret Cx hr hlk hW hL ⟨hI, (Fr.rf : Fr S S (pl [231, 233, 234, 235, 236, 237, 238, 239, 240, 241, 242, 261, 262, 263, 264, 265, 266, 267, 268, 269, 270, 271, 272, 273, 274, 275, 276, 277, 278, 279, 280, 281])), FF.rf, ⟨hXI, (by omega)⟩⟩ dX12_work_13
  · refine lv_iload_n hx hb dX12_work_5 rfl (lv_at hl 1 rfl) ?_
    refine lv_sipush (v := iv 500) hx hb dX12_work_6 (by decide) ?_
    refine r_icmp_le (tgt := 14) hx hb ⟨(by omega), (by omega)⟩ ⟨(by omega), (by omega)⟩ dX12_work_9 (by decide) (fun c_2 => ?_) (fun c_2 => ?_)
    · refine lv_aload_n hx hb dX12_work_14 rfl (lv_at hl 0 rfl) ?_
      have q_3 : (-2147483648) ≤ S.1 231 61 ∧ S.1 231 61 ≤ 2147483647 := hI.fi 61
      refine g_X12_477 Cx hW (k := 231) (by decide) rfl (v := S.1 231 61) rfl dX12_work_15 ?_
      refine lv_iconst (v := iv 1) hx hb dX12_work_18 (by decide) ?_
      refine r_icmp_eq (tgt := 24) hx hb ⟨(by omega), (by omega)⟩ ⟨(by omega), (by omega)⟩ dX12_work_19 (by decide) (fun c_4 => ?_) (fun c_4 => ?_)
      · refine lv_aload_n hx hb dX12_work_24 rfl (lv_at hl 0 rfl) ?_
        have q_5 : 0 ≤ S.1 231 70 ∧ S.1 231 70 ≤ 1 := hI.fi 70
        refine g_X12_517 Cx hW (k := 231) (by decide) rfl (v := S.1 231 70) rfl dX12_work_25 ?_
        refine r_if_ne (tgt := 35) hx hb ⟨(by omega), (by omega)⟩ dX12_work_28 (by decide) (fun c_6 => ?_) (fun c_6 => ?_)
        · refine lv_aload_n hx hb dX12_work_35 rfl (lv_at hl 0 rfl) ?_
          refine lv_iconst (v := iv 1) hx hb dX12_work_36 (by decide) ?_
          refine p_X12_517 Cx hW hL (k := 231) (by decide) rfl (by omega) dX12_work_37 (fun H locs hW hL => ?_)
          have F_7 : Fr S (uF S 231 70 1) (pl [231, 233, 234, 235, 236, 237, 238, 239, 240, 241, 242, 261, 262, 263, 264, 265, 266, 267, 268, 269, 270, 271, 272, 273, 274, 275, 276, 277, 278, 279, 280, 281]) := (Fr.rf : Fr S S (pl [231, 233, 234, 235, 236, 237, 238, 239, 240, 241, 242, 261, 262, 263, 264, 265, 266, 267, 268, 269, 270, 271, 272, 273, 274, 275, 276, 277, 278, 279, 280, 281])).F rfl
          have g_8 : FF S (uF S 231 70 1) (fl [6, 58, 59, 60, 61, 62, 63, 64, 65, 66, 67, 69, 70, 71, 72, 78, 79, 84, 86]) := FF.F FF.rf rfl
          have i_9 : dX G (uF S 231 70 1) := hI.F (i := 70) (show 0 ≤ 1 ∧ 1 ≤ 1 from ⟨by omega, by omega⟩)
          refine lv_iconst (v := iv 0) hx hb dX12_work_40 (by decide) ?_
          refine lv_istore_n (lv' := [(2, .int (iv 0)), (0, .ref (G.2.2.1 + 231)), (1, .int (iv ct))]) hx hb dX12_work_41 rfl hl (by decide) rfl (fun ls hl => ?_)
          have loop_42 : ∀ (fuel : Nat) (S42 : sS) (k : Int) (H : Heap) (locs : List Loc) (ls : Array Slot), (ct - k).toNat < fuel → (dX G S42) → (Fr S S42 (pl [231, 233, 234, 235, 236, 237, 238, 239, 240, 241, 242, 261, 262, 263, 264, 265, 266, 267, 268, 269, 270, 271, 272, 273, 274, 275, 276, 277, 278, 279, 280, 281])) → (Fr ((uF S 231 70 1)) S42 (pl [231, 233, 234, 235, 236, 237, 238, 239, 240, 241, 242, 261, 262, 263, 264, 265, 266, 267, 268, 269, 270, 271, 272, 273, 274, 275, 276, 277, 278, 279, 280, 281])) → (FF S S42 (fl [6, 58, 59, 60, 61, 62, 63, 64, 65, 66, 67, 69, 70, 71, 72, 78, 79, 84, 86])) → (FF ((uF S 231 70 1)) S42 (fl [6, 58, 59, 60, 61, 62, 63, 64, 65, 66, 67, 69, 70, 71, 72, 78, 79, 84, 86])) → (0 ≤ k ∧ k ≤ ct) → (GD S42) → (S42.1 231 70 = 1) → sW G 294 S42 H → sL G locs → lv_has ls 3 [(2, .int (iv k)), (0, .ref (G.2.2.1 + 231)), (1, .int (iv ct))] → W p l e (rmk 13 0 0) s m args below meth c H locs 0 0 (MQ below (sQi G 294 (fun r u => dX G u ∧ Fr S u (pl [231, 233, 234, 235, 236, 237, 238, 239, 240, 241, 242, 261, 262, 263, 264, 265, 266, 267, 268, 269, 270, 271, 272, 273, 274, 275, 276, 277, 278, 279, 280, 281]) ∧ FF S u (fl [6, 58, 59, 60, 61, 62, 63, 64, 65, 66, 67, 69, 70, 71, 72, 78, 79, 84, 86]) ∧ (XI u ∧ (-1 ≤ r ∧ r ≤ 500)))) args s 0 0 (sF G)) (F0 m 42 ls []) := by
            intro fuel
            induction fuel with
            | zero => intro S42 k H locs ls hmeas hI42 hFm42 hL42_ hGm42 gL42_ hk hGD h70 hW hL hl; exact absurd hmeas (Nat.not_lt_zero _)
            | succ fuel ih_42 =>
              intro S42 k H locs ls hmeas hI42 hFm42 hL42_ hGm42 gL42_ hk hGD h70 hW hL hl
              refine lv_iload_n hx hb dX12_work_42 rfl (lv_at hl 0 rfl) ?_
              refine lv_iload_n hx hb dX12_work_43 rfl (lv_at hl 2 rfl) ?_
              refine r_icmp_ge (tgt := 98) hx hb ⟨(by omega), (by omega)⟩ ⟨(by omega), (by omega)⟩ dX12_work_44 (by decide) (fun c_10 => ?_) (fun c_10 => ?_)
              · refine lv_iload_n hx hb dX12_work_98 rfl (lv_at hl 0 rfl) ?_
                exact sIret Cx hr hlk hW hL ⟨hI42, hFm42, hGm42, ⟨hGD.xi h70, (by omega)⟩⟩ dX12_work_99
              · refine lv_aload_n hx hb dX12_work_47 rfl (lv_at hl 1 rfl) ?_
                have q_11 : (-2147483648) ≤ S42.1 231 61 ∧ S42.1 231 61 ≤ 2147483647 := hI42.fi 61
                refine g_X12_477 Cx hW (k := 231) (by decide) rfl (v := S42.1 231 61) rfl dX12_work_48 ?_
                refine lv_iconst (v := iv 1) hx hb dX12_work_51 (by decide) ?_
                refine r_icmp_ne (tgt := 98) hx hb ⟨(by omega), (by omega)⟩ ⟨(by omega), (by omega)⟩ dX12_work_52 (by decide) (fun c_12 => ?_) (fun c_12 => ?_)
                · refine lv_iload_n hx hb dX12_work_98 rfl (lv_at hl 0 rfl) ?_
                  exact sIret Cx hr hlk hW hL ⟨hI42, hFm42, hGm42, ⟨hGD.xi h70, (by omega)⟩⟩ dX12_work_99
                · have hgq := hGD.2.1 (by omega)
                  have hp1 := hgq.2.2.1
                  have hp2 := hgq.2.2.2.1
                  refine lv_aload_n hx hb dX12_work_55 rfl (lv_at hl 1 rfl) ?_
                  refine lv_aload_n hx hb dX12_work_56 rfl (lv_at hl 1 rfl) ?_
                  have q_13 : (-2147483648) ≤ S42.1 231 71 ∧ S42.1 231 71 ≤ 2147483647 := hI42.fi 71
                  refine g_X12_562 Cx hW (k := 231) (by decide) rfl (v := S42.1 231 71) rfl dX12_work_57 ?_
                  refine lv_aload_n hx hb dX12_work_60 rfl (lv_at hl 1 rfl) ?_
                  have q_14 : (-2147483648) ≤ S42.1 231 72 ∧ S42.1 231 72 ≤ 2147483647 := hI42.fi 72
                  refine g_X12_555 Cx hW (k := 231) (by decide) rfl (v := S42.1 231 72) rfl dX12_work_61 ?_
                  have q_15 : (-2147483648) ≤ S42.1 231 58 ∧ S42.1 231 58 ≤ 2147483647 := hI42.fi 58
                  have q_16 : (-2147483648) ≤ S42.1 231 59 ∧ S42.1 231 59 ≤ 2147483647 := hI42.fi 59
                  refine sBi (sV (As := [.int (iv (S42.1 231 71)), .int (iv (S42.1 231 72))]) (rest := []) (k := 231) Cx (s_X12_pivot l G S42 (rr := S42.1 231 71) (ss := S42.1 231 72) hI42 hgq.1.1.2.1 (by omega) hgq.2.2.2.2) (c_X12_568 Cx rfl rfl (rmk_ok (by omega) (by decide))) hW (by decide) rfl rfl rfl hl.1 rfl (Nat.le_of_ble_eq_true rfl) dX12_work_64 ⟨Nat.le_of_ble_eq_true rfl, Nat.le_of_ble_eq_true rfl⟩) hL (fun r_19 u_17 H locs k_18 hW hL => ?_)
                  obtain ⟨iu_17, fu_17, gu_17, xu_17⟩ := k_18
                  have F_20 := hFm42.trans (fu_17.to (pl_sub (by decide)))
                  have F_21 := hL42_.trans (fu_17.to (pl_sub (by decide)))
                  have g_22 : FF S u_17 (fl [6, 58, 59, 60, 61, 62, 63, 64, 65, 66, 67, 69, 70, 71, 72, 78, 79, 84, 86]) := FF.trans hGm42 (FF.to gu_17 (fl_sub (by decide)))
                  have g_23 : FF ((uF S 231 70 1)) u_17 (fl [6, 58, 59, 60, 61, 62, 63, 64, 65, 66, 67, 69, 70, 71, 72, 78, 79, 84, 86]) := FF.trans gL42_ (FF.to gu_17 (fl_sub (by decide)))
                  refine r_if_ne (tgt := 78) hx hb ⟨(by omega), (by omega)⟩ dX12_work_67 (by decide) (fun c_24 => ?_) (fun c_24 => ?_)
                  · obtain ⟨tn, htn, hpn, hPV⟩ := xu_17.2.2.1 (by omega)
                    refine lv_aload_n hx hb dX12_work_78 rfl (lv_at hl 1 rfl) ?_
                    refine lv_dup hx hb dX12_work_79 rfl ?_
                    have q_25 : (-2147483648) ≤ S42.1 231 64 ∧ S42.1 231 64 ≤ 2147483647 := hI42.fi 64
                    refine g_X12_496 Cx hW (k := 231) (by decide) rfl (v := S42.1 231 64) (gu_17 64 rfl) dX12_work_80 ?_
                    refine lv_iconst (v := iv 1) hx hb dX12_work_83 (by decide) ?_
                    refine r_iadd hx hb dX12_work_84 ?_
                    obtain ⟨z_26, ez_26, hz_26, kz_26⟩ := iv_of (iv ((S42.1 231 64) + 1))
                    rw [ez_26]
                    refine p_X12_496 Cx hW hL (k := 231) (by decide) rfl dX12_work_85 (fun H locs hW hL => ?_)
                    have F_27 : Fr S (uF u_17 231 64 z_26) (pl [231, 233, 234, 235, 236, 237, 238, 239, 240, 241, 242, 261, 262, 263, 264, 265, 266, 267, 268, 269, 270, 271, 272, 273, 274, 275, 276, 277, 278, 279, 280, 281]) := F_20.F rfl
                    have F_28 : Fr ((uF S 231 70 1)) (uF u_17 231 64 z_26) (pl [231, 233, 234, 235, 236, 237, 238, 239, 240, 241, 242, 261, 262, 263, 264, 265, 266, 267, 268, 269, 270, 271, 272, 273, 274, 275, 276, 277, 278, 279, 280, 281]) := F_21.F rfl
                    have g_29 : FF S (uF u_17 231 64 z_26) (fl [6, 58, 59, 60, 61, 62, 63, 64, 65, 66, 67, 69, 70, 71, 72, 78, 79, 84, 86]) := FF.F g_22 rfl
                    have g_30 : FF ((uF S 231 70 1)) (uF u_17 231 64 z_26) (fl [6, 58, 59, 60, 61, 62, 63, 64, 65, 66, 67, 69, 70, 71, 72, 78, 79, 84, 86]) := FF.F g_23 rfl
                    have i_31 : dX G (uF u_17 231 64 z_26) := iu_17.F (i := 64) (show (-2147483648) ≤ z_26 ∧ z_26 ≤ 2147483647 from ⟨by omega, by omega⟩)
                    refine lv_iinc (v := iv (k + 1)) (lv' := [(2, .int (iv (k + 1))), (0, .ref (G.2.2.1 + 231)), (1, .int (iv ct))]) hx hb dX12_work_88 hl (k := 0) rfl ((Int32.ofInt_add _ _).symm) (by decide) rfl (fun ls hl => ?_)
                    refine lv_aload_n hx hb dX12_work_91 rfl (lv_at hl 1 rfl) ?_
                    have lk_32 : (uF u_17 231 64 z_26).1 231 61 = S42.1 231 61 := (uF_ne (fun h => absurd h.2 (by decide))).trans (gu_17 61 rfl)
                    refine sBv (sV (As := []) (rest := []) (k := 231) Cx (s_X12_goOn l G (uF u_17 231 64 z_26)  i_31 ⟨⟨⟨(MR.sm (S := S42) (u := (uF u_17 231 64 z_26)) hgq.1.1.1 ((uF_ne (fun h => absurd h.2 (by decide))).trans (gu_17 46 rfl)) ((uF_ne (fun h => absurd h.2 (by decide))).trans (gu_17 47 rfl)) ((uF_ne (fun h => absurd h.2 (by decide))).trans (gu_17 63 rfl)) (funext fun j => (uF_a).trans ((fu_17 261 rfl).2.1 j)) (funext fun j => (uF_l).trans ((fu_17 260 rfl).2.2.1 j)) (funext fun j => (uF_l).trans ((fu_17 290 rfl).2.2.1 j))), (DOK.sm (S := u_17) (u := (uF u_17 231 64 z_26)) xu_17.2.1 (uF_ne (fun h => absurd h.2 (by decide))) (uF_ne (fun h => absurd h.2 (by decide))) (uF_ne (fun h => absurd h.2 (by decide))) (funext fun j => uF_a) (funext fun j => uF_a)), (BO.sm (S := u_17) (u := (uF u_17 231 64 z_26)) (BO.pv (S := S42) (u := u_17) hgq.1.1.2.2.1 hPV (by omega) (by omega) (gu_17 46 rfl) (gu_17 58 rfl) (gu_17 59 rfl) (gu_17 63 rfl)) (uF_ne (fun h => absurd h.2 (by decide))) (uF_ne (fun h => absurd h.2 (by decide))) (uF_ne (fun h => absurd h.2 (by decide))) (uF_ne (fun h => absurd h.2 (by decide))) (funext fun j => uF_a) (funext fun j => uF_a)), (BB.sm (S := S42) (u := (uF u_17 231 64 z_26)) hgq.1.1.2.2.2.1 ((uF_ne (fun h => absurd h.2 (by decide))).trans (gu_17 46 rfl)) ((uF_ne (fun h => absurd h.2 (by decide))).trans (gu_17 79 rfl)) (funext fun j => (uF_a).trans ((fu_17 272 rfl).2.1 j)) (funext fun j => (uF_a).trans ((fu_17 273 rfl).2.1 j)) (funext fun j => (uF_a).trans ((fu_17 274 rfl).2.1 j))), (dPS.sm (S := S42) (u := (uF u_17 231 64 z_26)) hgq.1.1.2.2.2.2 ((uF_ne (fun h => absurd h.2 (by decide))).trans (gu_17 86 rfl)))⟩, (GX.sm (S := S42) (u := (uF u_17 231 64 z_26)) hgq.1.2.1 ((uF_ne (fun h => absurd h.2 (by decide))).trans (gu_17 47 rfl)) ((uF_ne (fun h => absurd h.2 (by decide))).trans (gu_17 58 rfl)) ((uF_ne (fun h => absurd h.2 (by decide))).trans (gu_17 63 rfl)) ((uF_ne (fun h => absurd h.2 (by decide))).trans (gu_17 65 rfl)) ((uF_ne (fun h => absurd h.2 (by decide))).trans (gu_17 68 rfl)) ((uF_ne (fun h => absurd h.2 (by decide))).trans (gu_17 69 rfl)) ((uF_ne (fun h => absurd h.2 (by decide))).trans (gu_17 78 rfl)) ((uF_ne (fun h => absurd h.2 (by decide))).trans (gu_17 84 rfl))), (KE.sm (S := S42) (u := (uF u_17 231 64 z_26)) hgq.1.2.2.1 ((uF_ne (fun h => absurd h.2 (by decide))).trans (gu_17 46 rfl)) ((uF_ne (fun h => absurd h.2 (by decide))).trans (gu_17 47 rfl)) ((uF_ne (fun h => absurd h.2 (by decide))).trans (gu_17 48 rfl)) ((uF_ne (fun h => absurd h.2 (by decide))).trans (gu_17 68 rfl)) ((uF_ne (fun h => absurd h.2 (by decide))).trans (gu_17 78 rfl)) (funext fun j => (uF_a).trans ((fu_17 267 rfl).2.1 j)) (funext fun j => (uF_a).trans ((fu_17 268 rfl).2.1 j)) (funext fun j => (uF_a).trans ((fu_17 269 rfl).2.1 j)) (funext fun j => (uF_a).trans ((fu_17 270 rfl).2.1 j)) (funext fun j => (uF_a).trans ((fu_17 271 rfl).2.1 j))), (CB.sm (S := S42) (u := (uF u_17 231 64 z_26)) hgq.1.2.2.2 ((uF_ne (fun h => absurd h.2 (by decide))).trans (gu_17 46 rfl)) ((uF_ne (fun h => absurd h.2 (by decide))).trans (gu_17 48 rfl)) ((uF_ne (fun h => absurd h.2 (by decide))).trans (gu_17 63 rfl)) ((uF_ne (fun h => absurd h.2 (by decide))).trans (gu_17 68 rfl)) ((uF_ne (fun h => absurd h.2 (by decide))).trans (gu_17 69 rfl)) (funext fun j => (uF_a).trans ((fu_17 261 rfl).2.1 j)))⟩, (ST.sm (S := u_17) (u := (uF u_17 231 64 z_26)) (ST.pv (S := S42) (u := u_17) hgq.2.1 hgq.1.1.2.1 ⟨(fun i => gu_17 i rfl), (fun x => (fu_17 290 rfl).2.2.1 x)⟩ (by omega) (by omega) htn hpn hPV) (uF_ne (fun h => absurd h.2 (by decide))) (uF_ne (fun h => absurd h.2 (by decide))) (uF_ne (fun h => absurd h.2 (by decide))) (uF_ne (fun h => absurd h.2 (by decide))) (uF_ne (fun h => absurd h.2 (by decide))) (uF_ne (fun h => absurd h.2 (by decide))) (uF_ne (fun h => absurd h.2 (by decide))) (funext fun j => uF_a) (funext fun j => uF_a) (funext fun j => uF_a) (funext fun j => uF_a) (funext fun j => uF_l))⟩ (by omega)) (c_X12_565 Cx rfl rfl (rmk_ok (by omega) (by decide))) hW (by decide) rfl rfl rfl hl.1 rfl (Nat.le_of_ble_eq_true rfl) dX12_work_92 ⟨Nat.le_of_ble_eq_true rfl, Nat.le_of_ble_eq_true rfl⟩) hL (fun u_33 H locs k_34 hW hL => ?_)
                    obtain ⟨iu_33, fu_33, gu_33, xu_33⟩ := k_34
                    have F_35 := F_27.trans fu_33
                    have F_36 := F_28.trans fu_33
                    have g_37 : FF S u_33 (fl [6, 58, 59, 60, 61, 62, 63, 64, 65, 66, 67, 69, 70, 71, 72, 78, 79, 84, 86]) := FF.trans g_29 (FF.to gu_33 (fl_sub (by decide)))
                    have g_38 : FF ((uF S 231 70 1)) u_33 (fl [6, 58, 59, 60, 61, 62, 63, 64, 65, 66, 67, 69, 70, 71, 72, 78, 79, 84, 86]) := FF.trans g_30 (FF.to gu_33 (fl_sub (by decide)))
                    refine lv_goto (tgt := 42) hx hb dX12_work_95 (by decide) ?_
                    have q_39 : 0 ≤ S42.1 231 70 ∧ S42.1 231 70 ≤ 1 := hI42.fi 70
                    have lk_40 : u_33.1 231 70 = S42.1 231 70 := (gu_33 70 rfl).trans ((uF_ne (fun h => absurd h.2 (by decide))).trans (gu_17 70 rfl))
                    exact ih_42 u_33 (k + 1) _ _ _ (by omega) iu_33 F_35 F_36 g_37 g_38 (by omega) xu_33 (by omega) hW hL (lv_sub hl [0, 1, 2] rfl)
                  · refine lv_aload_n hx hb dX12_work_70 rfl (lv_at hl 1 rfl) ?_
                    refine lv_iconst (v := iv 5) hx hb dX12_work_71 (by decide) ?_
                    refine p_X12_477 Cx hW hL (k := 231) (by decide) rfl dX12_work_72 (fun H locs hW hL => ?_)
                    have F_41 : Fr S (uF u_17 231 61 5) (pl [231, 233, 234, 235, 236, 237, 238, 239, 240, 241, 242, 261, 262, 263, 264, 265, 266, 267, 268, 269, 270, 271, 272, 273, 274, 275, 276, 277, 278, 279, 280, 281]) := F_20.F rfl
                    have F_42 : Fr ((uF S 231 70 1)) (uF u_17 231 61 5) (pl [231, 233, 234, 235, 236, 237, 238, 239, 240, 241, 242, 261, 262, 263, 264, 265, 266, 267, 268, 269, 270, 271, 272, 273, 274, 275, 276, 277, 278, 279, 280, 281]) := F_21.F rfl
                    have g_43 : FF S (uF u_17 231 61 5) (fl [6, 58, 59, 60, 61, 62, 63, 64, 65, 66, 67, 69, 70, 71, 72, 78, 79, 84, 86]) := FF.F g_22 rfl
                    have g_44 : FF ((uF S 231 70 1)) (uF u_17 231 61 5) (fl [6, 58, 59, 60, 61, 62, 63, 64, 65, 66, 67, 69, 70, 71, 72, 78, 79, 84, 86]) := FF.F g_23 rfl
                    have i_45 : dX G (uF u_17 231 61 5) := iu_17.F (i := 61) (show (-2147483648) ≤ 5 ∧ 5 ≤ 2147483647 from ⟨by omega, by omega⟩)
                    refine lv_goto (tgt := 98) hx hb dX12_work_75 (by decide) ?_
                    refine lv_iload_n hx hb dX12_work_98 rfl (lv_at hl 0 rfl) ?_
                    exact sIret Cx hr hlk hW hL ⟨i_45, F_41, g_43, ⟨EI.xi ⟨(MR.sm (S := S42) (u := (uF u_17 231 61 5)) hgq.1.1.1 ((uF_ne (fun h => absurd h.2 (by decide))).trans (gu_17 46 rfl)) ((uF_ne (fun h => absurd h.2 (by decide))).trans (gu_17 47 rfl)) ((uF_ne (fun h => absurd h.2 (by decide))).trans (gu_17 63 rfl)) (funext fun j => (uF_a).trans ((fu_17 261 rfl).2.1 j)) (funext fun j => (uF_l).trans ((fu_17 260 rfl).2.2.1 j)) (funext fun j => (uF_l).trans ((fu_17 290 rfl).2.2.1 j))), (DOK.sm (S := u_17) (u := (uF u_17 231 61 5)) xu_17.2.1 (uF_ne (fun h => absurd h.2 (by decide))) (uF_ne (fun h => absurd h.2 (by decide))) (uF_ne (fun h => absurd h.2 (by decide))) (funext fun j => uF_a) (funext fun j => uF_a)), (BO.sm (S := S42) (u := (uF u_17 231 61 5)) hgq.1.1.2.2.1 ((uF_ne (fun h => absurd h.2 (by decide))).trans (gu_17 46 rfl)) ((uF_ne (fun h => absurd h.2 (by decide))).trans (gu_17 58 rfl)) ((uF_ne (fun h => absurd h.2 (by decide))).trans (gu_17 59 rfl)) ((uF_ne (fun h => absurd h.2 (by decide))).trans (gu_17 63 rfl)) (funext fun j => by rw [show (uF u_17 231 61 5).2.1 265 = u_17.2.1 265 from (funext fun j => uF_a), (xu_17.2.2.2 (by omega)).1]) (funext fun j => by rw [show (uF u_17 231 61 5).2.1 266 = u_17.2.1 266 from (funext fun j => uF_a), (xu_17.2.2.2 (by omega)).2])), (BB.sm (S := S42) (u := (uF u_17 231 61 5)) hgq.1.1.2.2.2.1 ((uF_ne (fun h => absurd h.2 (by decide))).trans (gu_17 46 rfl)) ((uF_ne (fun h => absurd h.2 (by decide))).trans (gu_17 79 rfl)) (funext fun j => (uF_a).trans ((fu_17 272 rfl).2.1 j)) (funext fun j => (uF_a).trans ((fu_17 273 rfl).2.1 j)) (funext fun j => (uF_a).trans ((fu_17 274 rfl).2.1 j))), (dPS.sm (S := S42) (u := (uF u_17 231 61 5)) hgq.1.1.2.2.2.2 ((uF_ne (fun h => absurd h.2 (by decide))).trans (gu_17 86 rfl)))⟩ (by have y := (show (uF u_17 231 61 5).1 231 61 = 5 from uF_on); omega), (by omega)⟩⟩ dX12_work_99
          have lk_46 : (uF S 231 70 1).1 231 70 = 1 := uF_on
          exact loop_42 (_ + 1) (uF S 231 70 1) 0 _ _ _ (Nat.lt_succ_self _) i_9 F_7 Fr.rf g_8 FF.rf (by omega) ⟨(by have y := (show (uF S 231 70 1).1 231 61 = S.1 231 61 from uF_ne (fun h => absurd h.2 (by decide))); omega), (fun q => (GQ.sm (S := S) (u := (uF S 231 70 1)) (hXI.2.2.2.1 (by omega) (by omega)) (uF_ne (fun h => absurd h.2 (by decide))) (uF_ne (fun h => absurd h.2 (by decide))) (uF_ne (fun h => absurd h.2 (by decide))) (uF_ne (fun h => absurd h.2 (by decide))) (uF_ne (fun h => absurd h.2 (by decide))) (uF_ne (fun h => absurd h.2 (by decide))) (uF_ne (fun h => absurd h.2 (by decide))) (uF_ne (fun h => absurd h.2 (by decide))) (uF_ne (fun h => absurd h.2 (by decide))) (uF_ne (fun h => absurd h.2 (by decide))) (uF_ne (fun h => absurd h.2 (by decide))) (uF_ne (fun h => absurd h.2 (by decide))) (uF_ne (fun h => absurd h.2 (by decide))) (uF_ne (fun h => absurd h.2 (by decide))) (uF_ne (fun h => absurd h.2 (by decide))) (uF_ne (fun h => absurd h.2 (by decide))) (uF_ne (fun h => absurd h.2 (by decide))) (funext fun j => uF_a) (funext fun j => uF_a) (funext fun j => uF_a) (funext fun j => uF_a) (funext fun j => uF_a) (funext fun j => uF_a) (funext fun j => uF_a) (funext fun j => uF_a) (funext fun j => uF_a) (funext fun j => uF_a) (funext fun j => uF_a) (funext fun j => uF_a) (funext fun j => uF_a) (funext fun j => uF_l) (funext fun j => uF_l))), (fun q => absurd (by have y := (show (uF S 231 70 1).1 231 61 = S.1 231 61 from uF_ne (fun h => absurd h.2 (by decide))); omega) q)⟩ (by omega) hW hL (lv_sub hl [0, 1, 2] rfl)
        · refine lv_aload_n hx hb dX12_work_31 rfl (lv_at hl 0 rfl) ?_
          refine sBv (sV (As := []) (rest := []) (k := 231) Cx (s_X12_goOn l G S  hI (hXI.2.2.1 (by omega) (by omega)) (by omega)) (c_X12_565 Cx rfl rfl (rmk_ok (by omega) (by decide))) hW (by decide) rfl rfl rfl hl.1 rfl (Nat.le_of_ble_eq_true rfl) dX12_work_32 ⟨Nat.le_of_ble_eq_true rfl, Nat.le_of_ble_eq_true rfl⟩) hL (fun u_47 H locs k_48 hW hL => ?_)
          obtain ⟨iu_47, fu_47, gu_47, xu_47⟩ := k_48
          have F_49 := (Fr.rf : Fr S S (pl [231, 233, 234, 235, 236, 237, 238, 239, 240, 241, 242, 261, 262, 263, 264, 265, 266, 267, 268, 269, 270, 271, 272, 273, 274, 275, 276, 277, 278, 279, 280, 281])).trans fu_47
          have g_50 : FF S u_47 (fl [6, 58, 59, 60, 61, 62, 63, 64, 65, 66, 67, 69, 70, 71, 72, 78, 79, 84, 86]) := FF.trans FF.rf (FF.to gu_47 (fl_sub (by decide)))
          refine lv_aload_n hx hb dX12_work_35 rfl (lv_at hl 0 rfl) ?_
          refine lv_iconst (v := iv 1) hx hb dX12_work_36 (by decide) ?_
          refine p_X12_517 Cx hW hL (k := 231) (by decide) rfl (by omega) dX12_work_37 (fun H locs hW hL => ?_)
          have F_51 : Fr S (uF u_47 231 70 1) (pl [231, 233, 234, 235, 236, 237, 238, 239, 240, 241, 242, 261, 262, 263, 264, 265, 266, 267, 268, 269, 270, 271, 272, 273, 274, 275, 276, 277, 278, 279, 280, 281]) := F_49.F rfl
          have g_52 : FF S (uF u_47 231 70 1) (fl [6, 58, 59, 60, 61, 62, 63, 64, 65, 66, 67, 69, 70, 71, 72, 78, 79, 84, 86]) := FF.F g_50 rfl
          have i_53 : dX G (uF u_47 231 70 1) := iu_47.F (i := 70) (show 0 ≤ 1 ∧ 1 ≤ 1 from ⟨by omega, by omega⟩)
          refine lv_iconst (v := iv 0) hx hb dX12_work_40 (by decide) ?_
          refine lv_istore_n (lv' := [(2, .int (iv 0)), (0, .ref (G.2.2.1 + 231)), (1, .int (iv ct))]) hx hb dX12_work_41 rfl hl (by decide) rfl (fun ls hl => ?_)
          have loop_42 : ∀ (fuel : Nat) (S42 : sS) (k : Int) (H : Heap) (locs : List Loc) (ls : Array Slot), (ct - k).toNat < fuel → (dX G S42) → (Fr S S42 (pl [231, 233, 234, 235, 236, 237, 238, 239, 240, 241, 242, 261, 262, 263, 264, 265, 266, 267, 268, 269, 270, 271, 272, 273, 274, 275, 276, 277, 278, 279, 280, 281])) → (Fr ((uF u_47 231 70 1)) S42 (pl [231, 233, 234, 235, 236, 237, 238, 239, 240, 241, 242, 261, 262, 263, 264, 265, 266, 267, 268, 269, 270, 271, 272, 273, 274, 275, 276, 277, 278, 279, 280, 281])) → (FF S S42 (fl [6, 58, 59, 60, 61, 62, 63, 64, 65, 66, 67, 69, 70, 71, 72, 78, 79, 84, 86])) → (FF ((uF u_47 231 70 1)) S42 (fl [6, 58, 59, 60, 61, 62, 63, 64, 65, 66, 67, 69, 70, 71, 72, 78, 79, 84, 86])) → (0 ≤ k ∧ k ≤ ct) → (GD S42) → (S42.1 231 70 = 1) → sW G 294 S42 H → sL G locs → lv_has ls 3 [(2, .int (iv k)), (0, .ref (G.2.2.1 + 231)), (1, .int (iv ct))] → W p l e (rmk 13 0 0) s m args below meth c H locs 0 0 (MQ below (sQi G 294 (fun r u => dX G u ∧ Fr S u (pl [231, 233, 234, 235, 236, 237, 238, 239, 240, 241, 242, 261, 262, 263, 264, 265, 266, 267, 268, 269, 270, 271, 272, 273, 274, 275, 276, 277, 278, 279, 280, 281]) ∧ FF S u (fl [6, 58, 59, 60, 61, 62, 63, 64, 65, 66, 67, 69, 70, 71, 72, 78, 79, 84, 86]) ∧ (XI u ∧ (-1 ≤ r ∧ r ≤ 500)))) args s 0 0 (sF G)) (F0 m 42 ls []) := by
            intro fuel
            induction fuel with
            | zero => intro S42 k H locs ls hmeas hI42 hFm42 hL42_ hGm42 gL42_ hk hGD h70 hW hL hl; exact absurd hmeas (Nat.not_lt_zero _)
            | succ fuel ih_42 =>
              intro S42 k H locs ls hmeas hI42 hFm42 hL42_ hGm42 gL42_ hk hGD h70 hW hL hl
              refine lv_iload_n hx hb dX12_work_42 rfl (lv_at hl 0 rfl) ?_
              refine lv_iload_n hx hb dX12_work_43 rfl (lv_at hl 2 rfl) ?_
              refine r_icmp_ge (tgt := 98) hx hb ⟨(by omega), (by omega)⟩ ⟨(by omega), (by omega)⟩ dX12_work_44 (by decide) (fun c_54 => ?_) (fun c_54 => ?_)
              · refine lv_iload_n hx hb dX12_work_98 rfl (lv_at hl 0 rfl) ?_
                exact sIret Cx hr hlk hW hL ⟨hI42, hFm42, hGm42, ⟨hGD.xi h70, (by omega)⟩⟩ dX12_work_99
              · refine lv_aload_n hx hb dX12_work_47 rfl (lv_at hl 1 rfl) ?_
                have q_55 : (-2147483648) ≤ S42.1 231 61 ∧ S42.1 231 61 ≤ 2147483647 := hI42.fi 61
                refine g_X12_477 Cx hW (k := 231) (by decide) rfl (v := S42.1 231 61) rfl dX12_work_48 ?_
                refine lv_iconst (v := iv 1) hx hb dX12_work_51 (by decide) ?_
                refine r_icmp_ne (tgt := 98) hx hb ⟨(by omega), (by omega)⟩ ⟨(by omega), (by omega)⟩ dX12_work_52 (by decide) (fun c_56 => ?_) (fun c_56 => ?_)
                · refine lv_iload_n hx hb dX12_work_98 rfl (lv_at hl 0 rfl) ?_
                  exact sIret Cx hr hlk hW hL ⟨hI42, hFm42, hGm42, ⟨hGD.xi h70, (by omega)⟩⟩ dX12_work_99
                · have hgq := hGD.2.1 (by omega)
                  have hp1 := hgq.2.2.1
                  have hp2 := hgq.2.2.2.1
                  refine lv_aload_n hx hb dX12_work_55 rfl (lv_at hl 1 rfl) ?_
                  refine lv_aload_n hx hb dX12_work_56 rfl (lv_at hl 1 rfl) ?_
                  have q_57 : (-2147483648) ≤ S42.1 231 71 ∧ S42.1 231 71 ≤ 2147483647 := hI42.fi 71
                  refine g_X12_562 Cx hW (k := 231) (by decide) rfl (v := S42.1 231 71) rfl dX12_work_57 ?_
                  refine lv_aload_n hx hb dX12_work_60 rfl (lv_at hl 1 rfl) ?_
                  have q_58 : (-2147483648) ≤ S42.1 231 72 ∧ S42.1 231 72 ≤ 2147483647 := hI42.fi 72
                  refine g_X12_555 Cx hW (k := 231) (by decide) rfl (v := S42.1 231 72) rfl dX12_work_61 ?_
                  have q_59 : (-2147483648) ≤ S42.1 231 58 ∧ S42.1 231 58 ≤ 2147483647 := hI42.fi 58
                  have q_60 : (-2147483648) ≤ S42.1 231 59 ∧ S42.1 231 59 ≤ 2147483647 := hI42.fi 59
                  refine sBi (sV (As := [.int (iv (S42.1 231 71)), .int (iv (S42.1 231 72))]) (rest := []) (k := 231) Cx (s_X12_pivot l G S42 (rr := S42.1 231 71) (ss := S42.1 231 72) hI42 hgq.1.1.2.1 (by omega) hgq.2.2.2.2) (c_X12_568 Cx rfl rfl (rmk_ok (by omega) (by decide))) hW (by decide) rfl rfl rfl hl.1 rfl (Nat.le_of_ble_eq_true rfl) dX12_work_64 ⟨Nat.le_of_ble_eq_true rfl, Nat.le_of_ble_eq_true rfl⟩) hL (fun r_63 u_61 H locs k_62 hW hL => ?_)
                  obtain ⟨iu_61, fu_61, gu_61, xu_61⟩ := k_62
                  have F_64 := hFm42.trans (fu_61.to (pl_sub (by decide)))
                  have F_65 := hL42_.trans (fu_61.to (pl_sub (by decide)))
                  have g_66 : FF S u_61 (fl [6, 58, 59, 60, 61, 62, 63, 64, 65, 66, 67, 69, 70, 71, 72, 78, 79, 84, 86]) := FF.trans hGm42 (FF.to gu_61 (fl_sub (by decide)))
                  have g_67 : FF ((uF u_47 231 70 1)) u_61 (fl [6, 58, 59, 60, 61, 62, 63, 64, 65, 66, 67, 69, 70, 71, 72, 78, 79, 84, 86]) := FF.trans gL42_ (FF.to gu_61 (fl_sub (by decide)))
                  refine r_if_ne (tgt := 78) hx hb ⟨(by omega), (by omega)⟩ dX12_work_67 (by decide) (fun c_68 => ?_) (fun c_68 => ?_)
                  · obtain ⟨tn, htn, hpn, hPV⟩ := xu_61.2.2.1 (by omega)
                    refine lv_aload_n hx hb dX12_work_78 rfl (lv_at hl 1 rfl) ?_
                    refine lv_dup hx hb dX12_work_79 rfl ?_
                    have q_69 : (-2147483648) ≤ S42.1 231 64 ∧ S42.1 231 64 ≤ 2147483647 := hI42.fi 64
                    refine g_X12_496 Cx hW (k := 231) (by decide) rfl (v := S42.1 231 64) (gu_61 64 rfl) dX12_work_80 ?_
                    refine lv_iconst (v := iv 1) hx hb dX12_work_83 (by decide) ?_
                    refine r_iadd hx hb dX12_work_84 ?_
                    obtain ⟨z_70, ez_70, hz_70, kz_70⟩ := iv_of (iv ((S42.1 231 64) + 1))
                    rw [ez_70]
                    refine p_X12_496 Cx hW hL (k := 231) (by decide) rfl dX12_work_85 (fun H locs hW hL => ?_)
                    have F_71 : Fr S (uF u_61 231 64 z_70) (pl [231, 233, 234, 235, 236, 237, 238, 239, 240, 241, 242, 261, 262, 263, 264, 265, 266, 267, 268, 269, 270, 271, 272, 273, 274, 275, 276, 277, 278, 279, 280, 281]) := F_64.F rfl
                    have F_72 : Fr ((uF u_47 231 70 1)) (uF u_61 231 64 z_70) (pl [231, 233, 234, 235, 236, 237, 238, 239, 240, 241, 242, 261, 262, 263, 264, 265, 266, 267, 268, 269, 270, 271, 272, 273, 274, 275, 276, 277, 278, 279, 280, 281]) := F_65.F rfl
                    have g_73 : FF S (uF u_61 231 64 z_70) (fl [6, 58, 59, 60, 61, 62, 63, 64, 65, 66, 67, 69, 70, 71, 72, 78, 79, 84, 86]) := FF.F g_66 rfl
                    have g_74 : FF ((uF u_47 231 70 1)) (uF u_61 231 64 z_70) (fl [6, 58, 59, 60, 61, 62, 63, 64, 65, 66, 67, 69, 70, 71, 72, 78, 79, 84, 86]) := FF.F g_67 rfl
                    have i_75 : dX G (uF u_61 231 64 z_70) := iu_61.F (i := 64) (show (-2147483648) ≤ z_70 ∧ z_70 ≤ 2147483647 from ⟨by omega, by omega⟩)
                    refine lv_iinc (v := iv (k + 1)) (lv' := [(2, .int (iv (k + 1))), (0, .ref (G.2.2.1 + 231)), (1, .int (iv ct))]) hx hb dX12_work_88 hl (k := 0) rfl ((Int32.ofInt_add _ _).symm) (by decide) rfl (fun ls hl => ?_)
                    refine lv_aload_n hx hb dX12_work_91 rfl (lv_at hl 1 rfl) ?_
                    have lk_76 : (uF u_61 231 64 z_70).1 231 61 = S42.1 231 61 := (uF_ne (fun h => absurd h.2 (by decide))).trans (gu_61 61 rfl)
                    refine sBv (sV (As := []) (rest := []) (k := 231) Cx (s_X12_goOn l G (uF u_61 231 64 z_70)  i_75 ⟨⟨⟨(MR.sm (S := S42) (u := (uF u_61 231 64 z_70)) hgq.1.1.1 ((uF_ne (fun h => absurd h.2 (by decide))).trans (gu_61 46 rfl)) ((uF_ne (fun h => absurd h.2 (by decide))).trans (gu_61 47 rfl)) ((uF_ne (fun h => absurd h.2 (by decide))).trans (gu_61 63 rfl)) (funext fun j => (uF_a).trans ((fu_61 261 rfl).2.1 j)) (funext fun j => (uF_l).trans ((fu_61 260 rfl).2.2.1 j)) (funext fun j => (uF_l).trans ((fu_61 290 rfl).2.2.1 j))), (DOK.sm (S := u_61) (u := (uF u_61 231 64 z_70)) xu_61.2.1 (uF_ne (fun h => absurd h.2 (by decide))) (uF_ne (fun h => absurd h.2 (by decide))) (uF_ne (fun h => absurd h.2 (by decide))) (funext fun j => uF_a) (funext fun j => uF_a)), (BO.sm (S := u_61) (u := (uF u_61 231 64 z_70)) (BO.pv (S := S42) (u := u_61) hgq.1.1.2.2.1 hPV (by omega) (by omega) (gu_61 46 rfl) (gu_61 58 rfl) (gu_61 59 rfl) (gu_61 63 rfl)) (uF_ne (fun h => absurd h.2 (by decide))) (uF_ne (fun h => absurd h.2 (by decide))) (uF_ne (fun h => absurd h.2 (by decide))) (uF_ne (fun h => absurd h.2 (by decide))) (funext fun j => uF_a) (funext fun j => uF_a)), (BB.sm (S := S42) (u := (uF u_61 231 64 z_70)) hgq.1.1.2.2.2.1 ((uF_ne (fun h => absurd h.2 (by decide))).trans (gu_61 46 rfl)) ((uF_ne (fun h => absurd h.2 (by decide))).trans (gu_61 79 rfl)) (funext fun j => (uF_a).trans ((fu_61 272 rfl).2.1 j)) (funext fun j => (uF_a).trans ((fu_61 273 rfl).2.1 j)) (funext fun j => (uF_a).trans ((fu_61 274 rfl).2.1 j))), (dPS.sm (S := S42) (u := (uF u_61 231 64 z_70)) hgq.1.1.2.2.2.2 ((uF_ne (fun h => absurd h.2 (by decide))).trans (gu_61 86 rfl)))⟩, (GX.sm (S := S42) (u := (uF u_61 231 64 z_70)) hgq.1.2.1 ((uF_ne (fun h => absurd h.2 (by decide))).trans (gu_61 47 rfl)) ((uF_ne (fun h => absurd h.2 (by decide))).trans (gu_61 58 rfl)) ((uF_ne (fun h => absurd h.2 (by decide))).trans (gu_61 63 rfl)) ((uF_ne (fun h => absurd h.2 (by decide))).trans (gu_61 65 rfl)) ((uF_ne (fun h => absurd h.2 (by decide))).trans (gu_61 68 rfl)) ((uF_ne (fun h => absurd h.2 (by decide))).trans (gu_61 69 rfl)) ((uF_ne (fun h => absurd h.2 (by decide))).trans (gu_61 78 rfl)) ((uF_ne (fun h => absurd h.2 (by decide))).trans (gu_61 84 rfl))), (KE.sm (S := S42) (u := (uF u_61 231 64 z_70)) hgq.1.2.2.1 ((uF_ne (fun h => absurd h.2 (by decide))).trans (gu_61 46 rfl)) ((uF_ne (fun h => absurd h.2 (by decide))).trans (gu_61 47 rfl)) ((uF_ne (fun h => absurd h.2 (by decide))).trans (gu_61 48 rfl)) ((uF_ne (fun h => absurd h.2 (by decide))).trans (gu_61 68 rfl)) ((uF_ne (fun h => absurd h.2 (by decide))).trans (gu_61 78 rfl)) (funext fun j => (uF_a).trans ((fu_61 267 rfl).2.1 j)) (funext fun j => (uF_a).trans ((fu_61 268 rfl).2.1 j)) (funext fun j => (uF_a).trans ((fu_61 269 rfl).2.1 j)) (funext fun j => (uF_a).trans ((fu_61 270 rfl).2.1 j)) (funext fun j => (uF_a).trans ((fu_61 271 rfl).2.1 j))), (CB.sm (S := S42) (u := (uF u_61 231 64 z_70)) hgq.1.2.2.2 ((uF_ne (fun h => absurd h.2 (by decide))).trans (gu_61 46 rfl)) ((uF_ne (fun h => absurd h.2 (by decide))).trans (gu_61 48 rfl)) ((uF_ne (fun h => absurd h.2 (by decide))).trans (gu_61 63 rfl)) ((uF_ne (fun h => absurd h.2 (by decide))).trans (gu_61 68 rfl)) ((uF_ne (fun h => absurd h.2 (by decide))).trans (gu_61 69 rfl)) (funext fun j => (uF_a).trans ((fu_61 261 rfl).2.1 j)))⟩, (ST.sm (S := u_61) (u := (uF u_61 231 64 z_70)) (ST.pv (S := S42) (u := u_61) hgq.2.1 hgq.1.1.2.1 ⟨(fun i => gu_61 i rfl), (fun x => (fu_61 290 rfl).2.2.1 x)⟩ (by omega) (by omega) htn hpn hPV) (uF_ne (fun h => absurd h.2 (by decide))) (uF_ne (fun h => absurd h.2 (by decide))) (uF_ne (fun h => absurd h.2 (by decide))) (uF_ne (fun h => absurd h.2 (by decide))) (uF_ne (fun h => absurd h.2 (by decide))) (uF_ne (fun h => absurd h.2 (by decide))) (uF_ne (fun h => absurd h.2 (by decide))) (funext fun j => uF_a) (funext fun j => uF_a) (funext fun j => uF_a) (funext fun j => uF_a) (funext fun j => uF_l))⟩ (by omega)) (c_X12_565 Cx rfl rfl (rmk_ok (by omega) (by decide))) hW (by decide) rfl rfl rfl hl.1 rfl (Nat.le_of_ble_eq_true rfl) dX12_work_92 ⟨Nat.le_of_ble_eq_true rfl, Nat.le_of_ble_eq_true rfl⟩) hL (fun u_77 H locs k_78 hW hL => ?_)
                    obtain ⟨iu_77, fu_77, gu_77, xu_77⟩ := k_78
                    have F_79 := F_71.trans fu_77
                    have F_80 := F_72.trans fu_77
                    have g_81 : FF S u_77 (fl [6, 58, 59, 60, 61, 62, 63, 64, 65, 66, 67, 69, 70, 71, 72, 78, 79, 84, 86]) := FF.trans g_73 (FF.to gu_77 (fl_sub (by decide)))
                    have g_82 : FF ((uF u_47 231 70 1)) u_77 (fl [6, 58, 59, 60, 61, 62, 63, 64, 65, 66, 67, 69, 70, 71, 72, 78, 79, 84, 86]) := FF.trans g_74 (FF.to gu_77 (fl_sub (by decide)))
                    refine lv_goto (tgt := 42) hx hb dX12_work_95 (by decide) ?_
                    have q_83 : 0 ≤ S42.1 231 70 ∧ S42.1 231 70 ≤ 1 := hI42.fi 70
                    have lk_84 : u_77.1 231 70 = S42.1 231 70 := (gu_77 70 rfl).trans ((uF_ne (fun h => absurd h.2 (by decide))).trans (gu_61 70 rfl))
                    exact ih_42 u_77 (k + 1) _ _ _ (by omega) iu_77 F_79 F_80 g_81 g_82 (by omega) xu_77 (by omega) hW hL (lv_sub hl [0, 1, 2] rfl)
                  · refine lv_aload_n hx hb dX12_work_70 rfl (lv_at hl 1 rfl) ?_
                    refine lv_iconst (v := iv 5) hx hb dX12_work_71 (by decide) ?_
                    refine p_X12_477 Cx hW hL (k := 231) (by decide) rfl dX12_work_72 (fun H locs hW hL => ?_)
                    have F_85 : Fr S (uF u_61 231 61 5) (pl [231, 233, 234, 235, 236, 237, 238, 239, 240, 241, 242, 261, 262, 263, 264, 265, 266, 267, 268, 269, 270, 271, 272, 273, 274, 275, 276, 277, 278, 279, 280, 281]) := F_64.F rfl
                    have F_86 : Fr ((uF u_47 231 70 1)) (uF u_61 231 61 5) (pl [231, 233, 234, 235, 236, 237, 238, 239, 240, 241, 242, 261, 262, 263, 264, 265, 266, 267, 268, 269, 270, 271, 272, 273, 274, 275, 276, 277, 278, 279, 280, 281]) := F_65.F rfl
                    have g_87 : FF S (uF u_61 231 61 5) (fl [6, 58, 59, 60, 61, 62, 63, 64, 65, 66, 67, 69, 70, 71, 72, 78, 79, 84, 86]) := FF.F g_66 rfl
                    have g_88 : FF ((uF u_47 231 70 1)) (uF u_61 231 61 5) (fl [6, 58, 59, 60, 61, 62, 63, 64, 65, 66, 67, 69, 70, 71, 72, 78, 79, 84, 86]) := FF.F g_67 rfl
                    have i_89 : dX G (uF u_61 231 61 5) := iu_61.F (i := 61) (show (-2147483648) ≤ 5 ∧ 5 ≤ 2147483647 from ⟨by omega, by omega⟩)
                    refine lv_goto (tgt := 98) hx hb dX12_work_75 (by decide) ?_
                    refine lv_iload_n hx hb dX12_work_98 rfl (lv_at hl 0 rfl) ?_
                    exact sIret Cx hr hlk hW hL ⟨i_89, F_85, g_87, ⟨EI.xi ⟨(MR.sm (S := S42) (u := (uF u_61 231 61 5)) hgq.1.1.1 ((uF_ne (fun h => absurd h.2 (by decide))).trans (gu_61 46 rfl)) ((uF_ne (fun h => absurd h.2 (by decide))).trans (gu_61 47 rfl)) ((uF_ne (fun h => absurd h.2 (by decide))).trans (gu_61 63 rfl)) (funext fun j => (uF_a).trans ((fu_61 261 rfl).2.1 j)) (funext fun j => (uF_l).trans ((fu_61 260 rfl).2.2.1 j)) (funext fun j => (uF_l).trans ((fu_61 290 rfl).2.2.1 j))), (DOK.sm (S := u_61) (u := (uF u_61 231 61 5)) xu_61.2.1 (uF_ne (fun h => absurd h.2 (by decide))) (uF_ne (fun h => absurd h.2 (by decide))) (uF_ne (fun h => absurd h.2 (by decide))) (funext fun j => uF_a) (funext fun j => uF_a)), (BO.sm (S := S42) (u := (uF u_61 231 61 5)) hgq.1.1.2.2.1 ((uF_ne (fun h => absurd h.2 (by decide))).trans (gu_61 46 rfl)) ((uF_ne (fun h => absurd h.2 (by decide))).trans (gu_61 58 rfl)) ((uF_ne (fun h => absurd h.2 (by decide))).trans (gu_61 59 rfl)) ((uF_ne (fun h => absurd h.2 (by decide))).trans (gu_61 63 rfl)) (funext fun j => by rw [show (uF u_61 231 61 5).2.1 265 = u_61.2.1 265 from (funext fun j => uF_a), (xu_61.2.2.2 (by omega)).1]) (funext fun j => by rw [show (uF u_61 231 61 5).2.1 266 = u_61.2.1 266 from (funext fun j => uF_a), (xu_61.2.2.2 (by omega)).2])), (BB.sm (S := S42) (u := (uF u_61 231 61 5)) hgq.1.1.2.2.2.1 ((uF_ne (fun h => absurd h.2 (by decide))).trans (gu_61 46 rfl)) ((uF_ne (fun h => absurd h.2 (by decide))).trans (gu_61 79 rfl)) (funext fun j => (uF_a).trans ((fu_61 272 rfl).2.1 j)) (funext fun j => (uF_a).trans ((fu_61 273 rfl).2.1 j)) (funext fun j => (uF_a).trans ((fu_61 274 rfl).2.1 j))), (dPS.sm (S := S42) (u := (uF u_61 231 61 5)) hgq.1.1.2.2.2.2 ((uF_ne (fun h => absurd h.2 (by decide))).trans (gu_61 86 rfl)))⟩ (by have y := (show (uF u_61 231 61 5).1 231 61 = 5 from uF_on); omega), (by omega)⟩⟩ dX12_work_99
          have lk_90 : (uF u_47 231 70 1).1 231 70 = 1 := uF_on
          exact loop_42 (_ + 1) (uF u_47 231 70 1) 0 _ _ _ (Nat.lt_succ_self _) i_53 F_51 Fr.rf g_52 FF.rf (by omega) ⟨(by have y := (show (uF u_47 231 70 1).1 231 61 = u_47.1 231 61 from uF_ne (fun h => absurd h.2 (by decide))); have y2 := xu_47.1; omega), (fun q => (GQ.sm (S := u_47) (u := (uF u_47 231 70 1)) (xu_47.2.1 (by have y := (show (uF u_47 231 70 1).1 231 61 = u_47.1 231 61 from uF_ne (fun h => absurd h.2 (by decide))); omega)) (uF_ne (fun h => absurd h.2 (by decide))) (uF_ne (fun h => absurd h.2 (by decide))) (uF_ne (fun h => absurd h.2 (by decide))) (uF_ne (fun h => absurd h.2 (by decide))) (uF_ne (fun h => absurd h.2 (by decide))) (uF_ne (fun h => absurd h.2 (by decide))) (uF_ne (fun h => absurd h.2 (by decide))) (uF_ne (fun h => absurd h.2 (by decide))) (uF_ne (fun h => absurd h.2 (by decide))) (uF_ne (fun h => absurd h.2 (by decide))) (uF_ne (fun h => absurd h.2 (by decide))) (uF_ne (fun h => absurd h.2 (by decide))) (uF_ne (fun h => absurd h.2 (by decide))) (uF_ne (fun h => absurd h.2 (by decide))) (uF_ne (fun h => absurd h.2 (by decide))) (uF_ne (fun h => absurd h.2 (by decide))) (uF_ne (fun h => absurd h.2 (by decide))) (funext fun j => uF_a) (funext fun j => uF_a) (funext fun j => uF_a) (funext fun j => uF_a) (funext fun j => uF_a) (funext fun j => uF_a) (funext fun j => uF_a) (funext fun j => uF_a) (funext fun j => uF_a) (funext fun j => uF_a) (funext fun j => uF_a) (funext fun j => uF_a) (funext fun j => uF_a) (funext fun j => uF_l) (funext fun j => uF_l))), (fun q => (EI.sm (S := u_47) (u := (uF u_47 231 70 1)) (xu_47.2.2 (by have y := (show (uF u_47 231 70 1).1 231 61 = u_47.1 231 61 from uF_ne (fun h => absurd h.2 (by decide))); omega)) (uF_ne (fun h => absurd h.2 (by decide))) (uF_ne (fun h => absurd h.2 (by decide))) (uF_ne (fun h => absurd h.2 (by decide))) (uF_ne (fun h => absurd h.2 (by decide))) (uF_ne (fun h => absurd h.2 (by decide))) (uF_ne (fun h => absurd h.2 (by decide))) (uF_ne (fun h => absurd h.2 (by decide))) (uF_ne (fun h => absurd h.2 (by decide))) (funext fun j => uF_a) (funext fun j => uF_a) (funext fun j => uF_a) (funext fun j => uF_a) (funext fun j => uF_a) (funext fun j => uF_a) (funext fun j => uF_a) (funext fun j => uF_a) (funext fun j => uF_l) (funext fun j => uF_l)))⟩ (by omega) hW hL (lv_sub hl [0, 1, 2] rfl)
      · refine lv_iconst (v := iv 0) hx hb dX12_work_22 (by decide) ?_
        exact sIret Cx hr hlk hW hL ⟨hI, (Fr.rf : Fr S S (pl [231, 233, 234, 235, 236, 237, 238, 239, 240, 241, 242, 261, 262, 263, 264, 265, 266, 267, 268, 269, 270, 271, 272, 273, 274, 275, 276, 277, 278, 279, 280, 281])), FF.rf, ⟨hXI, (by omega)⟩⟩ dX12_work_23
    · refine lv_iconst (v := iv (-1)) hx hb dX12_work_12 (by decide) ?_
      exact sIret Cx hr hlk hW hL ⟨hI, (Fr.rf : Fr S S (pl [231, 233, 234, 235, 236, 237, 238, 239, 240, 241, 242, 261, 262, 263, 264, 265, 266, 267, 268, 269, 270, 271, 272, 273, 274, 275, 276, 277, 278, 279, 280, 281])), FF.rf, ⟨hXI, (by omega)⟩⟩ dX12_work_13
