/-! evaluate, goOn, work -/
theorem LD.of {S X u : sS} (h : LD X u) (e : X.1 231 65 = S.1 231 65) : LD S u := ⟨h.1, h.2.1, fun q => ⟨(h.2.2 q).1, (h.2.2 q).2.1, (h.2.2 q).2.2.1, by have := (h.2.2 q).2.2.2; omega⟩⟩
def LG (S : sS) : Prop := (1 ≤ S.1 231 61 ∧ S.1 231 61 ≤ 6) ∧ (S.1 231 61 = 1 → GI S) ∧ (S.1 231 61 ≠ 1 → EI S)
def GD (S : sS) : Prop := (1 ≤ S.1 231 61 ∧ S.1 231 61 ≤ 6) ∧ (S.1 231 61 = 1 → GQ S) ∧ (S.1 231 61 ≠ 1 → EI S)
def rk (z : Int) : Nat := if z = 0 then 5 else if z = 1 then 4 else if z = 2 then 3 else if z = 5 then 2 else if z = 3 then 1 else 0
def mz (S : sS) : Nat := if S.1 231 61 = 1 then 1 + 8 * (1000 - S.1 231 65).toNat + rk (S.1 231 62) else 0
theorem rk_le (z : Int) : rk z ≤ 5 := by unfold rk; repeat (split; decide); decide
theorem mz1 {S u : sS} (hS : S.1 231 61 = 1) (h65 : S.1 231 65 ≤ 1000) (hu : u.1 231 61 = 1 → S.1 231 65 < u.1 231 65 ∧ u.1 231 65 ≤ 1000) : mz u < mz S := by
  unfold mz
  rw [if_pos hS]
  by_cases q : u.1 231 61 = 1
  · rw [if_pos q]; have := hu q; have := rk_le (u.1 231 62); omega
  · rw [if_neg q]; omega
theorem mz2 {S u : sS} (hS : S.1 231 61 = 1) (e : u.1 231 65 = S.1 231 65) (hr : rk (u.1 231 62) < rk (S.1 231 62)) : mz u < mz S := by
  unfold mz
  rw [if_pos hS, e]
  by_cases q : u.1 231 61 = 1
  · rw [if_pos q]; omega
  · rw [if_neg q]; omega
theorem LD.lg {S u : sS} (h : LD S u) : LG u := ⟨h.1, fun q => ⟨(h.2.2 q).1, .inl ⟨.inr (h.2.2 q).2.2.1, (h.2.2 q).2.1⟩⟩, h.2.1⟩
theorem LD.mz {S u : sS} (h : LD S u) (hS : S.1 231 61 = 1) (h65 : S.1 231 65 ≤ 1000) : mz u < mz S := mz1 hS h65 (fun q => ⟨(h.2.2 q).2.2.2, by have := (h.2.2 q).1.2.1; unfold GX at this; omega⟩)
theorem ST.s0 {S : sS} (h : ST S) (e : S.1 231 62 = 0) : dSA S ∧ Tab S ∧ dFI S := by
  rcases h with ⟨h, _⟩ | ⟨a, ⟨z, t⟩ | ⟨z, t⟩ | z⟩
  · omega
  · exact ⟨a, t⟩
  · omega
  · omega
theorem ST.s1 {S : sS} (h : ST S) (e : S.1 231 62 = 1 ∨ S.1 231 62 = 2) : dSA S ∧ Tab S ∧ WX S := by
  rcases h with ⟨h, _⟩ | ⟨a, ⟨z, t⟩ | ⟨z, t⟩ | z⟩
  · omega
  · omega
  · exact ⟨a, t⟩
  · omega
theorem ST.s5 {S : sS} (h : ST S) (e : S.1 231 62 = 5) : dSA S := by
  rcases h with ⟨h, _⟩ | ⟨a, _⟩
  · omega
  · exact a
theorem ST.s3 {S : sS} (h : ST S) (e : ¬ (S.1 231 62 = 0 ∨ S.1 231 62 = 1 ∨ S.1 231 62 = 2 ∨ S.1 231 62 = 5)) : (S.1 231 62 = 3 ∨ S.1 231 62 = 4) ∧ S.1 231 60 = 0 := by
  rcases h with h | ⟨a, ⟨z, t⟩ | ⟨z, t⟩ | z⟩
  · exact h
  · omega
  · omega
  · omega
theorem BO.drop {S u : sS} (h : BO S) (e46 : u.1 231 46 = S.1 231 46) (e58 : u.1 231 58 = S.1 231 58) (e59 : u.1 231 59 = S.1 231 59 - 1) (e63 : u.1 231 63 = S.1 231 63) (h59 : 1 ≤ S.1 231 59) (a265 : u.2.1 265 = S.2.1 265) (a266 : ∃ s, (0 ≤ s ∧ s ≤ S.1 231 59) ∧ ∀ x, u.2.1 266 x = if x = s then S.2.1 266 (S.1 231 59) else S.2.1 266 x) : BO u := ⟨fun i i0 i1 => by rw [a265, e46, e63]; exact h.1 i i0 (by omega), fun j j0 j1 => by
  obtain ⟨s, _, e⟩ := a266
  rw [e46, e63, e j]
  split
  · exact h.2 _ h59 (by omega)
  · exact h.2 j j0 (by omega)⟩
theorem BO.pv {S u : sS} {r s tn : Int} (h : BO S) (p : PV S u r s tn) (hr : 1 ≤ r ∧ r ≤ S.1 231 58) (hs : 1 ≤ s ∧ s ≤ S.1 231 59) (e46 : u.1 231 46 = S.1 231 46) (e58 : u.1 231 58 = S.1 231 58) (e59 : u.1 231 59 = S.1 231 59) (e63 : u.1 231 63 = S.1 231 63) : BO u := by
  obtain ⟨_, _, p5, p6⟩ := p
  refine ⟨fun i i0 i1 => ?_, fun j j0 j1 => ?_⟩
  · rw [p5, e46, e63]; split
    · exact h.2 s hs.1 hs.2
    · exact h.1 i i0 (by omega)
  · rw [p6, e46, e63]; split
    · exact h.1 r hr.1 hr.2
    · exact h.2 j j0 (by omega)
/-- the first pivot of PHASE 1 -/
theorem WX.first {S u : sS} {r tn : Int} (h : dFI S) (hK : KM S u) (hW : S.1 231 60 = 1) (hr : 1 ≤ r ∧ r ≤ S.1 231 58) (h8 : S.1 231 58 ≤ 40) (hs : 1 ≤ S.1 231 59 ∧ S.1 231 59 ≤ 13) (htn : 0 ≤ tn ∧ tn ≤ 1) (hp : (tn = 1 → TV S (r + 1) (S.1 231 59) < 0) ∧ (tn = 0 → 0 < TV S (r + 1) (S.1 231 59))) (p : PV S u r (S.1 231 59) tn) : WX u := by
  obtain ⟨hD, hz, hw1, hc, hb, ho, ho0⟩ := h
  obtain ⟨_, pC, p5, p6⟩ := p
  have e8 : u.1 231 58 = S.1 231 58 := hK.1 58
  have e9 : u.1 231 59 = S.1 231 59 := hK.1 59
  have c1 := hc r hr.1 hr.2
  have t1 : tn = 1 := by
    rcases (by omega : tn = 0 ∨ tn = 1) with q | q
    · have := hp.2 q; omega
    · exact q
  subst t1
  have cw : ∀ j, 0 ≤ j → j ≤ S.1 231 59 → PC S r (S.1 231 59) 1 1 j (TV u 1 j) := fun j j0 j1 => pC 1 j (by omega) (by omega) (fun _ => hW) j0 j1
  have cr : ∀ j, 0 ≤ j → j ≤ S.1 231 59 → PC S r (S.1 231 59) 1 (r + 1) j (TV u (r + 1) j) := fun j j0 j1 => pC (r + 1) j (by omega) (by omega) (fun _ => hW) j0 j1
  refine .inl ⟨r, by omega, ?_, fun i i0 i1 ne => ?_, fun j j0 j1 => ?_, fun j j0 j1 => ?_, S.1 231 59, hs.1, by omega, ?_⟩
  · rw [p5, if_pos rfl]; exact ho0
  · rw [p5, if_neg ne]; exact hb i i0 (by omega)
  · rw [p6]; split
    · exact hb r hr.1 hr.2
    · exact ho j j0 (by omega)
  · rw [e9] at j1
    by_cases q : j = S.1 231 59
    · rw [(cw j j0 j1).2.2.1 ⟨by omega, q⟩, (cr j j0 j1).1 ⟨rfl, q⟩, q, hw1, hD]; decide
    · obtain ⟨Q, R, h1, h2, h3, h4⟩ := (cw j j0 j1).2.2.2 ⟨by omega, q⟩
      rw [(cr j j0 j1).2.1 ⟨rfl, q⟩, h1]
      rw [hz j j0 (by omega), hw1, hD, c1] at h2
      rw [hD] at h4
      rw [asn_1, asn_1]
      omega
  · rw [(cr _ (by omega) (Int.le_refl _)).1 ⟨rfl, rfl⟩, hD, asn_1]; decide
/-- behind a pivot the stages go on -/
theorem ST.pv {S u : sS} {r tn : Int} (h : dSQ S) (hD : DOK S) (hK : KM S u) (hr : 1 ≤ r ∧ r ≤ S.1 231 58) (hs : 1 ≤ S.1 231 72 ∧ S.1 231 72 ≤ S.1 231 59) (htn : 0 ≤ tn ∧ tn ≤ 1) (hp : (tn = 1 → TV S (r + 1) (S.1 231 72) < 0) ∧ (tn = 0 → 0 < TV S (r + 1) (S.1 231 72))) (p : PV S u r (S.1 231 72) tn) : ST u := by
  have e := hK.1
  have hd1 := hD.1
  rcases h with ⟨h1, h2⟩ | ⟨a, ⟨z, t, f⟩ | z⟩
  · exact .inl ⟨by rw [e 62]; exact h1, (e 60).trans h2⟩
  · have a' := a
    unfold dSA at a'
    have au : dSA u := a.sm (e 47) (e 58) (e 59) (e 60) (e 78)
    have tu : Tab u := t.pv hK hD a'.2.2.1 hr hs htn p
    refine .inr ⟨au, .inr (.inl ⟨.inl ((e 62).trans z), tu, ?_⟩)⟩
    rcases f with ⟨f, y⟩ | ⟨f, y⟩
    · rw [y] at p hp; exact WX.first f hK a'.1 hr (by omega) (by omega) htn hp p
    · exact f.pv t hK hD a'.1 a'.2.2.1 hr hs htn hp y p
  · exact .inr ⟨a.sm (e 47) (e 58) (e 59) (e 60) (e 78), .inr (.inr ((e 62).trans z))⟩
/-- the reference's solver, between calls -/
def XI (S : sS) : Prop := MR S ∧ (0 ≤ S.1 231 61 ∧ S.1 231 61 ≤ 6) ∧ (S.1 231 61 = 1 → S.1 231 70 = 0 → GI S) ∧ (S.1 231 61 = 1 → S.1 231 70 = 1 → GQ S) ∧ (2 ≤ S.1 231 61 → EI S)
set_option maxRecDepth 100000 in
set_option maxHeartbeats 4000000 in
theorem s_X12_evaluate (l : Launch) (G : sG) (S : sS)  (hI : dX G S) (hG : GC S) (h60 : S.1 231 60 = 0) (hst : S.1 231 61 = 1) : Met l yX12_evaluate (.code yX12_evaluate cX12_evaluate 4 none :: tb) (rmk 11 0 0) (sPc G 294 S [.ref (G.2.2.1 + 231)]) (sQv G 294 (fun u => dX G u ∧ Fr S u (pl [231, 233, 234, 235, 236, 237, 238, 239, 240, 241, 242, 261, 262, 263, 264, 265, 266, 267, 268, 269, 270, 271, 272, 273, 274, 275, 276, 277, 278, 279, 280, 281]) ∧ FF S u (fl [6, 58, 59, 61, 62, 63, 65, 66, 67, 69, 78, 79, 84, 86]) ∧ (LD S u))) 0 0 (sF G) := by
  refine sEnter (by decide) (Nat.le_of_ble_eq_true rfl) ?_
  intro p e s m args below meth c Cx hr hlk hnm hW ls hl
  have Cx : sC G p m c cX12_evaluate 4 s args RX12 := Cx
  obtain ⟨hx, hb, hml, hown, hts⟩ := id Cx.1
  have hL : sL G [] := sL_nil
  have hl : lv_has ls 4 [(0, .ref (G.2.2.1 + 231))] := hl
  have hW0 := hW
  have hm1 := hG.1.1.1
  unfold MD at hm1
  have hx1 := hG.2.1
  unfold GX at hx1
  have hd1 := hG.1.2.1.1
  have hps1 := hG.1.2.2.2.2
  unfold dPS at hps1
  have join_19 : ∀ (S19 : sS)  (H : Heap) (locs : List Loc) (ls : Array Slot), (dX G S19) → (Fr S S19 (pl [231, 233, 234, 235, 236, 237, 238, 239, 240, 241, 242, 261, 262, 263, 264, 265, 266, 267, 268, 269, 270, 271, 272, 273, 274, 275, 276, 277, 278, 279, 280, 281])) → (Fr S S19 (pl [233, 234, 235, 237, 238, 240])) → (FF S S19 (fl [6, 58, 59, 61, 62, 63, 65, 66, 67, 69, 78, 79, 84, 86])) → (FF S S19 (fl [])) → sW G 294 S19 H → sL G locs → lv_has ls 4 [(0, .ref (G.2.2.1 + 231))] → W p l e (rmk 11 0 0) s m args below meth c H locs 0 0 (MQ below (sQv G 294 (fun u => dX G u ∧ Fr S u (pl [231, 233, 234, 235, 236, 237, 238, 239, 240, 241, 242, 261, 262, 263, 264, 265, 266, 267, 268, 269, 270, 271, 272, 273, 274, 275, 276, 277, 278, 279, 280, 281]) ∧ FF S u (fl [6, 58, 59, 61, 62, 63, 65, 66, 67, 69, 78, 79, 84, 86]) ∧ (LD S u))) args s 0 0 (sF G)) (F0 m 19 ls []) := by
    intro S19  H locs ls hI19 hFm19 hL19_ hGm19 gL19_ hW hL hl
    refine lv_iconst (v := iv 0) hx hb dX12_evaluate_19 (by decide) ?_
    refine lv_istore_n (lv' := [(1, .int (iv 0)), (0, .ref (G.2.2.1 + 231))]) hx hb dX12_evaluate_20 rfl hl (by decide) rfl (fun ls hl => ?_)
    refine lv_iconst (v := iv 1) hx hb dX12_evaluate_21 (by decide) ?_
    refine lv_istore_n (lv' := [(2, .int (iv 1)), (1, .int (iv 0)), (0, .ref (G.2.2.1 + 231))]) hx hb dX12_evaluate_22 rfl hl (by decide) rfl (fun ls hl => ?_)
    have loop_23 : ∀ (fuel : Nat) (S23 : sS) (i : Int) (r1 : Int) (H : Heap) (locs : List Loc) (ls : Array Slot), (S.1 231 58 + 1 - i).toNat < fuel → (dX G S23) → (Fr S S23 (pl [231, 233, 234, 235, 236, 237, 238, 239, 240, 241, 242, 261, 262, 263, 264, 265, 266, 267, 268, 269, 270, 271, 272, 273, 274, 275, 276, 277, 278, 279, 280, 281])) → (Fr S19 S23 (pl [233, 234, 235, 237, 238, 240])) → (FF S S23 (fl [6, 58, 59, 61, 62, 63, 65, 66, 67, 69, 78, 79, 84, 86])) → (FF S19 S23 (fl [])) → (1 ≤ i ∧ i ≤ S.1 231 58 + 1) → (0 ≤ r1 ∧ r1 < i) → (Hd (1 ≤ r1 → 1 ≤ S.2.1 265 r1 ∧ S.2.1 265 r1 ≤ S.1 231 46)) → sW G 294 S23 H → sL G locs → lv_has ls 4 [(2, .int (iv i)), (1, .int (iv r1)), (0, .ref (G.2.2.1 + 231))] → W p l e (rmk 11 0 0) s m args below meth c H locs 0 0 (MQ below (sQv G 294 (fun u => dX G u ∧ Fr S u (pl [231, 233, 234, 235, 236, 237, 238, 239, 240, 241, 242, 261, 262, 263, 264, 265, 266, 267, 268, 269, 270, 271, 272, 273, 274, 275, 276, 277, 278, 279, 280, 281]) ∧ FF S u (fl [6, 58, 59, 61, 62, 63, 65, 66, 67, 69, 78, 79, 84, 86]) ∧ (LD S u))) args s 0 0 (sF G)) (F0 m 23 ls []) := by
      intro fuel
      induction fuel with
      | zero => intro S23 i r1 H locs ls hmeas hI23 hFm23 hL23_ hGm23 gL23_ hi hr1 hrb hW hL hl; exact absurd hmeas (Nat.not_lt_zero _)
      | succ fuel ih_23 =>
        intro S23 i r1 H locs ls hmeas hI23 hFm23 hL23_ hGm23 gL23_ hi hr1 hrb hW hL hl
        refine lv_iload_n hx hb dX12_evaluate_23 rfl (lv_at hl 0 rfl) ?_
        refine lv_aload_n hx hb dX12_evaluate_24 rfl (lv_at hl 2 rfl) ?_
        have q_1 : (-2147483648) ≤ S.1 231 58 ∧ S.1 231 58 ≤ 2147483647 := hI.fi 58
        refine g_X12_483 Cx hW (k := 231) (by decide) rfl (v := S.1 231 58) ((gL23_ 58 rfl).trans (gL19_ 58 rfl)) dX12_evaluate_25 ?_
        refine r_icmp_gt (tgt := 125) hx hb ⟨(by omega), (by omega)⟩ ⟨(by omega), (by omega)⟩ dX12_evaluate_28 (by decide) (fun c_2 => ?_) (fun c_2 => ?_)
        · refine lv_iload_n hx hb dX12_evaluate_125 rfl (lv_at hl 1 rfl) ?_
          refine r_if_ne (tgt := 140) hx hb ⟨(by omega), (by omega)⟩ dX12_evaluate_126 (by decide) (fun c_3 => ?_) (fun c_3 => ?_)
          · refine lv_aload_n hx hb dX12_evaluate_140 rfl (lv_at hl 2 rfl) ?_
            have q_4 : (-2147483648) ≤ S.1 231 48 ∧ S.1 231 48 ≤ 2147483647 := hI.fi 48
            refine g_X12_471 Cx hW (k := 231) (by decide) rfl (v := S.1 231 48) ((gL23_ 48 rfl).trans (gL19_ 48 rfl)) dX12_evaluate_141 ?_
            refine lv_aload_n hx hb dX12_evaluate_144 rfl (lv_at hl 2 rfl) ?_
            have q_5 : (-2147483648) ≤ S.1 231 46 ∧ S.1 231 46 ≤ 2147483647 := hI.fi 46
            refine g_X12_465 Cx hW (k := 231) (by decide) rfl (v := S.1 231 46) ((gL23_ 46 rfl).trans (gL19_ 46 rfl)) dX12_evaluate_145 ?_
            refine r_icmp_ne (tgt := 170) hx hb ⟨(by omega), (by omega)⟩ ⟨(by omega), (by omega)⟩ dX12_evaluate_148 (by decide) (fun c_6 => ?_) (fun c_6 => ?_)
            · refine lv_aload_n hx hb dX12_evaluate_170 rfl (lv_at hl 2 rfl) ?_
              refine lv_iload_n hx hb dX12_evaluate_171 rfl (lv_at hl 1 rfl) ?_
              have q_7 : 0 ≤ S.1 231 60 ∧ S.1 231 60 ≤ 1 := hI.fi 60
              have lk_8 : S23.1 231 60 = S.1 231 60 := (gL23_ 60 rfl).trans (gL19_ 60 rfl)
              have q_9 : (-2147483648) ≤ S.1 231 61 ∧ S.1 231 61 ≤ 2147483647 := hI.fi 61
              have lk_10 : S23.1 231 61 = S.1 231 61 := (gL23_ 61 rfl).trans (gL19_ 61 rfl)
              have lk_11 : S23.1 231 48 = S.1 231 48 := (gL23_ 48 rfl).trans (gL19_ 48 rfl)
              have lk_12 : S23.1 231 46 = S.1 231 46 := (gL23_ 46 rfl).trans (gL19_ 46 rfl)
              have q_13 : (-2147483648) ≤ S.1 231 69 ∧ S.1 231 69 ≤ 2147483647 := hI.fi 69
              have lk_14 : S23.1 231 69 = S.1 231 69 := (gL23_ 69 rfl).trans (gL19_ 69 rfl)
              have q_15 : (-2147483648) ≤ S.1 231 68 ∧ S.1 231 68 ≤ 2147483647 := hI.fi 68
              have lk_16 : S23.1 231 68 = S.1 231 68 := (gL23_ 68 rfl).trans (gL19_ 68 rfl)
              have lk_17 : S23.1 231 58 = S.1 231 58 := (gL23_ 58 rfl).trans (gL19_ 58 rfl)
              refine sBv (sV (As := [.int (iv r1)]) (rest := []) (k := 231) Cx (s_X12_branch l G S23 (rr := r1) hI23 (GC.sm (S := S) (u := S23) hG ((gL23_ 46 rfl).trans (gL19_ 46 rfl)) ((gL23_ 47 rfl).trans (gL19_ 47 rfl)) ((gL23_ 48 rfl).trans (gL19_ 48 rfl)) ((gL23_ 58 rfl).trans (gL19_ 58 rfl)) ((gL23_ 59 rfl).trans (gL19_ 59 rfl)) ((gL23_ 60 rfl).trans (gL19_ 60 rfl)) ((gL23_ 63 rfl).trans (gL19_ 63 rfl)) ((gL23_ 65 rfl).trans (gL19_ 65 rfl)) ((gL23_ 68 rfl).trans (gL19_ 68 rfl)) ((gL23_ 69 rfl).trans (gL19_ 69 rfl)) ((gL23_ 78 rfl).trans (gL19_ 78 rfl)) ((gL23_ 79 rfl).trans (gL19_ 79 rfl)) ((gL23_ 84 rfl).trans (gL19_ 84 rfl)) ((gL23_ 86 rfl).trans (gL19_ 86 rfl)) (funext fun j => ((hL23_ 261 rfl).2.1 j).trans ((hL19_ 261 rfl).2.1 j)) (funext fun j => ((hL23_ 262 rfl).2.1 j).trans ((hL19_ 262 rfl).2.1 j)) (funext fun j => ((hL23_ 264 rfl).2.1 j).trans ((hL19_ 264 rfl).2.1 j)) (funext fun j => ((hL23_ 265 rfl).2.1 j).trans ((hL19_ 265 rfl).2.1 j)) (funext fun j => ((hL23_ 266 rfl).2.1 j).trans ((hL19_ 266 rfl).2.1 j)) (funext fun j => ((hL23_ 267 rfl).2.1 j).trans ((hL19_ 267 rfl).2.1 j)) (funext fun j => ((hL23_ 268 rfl).2.1 j).trans ((hL19_ 268 rfl).2.1 j)) (funext fun j => ((hL23_ 269 rfl).2.1 j).trans ((hL19_ 269 rfl).2.1 j)) (funext fun j => ((hL23_ 270 rfl).2.1 j).trans ((hL19_ 270 rfl).2.1 j)) (funext fun j => ((hL23_ 271 rfl).2.1 j).trans ((hL19_ 271 rfl).2.1 j)) (funext fun j => ((hL23_ 272 rfl).2.1 j).trans ((hL19_ 272 rfl).2.1 j)) (funext fun j => ((hL23_ 273 rfl).2.1 j).trans ((hL19_ 273 rfl).2.1 j)) (funext fun j => ((hL23_ 274 rfl).2.1 j).trans ((hL19_ 274 rfl).2.1 j)) (funext fun j => ((hL23_ 260 rfl).2.2.1 j).trans ((hL19_ 260 rfl).2.2.1 j)) (funext fun j => ((hL23_ 290 rfl).2.2.1 j).trans ((hL19_ 290 rfl).2.2.1 j))) (by omega) (by omega) (by omega) (by omega) (by rw [show S23.2.1 265 = S.2.1 265 from (funext fun j => ((hL23_ 265 rfl).2.1 j).trans ((hL19_ 265 rfl).2.1 j)), show S23.1 231 46 = S.1 231 46 from (gL23_ 46 rfl).trans (gL19_ 46 rfl)]; exact hrb (by omega))) (c_X12_643 Cx rfl rfl (rmk_ok (by omega) (by decide))) hW (by decide) rfl rfl rfl hl.1 rfl (Nat.le_of_ble_eq_true rfl) dX12_evaluate_172 ⟨Nat.le_of_ble_eq_true rfl, Nat.le_of_ble_eq_true rfl⟩) hL (fun u_18 H locs k_19 hW hL => ?_)
              obtain ⟨iu_18, fu_18, gu_18, xu_18⟩ := k_19
              have F_20 := hFm23.trans fu_18
              have g_21 : FF S u_18 (fl [6, 58, 59, 61, 62, 63, 65, 66, 67, 69, 78, 79, 84, 86]) := FF.trans hGm23 (FF.to gu_18 (fl_sub (by decide)))
              exact sVret Cx hr hlk hW hL ⟨iu_18, F_20, g_21, (LD.of (X := S23) xu_18 ((show S23.1 231 65 = S.1 231 65 from (gL23_ 65 rfl).trans (gL19_ 65 rfl))))⟩ dX12_evaluate_175
            · refine lv_aload_n hx hb dX12_evaluate_151 rfl (lv_at hl 2 rfl) ?_
              have q_23 : (-2147483648) ≤ S.1 231 69 ∧ S.1 231 69 ≤ 2147483647 := hI.fi 69
              refine g_X12_508 Cx hW (k := 231) (by decide) rfl (v := S.1 231 69) ((gL23_ 69 rfl).trans (gL19_ 69 rfl)) dX12_evaluate_152 ?_
              refine lv_aload_n hx hb dX12_evaluate_155 rfl (lv_at hl 2 rfl) ?_
              have q_24 : (-2147483648) ≤ S.1 231 68 ∧ S.1 231 68 ≤ 2147483647 := hI.fi 68
              refine g_X12_493 Cx hW (k := 231) (by decide) rfl (v := S.1 231 68) ((gL23_ 68 rfl).trans (gL19_ 68 rfl)) dX12_evaluate_156 ?_
              refine r_icmp_ge (tgt := 170) hx hb ⟨(by omega), (by omega)⟩ ⟨(by omega), (by omega)⟩ dX12_evaluate_159 (by decide) (fun c_25 => ?_) (fun c_25 => ?_)
              · refine lv_aload_n hx hb dX12_evaluate_170 rfl (lv_at hl 2 rfl) ?_
                refine lv_iload_n hx hb dX12_evaluate_171 rfl (lv_at hl 1 rfl) ?_
                have q_26 : 0 ≤ S.1 231 60 ∧ S.1 231 60 ≤ 1 := hI.fi 60
                have lk_27 : S23.1 231 60 = S.1 231 60 := (gL23_ 60 rfl).trans (gL19_ 60 rfl)
                have q_28 : (-2147483648) ≤ S.1 231 61 ∧ S.1 231 61 ≤ 2147483647 := hI.fi 61
                have lk_29 : S23.1 231 61 = S.1 231 61 := (gL23_ 61 rfl).trans (gL19_ 61 rfl)
                have lk_30 : S23.1 231 48 = S.1 231 48 := (gL23_ 48 rfl).trans (gL19_ 48 rfl)
                have lk_31 : S23.1 231 46 = S.1 231 46 := (gL23_ 46 rfl).trans (gL19_ 46 rfl)
                have lk_32 : S23.1 231 69 = S.1 231 69 := (gL23_ 69 rfl).trans (gL19_ 69 rfl)
                have lk_33 : S23.1 231 68 = S.1 231 68 := (gL23_ 68 rfl).trans (gL19_ 68 rfl)
                have lk_34 : S23.1 231 58 = S.1 231 58 := (gL23_ 58 rfl).trans (gL19_ 58 rfl)
                refine sBv (sV (As := [.int (iv r1)]) (rest := []) (k := 231) Cx (s_X12_branch l G S23 (rr := r1) hI23 (GC.sm (S := S) (u := S23) hG ((gL23_ 46 rfl).trans (gL19_ 46 rfl)) ((gL23_ 47 rfl).trans (gL19_ 47 rfl)) ((gL23_ 48 rfl).trans (gL19_ 48 rfl)) ((gL23_ 58 rfl).trans (gL19_ 58 rfl)) ((gL23_ 59 rfl).trans (gL19_ 59 rfl)) ((gL23_ 60 rfl).trans (gL19_ 60 rfl)) ((gL23_ 63 rfl).trans (gL19_ 63 rfl)) ((gL23_ 65 rfl).trans (gL19_ 65 rfl)) ((gL23_ 68 rfl).trans (gL19_ 68 rfl)) ((gL23_ 69 rfl).trans (gL19_ 69 rfl)) ((gL23_ 78 rfl).trans (gL19_ 78 rfl)) ((gL23_ 79 rfl).trans (gL19_ 79 rfl)) ((gL23_ 84 rfl).trans (gL19_ 84 rfl)) ((gL23_ 86 rfl).trans (gL19_ 86 rfl)) (funext fun j => ((hL23_ 261 rfl).2.1 j).trans ((hL19_ 261 rfl).2.1 j)) (funext fun j => ((hL23_ 262 rfl).2.1 j).trans ((hL19_ 262 rfl).2.1 j)) (funext fun j => ((hL23_ 264 rfl).2.1 j).trans ((hL19_ 264 rfl).2.1 j)) (funext fun j => ((hL23_ 265 rfl).2.1 j).trans ((hL19_ 265 rfl).2.1 j)) (funext fun j => ((hL23_ 266 rfl).2.1 j).trans ((hL19_ 266 rfl).2.1 j)) (funext fun j => ((hL23_ 267 rfl).2.1 j).trans ((hL19_ 267 rfl).2.1 j)) (funext fun j => ((hL23_ 268 rfl).2.1 j).trans ((hL19_ 268 rfl).2.1 j)) (funext fun j => ((hL23_ 269 rfl).2.1 j).trans ((hL19_ 269 rfl).2.1 j)) (funext fun j => ((hL23_ 270 rfl).2.1 j).trans ((hL19_ 270 rfl).2.1 j)) (funext fun j => ((hL23_ 271 rfl).2.1 j).trans ((hL19_ 271 rfl).2.1 j)) (funext fun j => ((hL23_ 272 rfl).2.1 j).trans ((hL19_ 272 rfl).2.1 j)) (funext fun j => ((hL23_ 273 rfl).2.1 j).trans ((hL19_ 273 rfl).2.1 j)) (funext fun j => ((hL23_ 274 rfl).2.1 j).trans ((hL19_ 274 rfl).2.1 j)) (funext fun j => ((hL23_ 260 rfl).2.2.1 j).trans ((hL19_ 260 rfl).2.2.1 j)) (funext fun j => ((hL23_ 290 rfl).2.2.1 j).trans ((hL19_ 290 rfl).2.2.1 j))) (by omega) (by omega) (by omega) (by omega) (by rw [show S23.2.1 265 = S.2.1 265 from (funext fun j => ((hL23_ 265 rfl).2.1 j).trans ((hL19_ 265 rfl).2.1 j)), show S23.1 231 46 = S.1 231 46 from (gL23_ 46 rfl).trans (gL19_ 46 rfl)]; exact hrb (by omega))) (c_X12_643 Cx rfl rfl (rmk_ok (by omega) (by decide))) hW (by decide) rfl rfl rfl hl.1 rfl (Nat.le_of_ble_eq_true rfl) dX12_evaluate_172 ⟨Nat.le_of_ble_eq_true rfl, Nat.le_of_ble_eq_true rfl⟩) hL (fun u_35 H locs k_36 hW hL => ?_)
                obtain ⟨iu_35, fu_35, gu_35, xu_35⟩ := k_36
                have F_37 := hFm23.trans fu_35
                have g_38 : FF S u_35 (fl [6, 58, 59, 61, 62, 63, 65, 66, 67, 69, 78, 79, 84, 86]) := FF.trans hGm23 (FF.to gu_35 (fl_sub (by decide)))
                exact sVret Cx hr hlk hW hL ⟨iu_35, F_37, g_38, (LD.of (X := S23) xu_35 ((show S23.1 231 65 = S.1 231 65 from (gL23_ 65 rfl).trans (gL19_ 65 rfl))))⟩ dX12_evaluate_175
              · refine lv_aload_n hx hb dX12_evaluate_162 rfl (lv_at hl 2 rfl) ?_
                refine lv_iload_n hx hb dX12_evaluate_163 rfl (lv_at hl 1 rfl) ?_
                have q_40 : 0 ≤ S.1 231 60 ∧ S.1 231 60 ≤ 1 := hI.fi 60
                have lk_41 : S23.1 231 60 = S.1 231 60 := (gL23_ 60 rfl).trans (gL19_ 60 rfl)
                have q_42 : (-2147483648) ≤ S.1 231 61 ∧ S.1 231 61 ≤ 2147483647 := hI.fi 61
                have lk_43 : S23.1 231 61 = S.1 231 61 := (gL23_ 61 rfl).trans (gL19_ 61 rfl)
                have lk_44 : S23.1 231 48 = S.1 231 48 := (gL23_ 48 rfl).trans (gL19_ 48 rfl)
                have lk_45 : S23.1 231 46 = S.1 231 46 := (gL23_ 46 rfl).trans (gL19_ 46 rfl)
                have lk_46 : S23.1 231 69 = S.1 231 69 := (gL23_ 69 rfl).trans (gL19_ 69 rfl)
                have lk_47 : S23.1 231 68 = S.1 231 68 := (gL23_ 68 rfl).trans (gL19_ 68 rfl)
                have lk_48 : S23.1 231 58 = S.1 231 58 := (gL23_ 58 rfl).trans (gL19_ 58 rfl)
                refine sBv (sV (As := [.int (iv r1)]) (rest := []) (k := 231) Cx (s_X12_cut l G S23 (rr := r1) hI23 (GC.sm (S := S) (u := S23) hG ((gL23_ 46 rfl).trans (gL19_ 46 rfl)) ((gL23_ 47 rfl).trans (gL19_ 47 rfl)) ((gL23_ 48 rfl).trans (gL19_ 48 rfl)) ((gL23_ 58 rfl).trans (gL19_ 58 rfl)) ((gL23_ 59 rfl).trans (gL19_ 59 rfl)) ((gL23_ 60 rfl).trans (gL19_ 60 rfl)) ((gL23_ 63 rfl).trans (gL19_ 63 rfl)) ((gL23_ 65 rfl).trans (gL19_ 65 rfl)) ((gL23_ 68 rfl).trans (gL19_ 68 rfl)) ((gL23_ 69 rfl).trans (gL19_ 69 rfl)) ((gL23_ 78 rfl).trans (gL19_ 78 rfl)) ((gL23_ 79 rfl).trans (gL19_ 79 rfl)) ((gL23_ 84 rfl).trans (gL19_ 84 rfl)) ((gL23_ 86 rfl).trans (gL19_ 86 rfl)) (funext fun j => ((hL23_ 261 rfl).2.1 j).trans ((hL19_ 261 rfl).2.1 j)) (funext fun j => ((hL23_ 262 rfl).2.1 j).trans ((hL19_ 262 rfl).2.1 j)) (funext fun j => ((hL23_ 264 rfl).2.1 j).trans ((hL19_ 264 rfl).2.1 j)) (funext fun j => ((hL23_ 265 rfl).2.1 j).trans ((hL19_ 265 rfl).2.1 j)) (funext fun j => ((hL23_ 266 rfl).2.1 j).trans ((hL19_ 266 rfl).2.1 j)) (funext fun j => ((hL23_ 267 rfl).2.1 j).trans ((hL19_ 267 rfl).2.1 j)) (funext fun j => ((hL23_ 268 rfl).2.1 j).trans ((hL19_ 268 rfl).2.1 j)) (funext fun j => ((hL23_ 269 rfl).2.1 j).trans ((hL19_ 269 rfl).2.1 j)) (funext fun j => ((hL23_ 270 rfl).2.1 j).trans ((hL19_ 270 rfl).2.1 j)) (funext fun j => ((hL23_ 271 rfl).2.1 j).trans ((hL19_ 271 rfl).2.1 j)) (funext fun j => ((hL23_ 272 rfl).2.1 j).trans ((hL19_ 272 rfl).2.1 j)) (funext fun j => ((hL23_ 273 rfl).2.1 j).trans ((hL19_ 273 rfl).2.1 j)) (funext fun j => ((hL23_ 274 rfl).2.1 j).trans ((hL19_ 274 rfl).2.1 j)) (funext fun j => ((hL23_ 260 rfl).2.2.1 j).trans ((hL19_ 260 rfl).2.2.1 j)) (funext fun j => ((hL23_ 290 rfl).2.2.1 j).trans ((hL19_ 290 rfl).2.2.1 j))) (by omega) (by omega) (by omega) (by omega)) (c_X12_640 Cx rfl rfl (rmk_ok (by omega) (by decide))) hW (by decide) rfl rfl rfl hl.1 rfl (Nat.le_of_ble_eq_true rfl) dX12_evaluate_164 ⟨Nat.le_of_ble_eq_true rfl, Nat.le_of_ble_eq_true rfl⟩) hL (fun u_49 H locs k_50 hW hL => ?_)
                obtain ⟨iu_49, fu_49, gu_49, xu_49⟩ := k_50
                have F_51 := hFm23.trans fu_49
                have g_52 : FF S u_49 (fl [6, 58, 59, 61, 62, 63, 65, 66, 67, 69, 78, 79, 84, 86]) := FF.trans hGm23 (FF.to gu_49 (fl_sub (by decide)))
                refine lv_goto (tgt := 175) hx hb dX12_evaluate_167 (by decide) ?_
                exact sVret Cx hr hlk hW hL ⟨iu_49, F_51, g_52, (LD.of (X := S23) xu_49 ((show S23.1 231 65 = S.1 231 65 from (gL23_ 65 rfl).trans (gL19_ 65 rfl))))⟩ dX12_evaluate_175
          · refine lv_aload_n hx hb dX12_evaluate_129 rfl (lv_at hl 2 rfl) ?_
            refine sBv (sV (As := []) (rest := []) (k := 231) Cx (s_X12_takeBest l G S23  hI23 (DOK.sm (S := S) (u := S23) hG.1.2.1 ((gL23_ 58 rfl).trans (gL19_ 58 rfl)) ((gL23_ 59 rfl).trans (gL19_ 59 rfl)) ((gL23_ 60 rfl).trans (gL19_ 60 rfl)) (funext fun j => ((hL23_ 262 rfl).2.1 j).trans ((hL19_ 262 rfl).2.1 j)) (funext fun j => ((hL23_ 264 rfl).2.1 j).trans ((hL19_ 264 rfl).2.1 j))) (by unfold MD; have y46 := (show S23.1 231 46 = S.1 231 46 from (gL23_ 46 rfl).trans (gL19_ 46 rfl)); have y47 := (show S23.1 231 47 = S.1 231 47 from (gL23_ 47 rfl).trans (gL19_ 47 rfl)); have y63 := (show S23.1 231 63 = S.1 231 63 from (gL23_ 63 rfl).trans (gL19_ 63 rfl)); omega)) (c_X12_637 Cx rfl rfl (rmk_ok (by omega) (by decide))) hW (by decide) rfl rfl rfl hl.1 rfl (Nat.le_of_ble_eq_true rfl) dX12_evaluate_130 ⟨Nat.le_of_ble_eq_true rfl, Nat.le_of_ble_eq_true rfl⟩) hL (fun u_54 H locs k_55 hW hL => ?_)
            obtain ⟨iu_54, fu_54, gu_54, xu_54⟩ := k_55
            have F_56 := hFm23.trans (fu_54.to (pl_sub (by decide)))
            have g_57 : FF S u_54 (fl [6, 58, 59, 61, 62, 63, 65, 66, 67, 69, 78, 79, 84, 86]) := FF.trans hGm23 (FF.to gu_54 (fl_sub (by decide)))
            refine lv_aload_n hx hb dX12_evaluate_133 rfl (lv_at hl 2 rfl) ?_
            have q_59 : 0 ≤ S.1 231 60 ∧ S.1 231 60 ≤ 1 := hI.fi 60
            have lk_60 : u_54.1 231 60 = S.1 231 60 := (gu_54 60 rfl).trans ((gL23_ 60 rfl).trans (gL19_ 60 rfl))
            have q_61 : (-2147483648) ≤ S.1 231 78 ∧ S.1 231 78 ≤ 2147483647 := hI.fi 78
            have lk_62 : u_54.1 231 78 = S.1 231 78 := (gu_54 78 rfl).trans ((gL23_ 78 rfl).trans (gL19_ 78 rfl))
            have q_63 : (-2147483648) ≤ S.1 231 61 ∧ S.1 231 61 ≤ 2147483647 := hI.fi 61
            have lk_64 : u_54.1 231 61 = S.1 231 61 := (gu_54 61 rfl).trans ((gL23_ 61 rfl).trans (gL19_ 61 rfl))
            refine sBv (sV (As := []) (rest := []) (k := 231) Cx (s_X12_leafBound l G u_54  iu_54 ⟨⟨(MR.sm (S := S) (u := u_54) hG.1.1 ((gu_54 46 rfl).trans ((gL23_ 46 rfl).trans (gL19_ 46 rfl))) ((gu_54 47 rfl).trans ((gL23_ 47 rfl).trans (gL19_ 47 rfl))) ((gu_54 63 rfl).trans ((gL23_ 63 rfl).trans (gL19_ 63 rfl))) (funext fun j => ((fu_54 261 rfl).2.1 j).trans (((hL23_ 261 rfl).2.1 j).trans ((hL19_ 261 rfl).2.1 j))) (funext fun j => ((fu_54 260 rfl).2.2.1 j).trans (((hL23_ 260 rfl).2.2.1 j).trans ((hL19_ 260 rfl).2.2.1 j))) (funext fun j => ((fu_54 290 rfl).2.2.1 j).trans (((hL23_ 290 rfl).2.2.1 j).trans ((hL19_ 290 rfl).2.2.1 j)))), (DOK.sm (S := S) (u := u_54) hG.1.2.1 ((gu_54 58 rfl).trans ((gL23_ 58 rfl).trans (gL19_ 58 rfl))) ((gu_54 59 rfl).trans ((gL23_ 59 rfl).trans (gL19_ 59 rfl))) ((gu_54 60 rfl).trans ((gL23_ 60 rfl).trans (gL19_ 60 rfl))) (funext fun j => ((fu_54 262 rfl).2.1 j).trans (((hL23_ 262 rfl).2.1 j).trans ((hL19_ 262 rfl).2.1 j))) (funext fun j => ((fu_54 264 rfl).2.1 j).trans (((hL23_ 264 rfl).2.1 j).trans ((hL19_ 264 rfl).2.1 j)))), (BO.sm (S := S) (u := u_54) hG.1.2.2.1 ((gu_54 46 rfl).trans ((gL23_ 46 rfl).trans (gL19_ 46 rfl))) ((gu_54 58 rfl).trans ((gL23_ 58 rfl).trans (gL19_ 58 rfl))) ((gu_54 59 rfl).trans ((gL23_ 59 rfl).trans (gL19_ 59 rfl))) ((gu_54 63 rfl).trans ((gL23_ 63 rfl).trans (gL19_ 63 rfl))) (funext fun j => ((fu_54 265 rfl).2.1 j).trans (((hL23_ 265 rfl).2.1 j).trans ((hL19_ 265 rfl).2.1 j))) (funext fun j => ((fu_54 266 rfl).2.1 j).trans (((hL23_ 266 rfl).2.1 j).trans ((hL19_ 266 rfl).2.1 j)))), (fun _ => xu_54.1), (dPS.sm (S := S) (u := u_54) hG.1.2.2.2.2 ((gu_54 86 rfl).trans ((gL23_ 86 rfl).trans (gL19_ 86 rfl))))⟩, (GX.sm (S := S) (u := u_54) hG.2.1 ((gu_54 47 rfl).trans ((gL23_ 47 rfl).trans (gL19_ 47 rfl))) ((gu_54 58 rfl).trans ((gL23_ 58 rfl).trans (gL19_ 58 rfl))) ((gu_54 63 rfl).trans ((gL23_ 63 rfl).trans (gL19_ 63 rfl))) ((gu_54 65 rfl).trans ((gL23_ 65 rfl).trans (gL19_ 65 rfl))) ((gu_54 68 rfl).trans ((gL23_ 68 rfl).trans (gL19_ 68 rfl))) ((gu_54 69 rfl).trans ((gL23_ 69 rfl).trans (gL19_ 69 rfl))) ((gu_54 78 rfl).trans ((gL23_ 78 rfl).trans (gL19_ 78 rfl))) ((gu_54 84 rfl).trans ((gL23_ 84 rfl).trans (gL19_ 84 rfl)))), (KE.sm (S := S) (u := u_54) hG.2.2.1 ((gu_54 46 rfl).trans ((gL23_ 46 rfl).trans (gL19_ 46 rfl))) ((gu_54 47 rfl).trans ((gL23_ 47 rfl).trans (gL19_ 47 rfl))) ((gu_54 48 rfl).trans ((gL23_ 48 rfl).trans (gL19_ 48 rfl))) ((gu_54 68 rfl).trans ((gL23_ 68 rfl).trans (gL19_ 68 rfl))) ((gu_54 78 rfl).trans ((gL23_ 78 rfl).trans (gL19_ 78 rfl))) (funext fun j => ((fu_54 267 rfl).2.1 j).trans (((hL23_ 267 rfl).2.1 j).trans ((hL19_ 267 rfl).2.1 j))) (funext fun j => ((fu_54 268 rfl).2.1 j).trans (((hL23_ 268 rfl).2.1 j).trans ((hL19_ 268 rfl).2.1 j))) (funext fun j => ((fu_54 269 rfl).2.1 j).trans (((hL23_ 269 rfl).2.1 j).trans ((hL19_ 269 rfl).2.1 j))) (funext fun j => ((fu_54 270 rfl).2.1 j).trans (((hL23_ 270 rfl).2.1 j).trans ((hL19_ 270 rfl).2.1 j))) (funext fun j => ((fu_54 271 rfl).2.1 j).trans (((hL23_ 271 rfl).2.1 j).trans ((hL19_ 271 rfl).2.1 j)))), (CB.sm (S := S) (u := u_54) hG.2.2.2 ((gu_54 46 rfl).trans ((gL23_ 46 rfl).trans (gL19_ 46 rfl))) ((gu_54 48 rfl).trans ((gL23_ 48 rfl).trans (gL19_ 48 rfl))) ((gu_54 63 rfl).trans ((gL23_ 63 rfl).trans (gL19_ 63 rfl))) ((gu_54 68 rfl).trans ((gL23_ 68 rfl).trans (gL19_ 68 rfl))) ((gu_54 69 rfl).trans ((gL23_ 69 rfl).trans (gL19_ 69 rfl))) (funext fun j => ((fu_54 261 rfl).2.1 j).trans (((hL23_ 261 rfl).2.1 j).trans ((hL19_ 261 rfl).2.1 j))))⟩ (by omega) (by omega)) (c_X12_634 Cx rfl rfl (rmk_ok (by omega) (by decide))) hW (by decide) rfl rfl rfl hl.1 rfl (Nat.le_of_ble_eq_true rfl) dX12_evaluate_134 ⟨Nat.le_of_ble_eq_true rfl, Nat.le_of_ble_eq_true rfl⟩) hL (fun u_65 H locs k_66 hW hL => ?_)
            obtain ⟨iu_65, fu_65, gu_65, xu_65⟩ := k_66
            have F_67 := F_56.trans fu_65
            have g_68 : FF S u_65 (fl [6, 58, 59, 61, 62, 63, 65, 66, 67, 69, 78, 79, 84, 86]) := FF.trans g_57 (FF.to gu_65 (fl_sub (by decide)))
            refine lv_goto (tgt := 175) hx hb dX12_evaluate_137 (by decide) ?_
            exact sVret Cx hr hlk hW hL ⟨iu_65, F_67, g_68, (LD.of (X := u_54) xu_65 ((show u_54.1 231 65 = S.1 231 65 from (gu_54 65 rfl).trans ((gL23_ 65 rfl).trans (gL19_ 65 rfl)))))⟩ dX12_evaluate_175
        · have join_119 : ∀ (S119 : sS) (r2 : Int) (H : Heap) (locs : List Loc) (ls : Array Slot), (dX G S119) → (Fr S S119 (pl [231, 233, 234, 235, 236, 237, 238, 239, 240, 241, 242, 261, 262, 263, 264, 265, 266, 267, 268, 269, 270, 271, 272, 273, 274, 275, 276, 277, 278, 279, 280, 281])) → (Fr S19 S119 (pl [233, 234, 235, 237, 238, 240])) → (Fr S23 S119 (pl [233, 234, 235, 237, 238, 240])) → (FF S S119 (fl [6, 58, 59, 61, 62, 63, 65, 66, 67, 69, 78, 79, 84, 86])) → (FF S19 S119 (fl [])) → (FF S23 S119 (fl [])) → (0 ≤ r2 ∧ r2 ≤ i) → (Hd (1 ≤ r2 → 1 ≤ S.2.1 265 r2 ∧ S.2.1 265 r2 ≤ S.1 231 46)) → sW G 294 S119 H → sL G locs → lv_has ls 4 [(2, .int (iv i)), (1, .int (iv r2)), (0, .ref (G.2.2.1 + 231))] → W p l e (rmk 11 0 0) s m args below meth c H locs 0 0 (MQ below (sQv G 294 (fun u => dX G u ∧ Fr S u (pl [231, 233, 234, 235, 236, 237, 238, 239, 240, 241, 242, 261, 262, 263, 264, 265, 266, 267, 268, 269, 270, 271, 272, 273, 274, 275, 276, 277, 278, 279, 280, 281]) ∧ FF S u (fl [6, 58, 59, 61, 62, 63, 65, 66, 67, 69, 78, 79, 84, 86]) ∧ (LD S u))) args s 0 0 (sF G)) (F0 m 119 ls []) := by
            intro S119 r2 H locs ls hI119 hFm119 hFL23119 hL119_ hGm119 hGL23119 gL119_ hr2 hrb2 hW hL hl
            refine lv_iinc (v := iv (i + 1)) (lv' := [(2, .int (iv (i + 1))), (1, .int (iv r2)), (0, .ref (G.2.2.1 + 231))]) hx hb dX12_evaluate_119 hl (k := 0) rfl ((Int32.ofInt_add _ _).symm) (by decide) rfl (fun ls hl => ?_)
            refine lv_goto (tgt := 23) hx hb dX12_evaluate_122 (by decide) ?_
            exact ih_23 S119 (i + 1) r2 _ _ _ (by omega) hI119 hFm119 hFL23119 hGm119 hGL23119 (by omega) (by omega) hrb2 hW hL (lv_sub hl [0, 1, 2] rfl)
          refine lv_aload_n hx hb dX12_evaluate_31 rfl (lv_at hl 2 rfl) ?_
          refine g_X12_112 Cx hW (k := 231) (by decide) rfl (v := .ref (G.2.2.1 + 265)) (rd_56 hI23) dX12_evaluate_32 ?_
          refine lv_iload_n hx hb dX12_evaluate_35 rfl (lv_at hl 0 rfl) ?_
          refine rIald Cx hW (k := 265) (by decide) rfl (by decide) (by omega) (by omega) dX12_evaluate_36 ?_
          have q_69 : (-2147483648) ≤ S.2.1 265 i ∧ S.2.1 265 i ≤ 2147483647 := hI.ai 265 i
          refine r_i (b := S.2.1 265 i) (((hL23_ 265 rfl).2.1 i).trans ((hL19_ 265 rfl).2.1 i)) ?_
          refine lv_istore_n (lv' := [(3, .int (iv (S.2.1 265 i))), (2, .int (iv i)), (1, .int (iv r1)), (0, .ref (G.2.2.1 + 231))]) hx hb dX12_evaluate_37 rfl hl (by decide) rfl (fun ls hl => ?_)
          refine lv_iload_n hx hb dX12_evaluate_38 rfl (lv_at hl 0 rfl) ?_
          refine lv_iconst (v := iv 1) hx hb dX12_evaluate_39 (by decide) ?_
          refine r_icmp_lt (tgt := 119) hx hb ⟨(by omega), (by omega)⟩ ⟨(by omega), (by omega)⟩ dX12_evaluate_40 (by decide) (fun c_70 => ?_) (fun c_70 => ?_)
          · exact join_119 S23 r1 _ _ _ hI23 hFm23 hL23_ (Fr.rf : Fr S23 S23 (pl [233, 234, 235, 237, 238, 240])) hGm23 gL23_ (FF.rf : FF S23 S23 (fl [])) (by omega) hrb hW hL (lv_sub hl [1, 2, 3] rfl)
          · refine lv_iload_n hx hb dX12_evaluate_43 rfl (lv_at hl 0 rfl) ?_
            refine lv_aload_n hx hb dX12_evaluate_44 rfl (lv_at hl 3 rfl) ?_
            have q_71 : (-2147483648) ≤ S.1 231 46 ∧ S.1 231 46 ≤ 2147483647 := hI.fi 46
            refine g_X12_465 Cx hW (k := 231) (by decide) rfl (v := S.1 231 46) ((gL23_ 46 rfl).trans (gL19_ 46 rfl)) dX12_evaluate_45 ?_
            refine r_icmp_gt (tgt := 119) hx hb ⟨(by omega), (by omega)⟩ ⟨(by omega), (by omega)⟩ dX12_evaluate_48 (by decide) (fun c_72 => ?_) (fun c_72 => ?_)
            · exact join_119 S23 r1 _ _ _ hI23 hFm23 hL23_ (Fr.rf : Fr S23 S23 (pl [233, 234, 235, 237, 238, 240])) hGm23 gL23_ (FF.rf : FF S23 S23 (fl [])) (by omega) hrb hW hL (lv_sub hl [1, 2, 3] rfl)
            · refine lv_aload_n hx hb dX12_evaluate_51 rfl (lv_at hl 3 rfl) ?_
              refine g_X12_94 Cx hW (k := 231) (by decide) rfl (v := .ref (G.2.2.1 + 259)) (rd_50 hI23) dX12_evaluate_52 ?_
              refine lv_iload_n hx hb dX12_evaluate_55 rfl (lv_at hl 0 rfl) ?_
              refine rZald Cx hW (k := 259) (by decide) rfl (by decide) (by omega) (by omega) dX12_evaluate_56 ?_
              have q_73 : 0 ≤ S.2.1 259 (S.2.1 265 i) ∧ S.2.1 259 (S.2.1 265 i) ≤ 1 := hI.ai 259 (S.2.1 265 i)
              refine r_i (b := S.2.1 259 (S.2.1 265 i)) (((hL23_ 259 rfl).2.1 (S.2.1 265 i)).trans ((hL19_ 259 rfl).2.1 (S.2.1 265 i))) ?_
              refine r_if_eq (tgt := 119) hx hb ⟨(by omega), (by omega)⟩ dX12_evaluate_57 (by decide) (fun c_74 => ?_) (fun c_74 => ?_)
              · exact join_119 S23 r1 _ _ _ hI23 hFm23 hL23_ (Fr.rf : Fr S23 S23 (pl [233, 234, 235, 237, 238, 240])) hGm23 gL23_ (FF.rf : FF S23 S23 (fl [])) (by omega) hrb hW hL (lv_sub hl [1, 2, 3] rfl)
              · refine lv_iload_n hx hb dX12_evaluate_60 rfl (lv_at hl 2 rfl) ?_
                refine r_if_le (tgt := 77) hx hb ⟨(by omega), (by omega)⟩ dX12_evaluate_61 (by decide) (fun c_75 => ?_) (fun c_75 => ?_)
                · refine lv_aload_n hx hb dX12_evaluate_77 rfl (lv_at hl 3 rfl) ?_
                  refine lv_aload_n hx hb dX12_evaluate_78 rfl (lv_at hl 3 rfl) ?_
                  refine g_X12_103 Cx hW (k := 231) (by decide) rfl (v := .ref (G.2.2.1 + 262)) (rd_53 hI23) dX12_evaluate_79 ?_
                  refine lv_aload_n hx hb dX12_evaluate_82 rfl (lv_at hl 3 rfl) ?_
                  refine lv_iload_n hx hb dX12_evaluate_83 rfl (lv_at hl 1 rfl) ?_
                  refine lv_iconst (v := iv 1) hx hb dX12_evaluate_84 (by decide) ?_
                  refine r_iadd hx hb dX12_evaluate_85 ?_
                  refine lv_iconst (v := iv 0) hx hb dX12_evaluate_86 (by decide) ?_
                  refine sBi (sV (As := [.int (iv (i + 1)), .int (iv 0)]) (rest := [.ref (G.2.2.1 + 262), .ref (G.2.2.1 + 231)]) (k := 231) Cx (s_X12_cell l G S23 (i := i + 1) (j := 0) (by omega) (by omega)) (c_X12_529 Cx rfl rfl (rmk_ok (by omega) (by decide))) hW (by decide) rfl rfl rfl hl.1 rfl (Nat.le_of_ble_eq_true rfl) dX12_evaluate_87 ⟨Nat.le_of_ble_eq_true rfl, Nat.le_of_ble_eq_true rfl⟩) hL (fun qd u_76 H locs k_77 hW hL => ?_)
                  obtain ⟨eu_76, xu_76⟩ := k_77
                  rw [eu_76] at hW
                  refine lv_aload_n hx hb dX12_evaluate_90 rfl (lv_at hl 3 rfl) ?_
                  refine g_X12_109 Cx hW (k := 231) (by decide) rfl (v := .ref (G.2.2.1 + 264)) (rd_55 hI23) dX12_evaluate_91 ?_
                  refine lv_iconst (v := iv 0) hx hb dX12_evaluate_94 (by decide) ?_
                  refine lv_aload_n hx hb dX12_evaluate_95 rfl (lv_at hl 3 rfl) ?_
                  refine g_X12_26 Cx hW (k := 231) (by decide) rfl (v := .ref (G.2.2.1 + 237)) (rd_7 hI23) dX12_evaluate_96 ?_
                  refine lv_iconst (v := iv 0) hx hb dX12_evaluate_99 (by decide) ?_
                  refine lv_aload_n hx hb dX12_evaluate_100 rfl (lv_at hl 3 rfl) ?_
                  refine g_X12_35 Cx hW (k := 231) (by decide) rfl (v := .ref (G.2.2.1 + 240)) (rd_10 hI23) dX12_evaluate_101 ?_
                  refine lv_iconst (v := iv 0) hx hb dX12_evaluate_104 (by decide) ?_
                  have hbp105 : 0 < S23.2.1 264 0 := by rw [show S23.2.1 264 = S.2.1 264 from (funext fun j => ((hL23_ 264 rfl).2.1 j).trans ((hL19_ 264 rfl).2.1 j))]; exact hG.1.2.1.2.2.1.sgn.2.1.mp hG.1.2.1.2.2.2
                  refine sBv (sV (As := [.ref (G.2.2.1 + 262), .int (iv qd), .ref (G.2.2.1 + 264), .int (iv 0), .ref (G.2.2.1 + 237), .int (iv 0), .ref (G.2.2.1 + 240), .int (iv 0)]) (rest := []) (k := 231) Cx (s_X12_divide l G S23 (ka := 262) (po := qd) (kb := 264) (qo := 0) (kc := 237) (ro := 0) (kd := 240) (eo := 0) (Nka := 5280) (Nkb := 8) (Nkc := 68) (Nkd := 68) (La := 6) (Lb := 6) (Ld := 7) hI23 ⟨rfl, by decide, by decide, by decide, rfl⟩ ⟨rfl, by decide, by decide, by decide, rfl⟩ ⟨rfl, by decide, by decide, by decide, rfl⟩ ⟨rfl, by decide, by decide, by decide, rfl⟩ (show (237 : Nat) ≠ 262 by decide) (show (240 : Nat) ≠ 262 by decide) (show (237 : Nat) ≠ 264 by decide) (show (240 : Nat) ≠ 264 by decide) (show (237 : Nat) ≠ 240 by decide) (show (262 : Nat) ≠ 233 by decide) (show (264 : Nat) ≠ 233 by decide) (show (264 : Nat) ≠ 234 by decide) (show (264 : Nat) ≠ 235 by decide) (show (237 : Nat) ≠ 233 by decide) (show (237 : Nat) ≠ 234 by decide) (show (237 : Nat) ≠ 235 by decide) (show (240 : Nat) ≠ 233 by decide) (show (240 : Nat) ≠ 234 by decide) (show (240 : Nat) ≠ 235 by decide) (by omega) (by omega) (by rw [show S23.2.1 262 = S.2.1 262 from (funext fun j => ((hL23_ 262 rfl).2.1 j).trans ((hL19_ 262 rfl).2.1 j))]; exact hG.1.2.1.at (i := i + 1) (j := 0) (by omega) (by omega) (by omega) (by omega)) (by rw [show S23.2.1 264 = S.2.1 264 from (funext fun j => ((hL23_ 264 rfl).2.1 j).trans ((hL19_ 264 rfl).2.1 j))]; exact hG.1.2.1.2.2.1)) (c_X12_266 Cx rfl rfl (rmk_ok (by omega) (by decide))) hW (by decide) rfl rfl rfl hl.1 rfl (Nat.le_of_ble_eq_true rfl) dX12_evaluate_105 ⟨Nat.le_of_ble_eq_true rfl, Nat.le_of_ble_eq_true rfl⟩) hL (fun u_78 H locs k_79 hW hL => ?_)
                  obtain ⟨iu_78, fu_78, xu_78⟩ := k_79
                  have F_80 := hFm23.trans (fu_78.to (pl_sub (by decide)))
                  have F_81 := hL23_.trans (fu_78.to (pl_sub (by decide)))
                  have F_82 := (Fr.rf : Fr S23 S23 (pl [233, 234, 235, 237, 238, 240])).trans (fu_78.to (pl_sub (by decide)))
                  have g_83 : FF S u_78 (fl [6, 58, 59, 61, 62, 63, 65, 66, 67, 69, 78, 79, 84, 86]) := FF.fr hGm23 fu_78 rfl
                  have g_84 : FF S19 u_78 (fl []) := FF.fr gL23_ fu_78 rfl
                  have g_85 : FF S23 u_78 (fl []) := FF.fr (FF.rf : FF S23 S23 (fl [])) fu_78 rfl
                  refine lv_aload_n hx hb dX12_evaluate_108 rfl (lv_at hl 3 rfl) ?_
                  refine g_X12_35 Cx hW (k := 231) (by decide) rfl (v := .ref (G.2.2.1 + 240)) (rd_10 iu_78) dX12_evaluate_109 ?_
                  refine lv_iconst (v := iv 0) hx hb dX12_evaluate_112 (by decide) ?_
                  refine rIald Cx hW (k := 240) (by decide) rfl (by decide) (by omega) (by omega) dX12_evaluate_113 ?_
                  have q_86 : (-2147483648) ≤ u_78.2.1 240 0 ∧ u_78.2.1 240 0 ≤ 2147483647 := iu_78.ai 240 0
                  refine r_i (b := u_78.2.1 240 0) rfl ?_
                  refine r_if_eq (tgt := 119) hx hb ⟨(by omega), (by omega)⟩ dX12_evaluate_114 (by decide) (fun c_87 => ?_) (fun c_87 => ?_)
                  · exact join_119 u_78 r1 _ _ _ iu_78 F_80 F_81 F_82 g_83 g_84 g_85 (by omega) hrb hW hL (lv_sub hl [1, 2, 3] rfl)
                  · refine lv_iload_n hx hb dX12_evaluate_117 rfl (lv_at hl 1 rfl) ?_
                    refine lv_istore_n (lv' := [(1, .int (iv i)), (3, .int (iv (S.2.1 265 i))), (2, .int (iv i)), (0, .ref (G.2.2.1 + 231))]) hx hb dX12_evaluate_118 rfl hl (by decide) rfl (fun ls hl => ?_)
                    exact join_119 u_78 i _ _ _ iu_78 F_80 F_81 F_82 g_83 g_84 g_85 (by omega) (fun _ => by omega) hW hL (lv_sub hl [2, 0, 3] rfl)
                · refine lv_aload_n hx hb dX12_evaluate_64 rfl (lv_at hl 3 rfl) ?_
                  refine g_X12_112 Cx hW (k := 231) (by decide) rfl (v := .ref (G.2.2.1 + 265)) (rd_56 hI23) dX12_evaluate_65 ?_
                  refine lv_iload_n hx hb dX12_evaluate_68 rfl (lv_at hl 2 rfl) ?_
                  refine rIald Cx hW (k := 265) (by decide) rfl (by decide) (by omega) (by omega) dX12_evaluate_69 ?_
                  have q_88 : (-2147483648) ≤ S.2.1 265 r1 ∧ S.2.1 265 r1 ≤ 2147483647 := hI.ai 265 r1
                  refine r_i (b := S.2.1 265 r1) (((hL23_ 265 rfl).2.1 r1).trans ((hL19_ 265 rfl).2.1 r1)) ?_
                  refine lv_iload_n hx hb dX12_evaluate_70 rfl (lv_at hl 0 rfl) ?_
                  refine r_icmp_ge (tgt := 77) hx hb ⟨(by omega), (by omega)⟩ ⟨(by omega), (by omega)⟩ dX12_evaluate_71 (by decide) (fun c_89 => ?_) (fun c_89 => ?_)
                  · refine lv_aload_n hx hb dX12_evaluate_77 rfl (lv_at hl 3 rfl) ?_
                    refine lv_aload_n hx hb dX12_evaluate_78 rfl (lv_at hl 3 rfl) ?_
                    refine g_X12_103 Cx hW (k := 231) (by decide) rfl (v := .ref (G.2.2.1 + 262)) (rd_53 hI23) dX12_evaluate_79 ?_
                    refine lv_aload_n hx hb dX12_evaluate_82 rfl (lv_at hl 3 rfl) ?_
                    refine lv_iload_n hx hb dX12_evaluate_83 rfl (lv_at hl 1 rfl) ?_
                    refine lv_iconst (v := iv 1) hx hb dX12_evaluate_84 (by decide) ?_
                    refine r_iadd hx hb dX12_evaluate_85 ?_
                    refine lv_iconst (v := iv 0) hx hb dX12_evaluate_86 (by decide) ?_
                    refine sBi (sV (As := [.int (iv (i + 1)), .int (iv 0)]) (rest := [.ref (G.2.2.1 + 262), .ref (G.2.2.1 + 231)]) (k := 231) Cx (s_X12_cell l G S23 (i := i + 1) (j := 0) (by omega) (by omega)) (c_X12_529 Cx rfl rfl (rmk_ok (by omega) (by decide))) hW (by decide) rfl rfl rfl hl.1 rfl (Nat.le_of_ble_eq_true rfl) dX12_evaluate_87 ⟨Nat.le_of_ble_eq_true rfl, Nat.le_of_ble_eq_true rfl⟩) hL (fun qd u_90 H locs k_91 hW hL => ?_)
                    obtain ⟨eu_90, xu_90⟩ := k_91
                    rw [eu_90] at hW
                    refine lv_aload_n hx hb dX12_evaluate_90 rfl (lv_at hl 3 rfl) ?_
                    refine g_X12_109 Cx hW (k := 231) (by decide) rfl (v := .ref (G.2.2.1 + 264)) (rd_55 hI23) dX12_evaluate_91 ?_
                    refine lv_iconst (v := iv 0) hx hb dX12_evaluate_94 (by decide) ?_
                    refine lv_aload_n hx hb dX12_evaluate_95 rfl (lv_at hl 3 rfl) ?_
                    refine g_X12_26 Cx hW (k := 231) (by decide) rfl (v := .ref (G.2.2.1 + 237)) (rd_7 hI23) dX12_evaluate_96 ?_
                    refine lv_iconst (v := iv 0) hx hb dX12_evaluate_99 (by decide) ?_
                    refine lv_aload_n hx hb dX12_evaluate_100 rfl (lv_at hl 3 rfl) ?_
                    refine g_X12_35 Cx hW (k := 231) (by decide) rfl (v := .ref (G.2.2.1 + 240)) (rd_10 hI23) dX12_evaluate_101 ?_
                    refine lv_iconst (v := iv 0) hx hb dX12_evaluate_104 (by decide) ?_
                    have hbp105 : 0 < S23.2.1 264 0 := by rw [show S23.2.1 264 = S.2.1 264 from (funext fun j => ((hL23_ 264 rfl).2.1 j).trans ((hL19_ 264 rfl).2.1 j))]; exact hG.1.2.1.2.2.1.sgn.2.1.mp hG.1.2.1.2.2.2
                    refine sBv (sV (As := [.ref (G.2.2.1 + 262), .int (iv qd), .ref (G.2.2.1 + 264), .int (iv 0), .ref (G.2.2.1 + 237), .int (iv 0), .ref (G.2.2.1 + 240), .int (iv 0)]) (rest := []) (k := 231) Cx (s_X12_divide l G S23 (ka := 262) (po := qd) (kb := 264) (qo := 0) (kc := 237) (ro := 0) (kd := 240) (eo := 0) (Nka := 5280) (Nkb := 8) (Nkc := 68) (Nkd := 68) (La := 6) (Lb := 6) (Ld := 7) hI23 ⟨rfl, by decide, by decide, by decide, rfl⟩ ⟨rfl, by decide, by decide, by decide, rfl⟩ ⟨rfl, by decide, by decide, by decide, rfl⟩ ⟨rfl, by decide, by decide, by decide, rfl⟩ (show (237 : Nat) ≠ 262 by decide) (show (240 : Nat) ≠ 262 by decide) (show (237 : Nat) ≠ 264 by decide) (show (240 : Nat) ≠ 264 by decide) (show (237 : Nat) ≠ 240 by decide) (show (262 : Nat) ≠ 233 by decide) (show (264 : Nat) ≠ 233 by decide) (show (264 : Nat) ≠ 234 by decide) (show (264 : Nat) ≠ 235 by decide) (show (237 : Nat) ≠ 233 by decide) (show (237 : Nat) ≠ 234 by decide) (show (237 : Nat) ≠ 235 by decide) (show (240 : Nat) ≠ 233 by decide) (show (240 : Nat) ≠ 234 by decide) (show (240 : Nat) ≠ 235 by decide) (by omega) (by omega) (by rw [show S23.2.1 262 = S.2.1 262 from (funext fun j => ((hL23_ 262 rfl).2.1 j).trans ((hL19_ 262 rfl).2.1 j))]; exact hG.1.2.1.at (i := i + 1) (j := 0) (by omega) (by omega) (by omega) (by omega)) (by rw [show S23.2.1 264 = S.2.1 264 from (funext fun j => ((hL23_ 264 rfl).2.1 j).trans ((hL19_ 264 rfl).2.1 j))]; exact hG.1.2.1.2.2.1)) (c_X12_266 Cx rfl rfl (rmk_ok (by omega) (by decide))) hW (by decide) rfl rfl rfl hl.1 rfl (Nat.le_of_ble_eq_true rfl) dX12_evaluate_105 ⟨Nat.le_of_ble_eq_true rfl, Nat.le_of_ble_eq_true rfl⟩) hL (fun u_92 H locs k_93 hW hL => ?_)
                    obtain ⟨iu_92, fu_92, xu_92⟩ := k_93
                    have F_94 := hFm23.trans (fu_92.to (pl_sub (by decide)))
                    have F_95 := hL23_.trans (fu_92.to (pl_sub (by decide)))
                    have F_96 := (Fr.rf : Fr S23 S23 (pl [233, 234, 235, 237, 238, 240])).trans (fu_92.to (pl_sub (by decide)))
                    have g_97 : FF S u_92 (fl [6, 58, 59, 61, 62, 63, 65, 66, 67, 69, 78, 79, 84, 86]) := FF.fr hGm23 fu_92 rfl
                    have g_98 : FF S19 u_92 (fl []) := FF.fr gL23_ fu_92 rfl
                    have g_99 : FF S23 u_92 (fl []) := FF.fr (FF.rf : FF S23 S23 (fl [])) fu_92 rfl
                    refine lv_aload_n hx hb dX12_evaluate_108 rfl (lv_at hl 3 rfl) ?_
                    refine g_X12_35 Cx hW (k := 231) (by decide) rfl (v := .ref (G.2.2.1 + 240)) (rd_10 iu_92) dX12_evaluate_109 ?_
                    refine lv_iconst (v := iv 0) hx hb dX12_evaluate_112 (by decide) ?_
                    refine rIald Cx hW (k := 240) (by decide) rfl (by decide) (by omega) (by omega) dX12_evaluate_113 ?_
                    have q_100 : (-2147483648) ≤ u_92.2.1 240 0 ∧ u_92.2.1 240 0 ≤ 2147483647 := iu_92.ai 240 0
                    refine r_i (b := u_92.2.1 240 0) rfl ?_
                    refine r_if_eq (tgt := 119) hx hb ⟨(by omega), (by omega)⟩ dX12_evaluate_114 (by decide) (fun c_101 => ?_) (fun c_101 => ?_)
                    · exact join_119 u_92 r1 _ _ _ iu_92 F_94 F_95 F_96 g_97 g_98 g_99 (by omega) hrb hW hL (lv_sub hl [1, 2, 3] rfl)
                    · refine lv_iload_n hx hb dX12_evaluate_117 rfl (lv_at hl 1 rfl) ?_
                      refine lv_istore_n (lv' := [(1, .int (iv i)), (3, .int (iv (S.2.1 265 i))), (2, .int (iv i)), (0, .ref (G.2.2.1 + 231))]) hx hb dX12_evaluate_118 rfl hl (by decide) rfl (fun ls hl => ?_)
                      exact join_119 u_92 i _ _ _ iu_92 F_94 F_95 F_96 g_97 g_98 g_99 (by omega) (fun _ => by omega) hW hL (lv_sub hl [2, 0, 3] rfl)
                  · refine lv_goto (tgt := 119) hx hb dX12_evaluate_74 (by decide) ?_
                    exact join_119 S23 r1 _ _ _ hI23 hFm23 hL23_ (Fr.rf : Fr S23 S23 (pl [233, 234, 235, 237, 238, 240])) hGm23 gL23_ (FF.rf : FF S23 S23 (fl [])) (by omega) hrb hW hL (lv_sub hl [1, 2, 3] rfl)
    exact loop_23 (_ + 1) S19 1 0 _ _ _ (Nat.lt_succ_self _) hI19 hFm19 Fr.rf hGm19 FF.rf (by omega) (by omega) (fun q => absurd q (by omega)) hW hL (lv_sub hl [0, 1, 2] rfl)
  refine lv_aload_n hx hb dX12_evaluate_0 rfl (lv_at hl 0 rfl) ?_
  have q_102 : 0 ≤ S.1 231 79 ∧ S.1 231 79 ≤ 1 := hI.fi 79
  refine g_X12_514 Cx hW (k := 231) (by decide) rfl (v := S.1 231 79) rfl dX12_evaluate_1 ?_
  refine r_if_eq (tgt := 19) hx hb ⟨(by omega), (by omega)⟩ dX12_evaluate_4 (by decide) (fun c_103 => ?_) (fun c_103 => ?_)
  · exact join_19 S  _ _ _ hI (Fr.rf : Fr S S (pl [231, 233, 234, 235, 236, 237, 238, 239, 240, 241, 242, 261, 262, 263, 264, 265, 266, 267, 268, 269, 270, 271, 272, 273, 274, 275, 276, 277, 278, 279, 280, 281])) (Fr.rf : Fr S S (pl [233, 234, 235, 237, 238, 240])) FF.rf (FF.rf : FF S S (fl [])) hW hL (lv_sub hl [0] rfl)
  · refine lv_aload_n hx hb dX12_evaluate_7 rfl (lv_at hl 0 rfl) ?_
    refine sBi (sV (As := []) (rest := []) (k := 231) Cx (s_X12_isNoBetter l G S  hI (by unfold MD; have y46 := (show S.1 231 46 = S.1 231 46 from rfl); have y47 := (show S.1 231 47 = S.1 231 47 from rfl); have y63 := (show S.1 231 63 = S.1 231 63 from rfl); omega) hG.1.2.1 (hG.1.2.2.2.1 (by omega))) (c_X12_631 Cx rfl rfl (rmk_ok (by omega) (by decide))) hW (by decide) rfl rfl rfl hl.1 rfl (Nat.le_of_ble_eq_true rfl) dX12_evaluate_8 ⟨Nat.le_of_ble_eq_true rfl, Nat.le_of_ble_eq_true rfl⟩) hL (fun r_106 u_104 H locs k_105 hW hL => ?_)
    obtain ⟨iu_104, fu_104, gu_104, xu_104⟩ := k_105
    have F_107 := (Fr.rf : Fr S S (pl [231, 233, 234, 235, 236, 237, 238, 239, 240, 241, 242, 261, 262, 263, 264, 265, 266, 267, 268, 269, 270, 271, 272, 273, 274, 275, 276, 277, 278, 279, 280, 281])).trans (fu_104.to (pl_sub (by decide)))
    have F_108 := (Fr.rf : Fr S S (pl [233, 234, 235, 237, 238, 240])).trans fu_104
    have g_109 : FF S u_104 (fl [6, 58, 59, 61, 62, 63, 65, 66, 67, 69, 78, 79, 84, 86]) := FF.trans FF.rf (FF.to gu_104 (fl_sub (by decide)))
    have g_110 : FF S u_104 (fl []) := FF.trans (FF.rf : FF S S (fl [])) (FF.to gu_104 (fl_sub (by decide)))
    refine r_if_eq (tgt := 19) hx hb ⟨(by omega), (by omega)⟩ dX12_evaluate_11 (by decide) (fun c_111 => ?_) (fun c_111 => ?_)
    · exact join_19 u_104  _ _ _ iu_104 F_107 F_108 g_109 g_110 hW hL (lv_sub hl [0] rfl)
    · refine lv_aload_n hx hb dX12_evaluate_14 rfl (lv_at hl 0 rfl) ?_
      have q_112 : 0 ≤ S.1 231 60 ∧ S.1 231 60 ≤ 1 := hI.fi 60
      have lk_113 : u_104.1 231 60 = S.1 231 60 := gu_104 60 rfl
      have q_114 : (-2147483648) ≤ S.1 231 78 ∧ S.1 231 78 ≤ 2147483647 := hI.fi 78
      have lk_115 : u_104.1 231 78 = S.1 231 78 := gu_104 78 rfl
      have q_116 : (-2147483648) ≤ S.1 231 61 ∧ S.1 231 61 ≤ 2147483647 := hI.fi 61
      have lk_117 : u_104.1 231 61 = S.1 231 61 := gu_104 61 rfl
      refine sBv (sV (As := []) (rest := []) (k := 231) Cx (s_X12_leafBound l G u_104  iu_104 (GC.sm (S := S) (u := u_104) hG (gu_104 46 rfl) (gu_104 47 rfl) (gu_104 48 rfl) (gu_104 58 rfl) (gu_104 59 rfl) (gu_104 60 rfl) (gu_104 63 rfl) (gu_104 65 rfl) (gu_104 68 rfl) (gu_104 69 rfl) (gu_104 78 rfl) (gu_104 79 rfl) (gu_104 84 rfl) (gu_104 86 rfl) (funext fun j => (fu_104 261 rfl).2.1 j) (funext fun j => (fu_104 262 rfl).2.1 j) (funext fun j => (fu_104 264 rfl).2.1 j) (funext fun j => (fu_104 265 rfl).2.1 j) (funext fun j => (fu_104 266 rfl).2.1 j) (funext fun j => (fu_104 267 rfl).2.1 j) (funext fun j => (fu_104 268 rfl).2.1 j) (funext fun j => (fu_104 269 rfl).2.1 j) (funext fun j => (fu_104 270 rfl).2.1 j) (funext fun j => (fu_104 271 rfl).2.1 j) (funext fun j => (fu_104 272 rfl).2.1 j) (funext fun j => (fu_104 273 rfl).2.1 j) (funext fun j => (fu_104 274 rfl).2.1 j) (funext fun j => (fu_104 260 rfl).2.2.1 j) (funext fun j => (fu_104 290 rfl).2.2.1 j)) (by omega) (by omega)) (c_X12_634 Cx rfl rfl (rmk_ok (by omega) (by decide))) hW (by decide) rfl rfl rfl hl.1 rfl (Nat.le_of_ble_eq_true rfl) dX12_evaluate_15 ⟨Nat.le_of_ble_eq_true rfl, Nat.le_of_ble_eq_true rfl⟩) hL (fun u_118 H locs k_119 hW hL => ?_)
      obtain ⟨iu_118, fu_118, gu_118, xu_118⟩ := k_119
      have F_120 := F_107.trans fu_118
      have g_121 : FF S u_118 (fl [6, 58, 59, 61, 62, 63, 65, 66, 67, 69, 78, 79, 84, 86]) := FF.trans g_109 (FF.to gu_118 (fl_sub (by decide)))
      exact sVret Cx hr hlk hW hL ⟨iu_118, F_120, g_121, (LD.of (X := u_104) xu_118 ((show u_104.1 231 65 = S.1 231 65 from gu_104 65 rfl)))⟩ dX12_evaluate_18
