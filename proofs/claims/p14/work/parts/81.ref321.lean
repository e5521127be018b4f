/-! The checker reads -/
/-- a number of a proof: its token -/
def nTk (X Fm Wd Vt : Int → Int) (t : Int) : Prop := (0 ≤ Fm t ∧ Fm t + Wd t ≤ 30000) ∧ (-1 ≤ Vt t ∧ Vt t ≤ 1) ∧ ∃ g, ((g = 1 ∧ X (Fm t) = 45) ∨ (g = 0 ∧ X (Fm t) ≠ 45)) ∧ (g + 1 ≤ Wd t ∧ Wd t ≤ g + 60) ∧ (∀ x, Fm t + g ≤ x → x < Fm t + Wd t → 48 ≤ X x ∧ X x ≤ 57) ∧ (Vt t = 1 → ∃ x, Fm t + g ≤ x ∧ x < Fm t + Wd t ∧ X x ≠ 48)
def dTQ' (S : sS) (T : Int) : Prop := ∀ t, 0 ≤ t → t < T → S.2.1 244 t = 2 → nTk (S.2.1 243) (S.2.1 245) (S.2.1 246) (S.2.1 247) t
theorem dTQ'.tok {S u : sS} {T k f w v : Int} (h : dTQ' S T) (r : tkR S u T k f w v) (e : u.2.1 243 = S.2.1 243) (hn : k = 2 → (0 ≤ f ∧ f + w ≤ 30000) ∧ (-1 ≤ v ∧ v ≤ 1) ∧ ∃ g, ((g = 1 ∧ S.2.1 243 f = 45) ∨ (g = 0 ∧ S.2.1 243 f ≠ 45)) ∧ (g + 1 ≤ w ∧ w ≤ g + 60) ∧ (∀ x, f + g ≤ x → x < f + w → 48 ≤ S.2.1 243 x ∧ S.2.1 243 x ≤ 57) ∧ (v = 1 → ∃ x, f + g ≤ x ∧ x < f + w ∧ S.2.1 243 x ≠ 48)) : dTQ' u (T + 1) := fun t t0 t1 k2 => by
  rw [r.1] at k2
  unfold nTk
  rw [r.2.1, r.2.2.1, r.2.2.2, e]
  by_cases q : t = T
  · rw [if_pos q] at k2; simp only [if_pos q]; exact hn k2
  · rw [if_neg q] at k2; simp only [if_neg q]; exact h t t0 (by omega) k2
def dTQ (S : sS) : Prop := (1 ≤ S.1 231 19 ∧ S.1 231 19 ≤ 30001) ∧ dTQ' S (S.1 231 19) ∧ dTE S (S.1 231 19 - 1) ∧ (S.2.1 244 (S.1 231 19 - 1) = 5 ∨ S.2.1 244 (S.1 231 19 - 1) = 6)
theorem dTQ.mk1 {S : sS} {T : Int} (e : S.1 231 19 = T + 1) (h0 : 0 ≤ T ∧ T ≤ 30000) (h1 : dTQ' S (T + 1)) (h2 : dTE S T) (h3 : S.2.1 244 T = 5 ∨ S.2.1 244 T = 6) : dTQ S := by
  unfold dTQ; rw [e, show T + 1 - 1 = T by omega]; exact ⟨by omega, h1, h2, h3⟩
theorem dTQ.end {S u : sS} (h : dTQ S) (e19 : u.1 231 19 = S.1 231 19) (a244 : ∀ x, x < S.1 231 19 → u.2.1 244 x = S.2.1 244 x) (a243 : u.2.1 243 = S.2.1 243) (a245 : u.2.1 245 = S.2.1 245) (a246 : u.2.1 246 = S.2.1 246) (a247 : u.2.1 247 = S.2.1 247) : dTQ u := by
  obtain ⟨h0, h1, h2, h3⟩ := h
  unfold dTQ
  rw [e19, a244 _ (by omega)]
  refine ⟨h0, fun t t0 t1 k => ?_, fun t t0 t1 => ?_, h3⟩
  · rw [a243, a245, a246, a247]; exact h1 t t0 t1 (by rw [← a244 _ t1]; exact k)
  · rw [a244 _ (by omega)]; exact h2 t t0 t1
theorem dTQ.gE {S : sS} (h : dTQ S) : gE (S.2.1 244) (S.1 231 19) := ⟨h.1, fun t a b => h.2.2.1 t a b, h.2.2.2⟩
/-- the grammar of proofs -/
def gA (K V : Int → Int) (p q : Int) : Prop := (K p = 2 ∧ 0 < V p) ∧ q = p + 1
def gPo (K V : Int → Int) (n p q : Int) : Prop := (∀ i, 0 ≤ i → i < n → K (p + i) = 2) ∧ gS K V (p + n) 47 ∧ gA K V (p + n + 1) q
def gPnE (K V : Int → Int) (c x : Int) : Prop := gS K V (c + 1) 58 ∧ K (c + 2) = 2 ∧ x = c + 3
def gTrE (K V : Int → Int) : Nat → Int → Int → Int → Prop
  | 0, ct, p, q => ct ≤ 0 ∧ q = p
  | n + 1, ct, p, q => 0 < ct ∧ K p = 3 ∧ ((V p = 5 ∧ K (p + 1) = 2 ∧ K (p + 2) = 2 ∧ gTrE K V n (ct + 1) (p + 3) q) ∨ (6 ≤ V p ∧ ∃ a, gA K V (p + 1) a ∧ ∃ e, gTl (fun c => K c = 2) (gPnE K V) a e ∧ gS K V e 59 ∧ gTrE K V n (if V p = 6 then ct else ct - 1) (e + 1) q))
def gTt (K V : Int → Int) (ct p q : Int) : Prop := ∃ n, gTrE K V n ct p q
theorem gTt.nil {K V : Int → Int} {ct p : Int} (h : ct ≤ 0) : gTt K V ct p p := ⟨0, h, rfl⟩
theorem gTt.br {K V : Int → Int} {ct p q : Int} (h : 0 < ct) (h1 : K p = 3) (h2 : V p = 5) (h3 : K (p + 1) = 2) (h4 : K (p + 2) = 2) (t : gTt K V (ct + 1) (p + 3) q) : gTt K V ct p q := by
  obtain ⟨n, t⟩ := t; exact ⟨n + 1, h, h1, .inl ⟨h2, h3, h4, t⟩⟩
theorem gTt.lf {K V : Int → Int} {ct p q a e : Int} (h : 0 < ct) (h1 : K p = 3) (h2 : 6 ≤ V p) (h3 : gA K V (p + 1) a) (h4 : gTl (fun c => K c = 2) (gPnE K V) a e) (h5 : gS K V e 59) (t : gTt K V (if V p = 6 then ct else ct - 1) (e + 1) q) : gTt K V ct p q := by
  obtain ⟨n, t⟩ := t; exact ⟨n + 1, h, h1, .inr ⟨h2, a, h3, e, h4, h5, t⟩⟩
theorem gTt.inv {K V : Int → Int} {ct p q : Int} (t : gTt K V ct p q) (h : 0 < ct) : K p = 3 ∧ ((V p = 5 ∧ K (p + 1) = 2 ∧ K (p + 2) = 2 ∧ gTt K V (ct + 1) (p + 3) q) ∨ (6 ≤ V p ∧ ∃ a, gA K V (p + 1) a ∧ ∃ e, gTl (fun c => K c = 2) (gPnE K V) a e ∧ gS K V e 59 ∧ gTt K V (if V p = 6 then ct else ct - 1) (e + 1) q)) := by
  obtain ⟨n, t⟩ := t
  cases n with
  | zero => exact absurd t.1 (by omega)
  | succ n =>
    obtain ⟨_, k, t⟩ := t
    refine ⟨k, ?_⟩
    rcases t with ⟨a, b, c, t⟩ | ⟨a, b, c, e, d, f, t⟩
    · exact .inl ⟨a, b, c, n, t⟩
    · exact .inr ⟨a, b, c, e, d, f, n, t⟩
theorem gTt_le {K V : Int → Int} {ct p q : Int} (t : gTt K V ct p q) : p ≤ q := by
  obtain ⟨n, t⟩ := t
  induction n generalizing ct p with
  | zero => have := t.2; omega
  | succ n ih =>
    obtain ⟨_, _, ⟨_, _, _, t⟩ | ⟨_, a, h, e, d, _, t⟩⟩ := t
    · have := ih t; omega
    · have := ih t; have := h.2; have := gTl_le (R := gPnE K V) (fun c x r => by have := r.2.2; omega) d; omega
def gPf (K V : Int → Int) (n T : Int) : Prop := K 0 = 3 ∧ ((V 0 = 0 ∧ K 1 = 2 ∧ K 3 = 2 ∧ 0 < V 3 ∧ ∃ a, gPo K V n 5 a ∧ ∃ b, gTt K V 1 a b ∧ b ≤ T - 1) ∨ (V 0 = 2 ∧ ∃ b, gTt K V 1 1 b ∧ b ≤ T - 1) ∨ (V 0 = 3 ∧ ∃ a, gPo K V n 2 a ∧ ∃ b, gPo K V n (a + 1) b ∧ b ≤ T - 1))
set_option maxRecDepth 100000 in
set_option maxHeartbeats 4000000 in
theorem s_X12_tokenizeProof (l : Launch) (G : sG) (S : sS)  (hI : dX G S) (h14 : 0 ≤ S.1 231 14 ∧ S.1 231 14 ≤ 30000) : Met l yX12_tokenizeProof (.code yX12_tokenizeProof cX12_tokenizeProof 7 none :: tb) (rmk 6 0 0) (sPc G 294 S [.ref (G.2.2.1 + 231)]) (sQv G 294 (fun u => dX G u ∧ Fr S u (pl [231, 244, 245, 246, 247]) ∧ FF S u (fl [19]) ∧ (dTQ u))) 0 0 (sF G) := by
  refine sEnter (by decide) (Nat.le_of_ble_eq_true rfl) ?_
  intro p e s m args below meth c Cx hr hlk hnm hW ls hl
  have Cx : sC G p m c cX12_tokenizeProof 7 s args RX12 := Cx
  obtain ⟨hx, hb, hml, hown, hts⟩ := id Cx.1
  have hL : sL G [] := sL_nil
  have hl : lv_has ls 7 [(0, .ref (G.2.2.1 + 231))] := hl
  have hW0 := hW
  refine lv_aload_n hx hb dX12_tokenizeProof_0 rfl (lv_at hl 0 rfl) ?_
  refine lv_iconst (v := iv 0) hx hb dX12_tokenizeProof_1 (by decide) ?_
  refine p_X12_289 Cx hW hL (k := 231) (by decide) rfl dX12_tokenizeProof_2 (fun H locs hW hL => ?_)
  have F_1 : Fr S (uF S 231 19 0) (pl [231, 244, 245, 246, 247]) := (Fr.rf : Fr S S (pl [231, 244, 245, 246, 247])).F rfl
  have g_2 : FF S (uF S 231 19 0) (fl [19]) := FF.F FF.rf rfl
  have i_3 : dX G (uF S 231 19 0) := hI.F (i := 19) (show (-2147483648) ≤ 0 ∧ 0 ≤ 2147483647 from ⟨by omega, by omega⟩)
  refine lv_iconst (v := iv 0) hx hb dX12_tokenizeProof_5 (by decide) ?_
  refine lv_istore_n (lv' := [(1, .int (iv 0)), (0, .ref (G.2.2.1 + 231))]) hx hb dX12_tokenizeProof_6 rfl hl (by decide) rfl (fun ls hl => ?_)
  have loop_7 : ∀ (fuel : Nat) (S7 : sS) (ps : Int) (H : Heap) (locs : List Loc) (ls : Array Slot), (S.1 231 14 - ps).toNat < fuel → (dX G S7) → (Fr S S7 (pl [231, 244, 245, 246, 247])) → (Fr ((uF S 231 19 0)) S7 (pl [231, 244, 245, 246, 247])) → (FF S S7 (fl [19])) → (FF ((uF S 231 19 0)) S7 (fl [19])) → (0 ≤ ps ∧ ps ≤ S.1 231 14) → (0 ≤ S7.1 231 19 ∧ S7.1 231 19 ≤ ps) → (dTQ' S7 (S7.1 231 19)) → (dTE S7 (S7.1 231 19)) → sW G 294 S7 H → sL G locs → lv_has ls 7 [(1, .int (iv ps)), (0, .ref (G.2.2.1 + 231))] → W p l e (rmk 6 0 0) s m args below meth c H locs 0 0 (MQ below (sQv G 294 (fun u => dX G u ∧ Fr S u (pl [231, 244, 245, 246, 247]) ∧ FF S u (fl [19]) ∧ (dTQ u))) args s 0 0 (sF G)) (F0 m 7 ls []) := by
    intro fuel
    induction fuel with
    | zero => intro S7 ps H locs ls hmeas hI7 hFm7 hL7_ hGm7 gL7_ hp hT hTP hTE hW hL hl; exact absurd hmeas (Nat.not_lt_zero _)
    | succ fuel ih_7 =>
      intro S7 ps H locs ls hmeas hI7 hFm7 hL7_ hGm7 gL7_ hp hT hTP hTE hW hL hl
      have z14 : S7.1 231 14 = S.1 231 14 := hGm7 14 rfl
      refine lv_iload_n hx hb dX12_tokenizeProof_7 rfl (lv_at hl 0 rfl) ?_
      refine lv_aload_n hx hb dX12_tokenizeProof_8 rfl (lv_at hl 1 rfl) ?_
      have q_4 : (-2147483648) ≤ S.1 231 14 ∧ S.1 231 14 ≤ 2147483647 := hI.fi 14
      refine g_X12_276 Cx hW (k := 231) (by decide) rfl (v := S.1 231 14) ((gL7_ 14 rfl).trans (uF_ne (fun h => absurd h.2 (by decide)))) dX12_tokenizeProof_9 ?_
      refine r_icmp_ge (tgt := 324) hx hb ⟨(by omega), (by omega)⟩ ⟨(by omega), (by omega)⟩ dX12_tokenizeProof_12 (by decide) (fun c_5 => ?_) (fun c_5 => ?_)
      · refine lv_aload_n hx hb dX12_tokenizeProof_324 rfl (lv_at hl 1 rfl) ?_
        have q_6 : (-2147483648) ≤ S7.1 231 19 ∧ S7.1 231 19 ≤ 2147483647 := hI7.fi 19
        refine g_X12_289 Cx hW (k := 231) (by decide) rfl (v := S7.1 231 19) rfl dX12_tokenizeProof_325 ?_
        refine r_if_eq (tgt := 347) hx hb ⟨(by omega), (by omega)⟩ dX12_tokenizeProof_328 (by decide) (fun c_7 => ?_) (fun c_7 => ?_)
        · refine lv_aload_n hx hb dX12_tokenizeProof_347 rfl (lv_at hl 1 rfl) ?_
          refine lv_iconst (v := iv 5) hx hb dX12_tokenizeProof_348 (by decide) ?_
          refine lv_aload_n hx hb dX12_tokenizeProof_349 rfl (lv_at hl 1 rfl) ?_
          refine g_X12_276 Cx hW (k := 231) (by decide) rfl (v := S.1 231 14) ((gL7_ 14 rfl).trans (uF_ne (fun h => absurd h.2 (by decide)))) dX12_tokenizeProof_350 ?_
          refine lv_iconst (v := iv 0) hx hb dX12_tokenizeProof_353 (by decide) ?_
          refine lv_iconst (v := iv 0) hx hb dX12_tokenizeProof_354 (by decide) ?_
          refine sBv (sV (As := [.int (iv 5), .int (iv (S.1 231 14)), .int (iv 0), .int (iv 0)]) (rest := []) (k := 231) Cx (s_X12_token l G S7 (k := 5) (f := S.1 231 14) (wd := 0) (v := 0) hI7 (by omega) (by omega) (by omega) (by omega) (by omega)) (c_X12_308 Cx rfl rfl (rmk_ok (by omega) (by decide))) hW (by decide) rfl rfl rfl hl.1 rfl (Nat.le_of_ble_eq_true rfl) dX12_tokenizeProof_355 ⟨Nat.le_of_ble_eq_true rfl, Nat.le_of_ble_eq_true rfl⟩) hL (fun u_8 H locs k_9 hW hL => ?_)
          obtain ⟨iu_8, fu_8, gu_8, xu_8⟩ := k_9
          have F_10 := hFm7.trans fu_8
          have F_11 := hL7_.trans fu_8
          have g_12 : FF S u_8 (fl [19]) := FF.trans hGm7 (FF.to gu_8 (fl_sub (by decide)))
          have g_13 : FF ((uF S 231 19 0)) u_8 (fl [19]) := FF.trans gL7_ (FF.to gu_8 (fl_sub (by decide)))
          have hTO : dTQ u_8 := dTQ.mk1 (T := S7.1 231 19) xu_8.1 (by omega) (hTP.tok xu_8.2 (funext fun j => (fu_8 243 rfl).2.1 j) (fun z => absurd z (by decide))) (hTE.tok xu_8.2) (.inl (by rw [xu_8.2.1, if_pos rfl]))
          refine lv_aload_n hx hb dX12_tokenizeProof_358 rfl (lv_at hl 1 rfl) ?_
          have q_14 : (-2147483648) ≤ u_8.1 231 19 ∧ u_8.1 231 19 ≤ 2147483647 := iu_8.fi 19
          refine g_X12_289 Cx hW (k := 231) (by decide) rfl (v := u_8.1 231 19) rfl dX12_tokenizeProof_359 ?_
          refine lv_istore_n (lv' := [(2, .int (iv (u_8.1 231 19))), (1, .int (iv ps)), (0, .ref (G.2.2.1 + 231))]) hx hb dX12_tokenizeProof_362 rfl hl (by decide) rfl (fun ls hl => ?_)
          have loop_363 : ∀ (fuel : Nat) (S363 : sS) (i : Int) (H : Heap) (locs : List Loc) (ls : Array Slot), (40000 - i).toNat < fuel → (dX G S363) → (Fr S S363 (pl [231, 244, 245, 246, 247])) → (Fr u_8 S363 (pl [244])) → (FF S S363 (fl [19])) → (FF u_8 S363 (fl [])) → (u_8.1 231 19 ≤ i ∧ i ≤ u_8.1 231 19 + 3) → (∀ x, x < u_8.1 231 19 → S363.2.1 244 x = u_8.2.1 244 x) → sW G 294 S363 H → sL G locs → lv_has ls 7 [(2, .int (iv i)), (1, .int (iv ps)), (0, .ref (G.2.2.1 + 231))] → W p l e (rmk 6 0 0) s m args below meth c H locs 0 0 (MQ below (sQv G 294 (fun u => dX G u ∧ Fr S u (pl [231, 244, 245, 246, 247]) ∧ FF S u (fl [19]) ∧ (dTQ u))) args s 0 0 (sF G)) (F0 m 363 ls []) := by
            intro fuel
            induction fuel with
            | zero => intro S363 i H locs ls hmeas hI363 hFm363 hL363_ hGm363 gL363_ hi h363 hW hL hl; exact absurd hmeas (Nat.not_lt_zero _)
            | succ fuel ih_363 =>
              intro S363 i H locs ls hmeas hI363 hFm363 hL363_ hGm363 gL363_ hi h363 hW hL hl
              refine lv_iload_n hx hb dX12_tokenizeProof_363 rfl (lv_at hl 0 rfl) ?_
              refine lv_aload_n hx hb dX12_tokenizeProof_364 rfl (lv_at hl 2 rfl) ?_
              refine g_X12_289 Cx hW (k := 231) (by decide) rfl (v := u_8.1 231 19) (gL363_ 19 rfl) dX12_tokenizeProof_365 ?_
              refine lv_iconst (v := iv 3) hx hb dX12_tokenizeProof_368 (by decide) ?_
              refine r_iadd hx hb dX12_tokenizeProof_369 ?_
              refine r_icmp_ge (tgt := 386) hx hb ⟨(by omega), (by omega)⟩ ⟨(by omega), (by omega)⟩ dX12_tokenizeProof_370 (by decide) (fun c_15 => ?_) (fun c_15 => ?_)
              · exact sVret Cx hr hlk hW hL ⟨hI363, hFm363, hGm363, (dTQ.end hTO (gL363_ 19 rfl) (fun x a => h363 x (by omega)) (funext fun j => (hL363_ 243 rfl).2.1 j) (funext fun j => (hL363_ 245 rfl).2.1 j) (funext fun j => (hL363_ 246 rfl).2.1 j) (funext fun j => (hL363_ 247 rfl).2.1 j))⟩ dX12_tokenizeProof_386
              · refine lv_aload_n hx hb dX12_tokenizeProof_373 rfl (lv_at hl 2 rfl) ?_
                refine g_X12_47 Cx hW (k := 231) (by decide) rfl (v := .ref (G.2.2.1 + 244)) (rd_15 hI363) dX12_tokenizeProof_374 ?_
                refine lv_iload_n hx hb dX12_tokenizeProof_377 rfl (lv_at hl 0 rfl) ?_
                refine lv_iconst (v := iv 5) hx hb dX12_tokenizeProof_378 (by decide) ?_
                refine rIast Cx hW hL (k := 244) (by decide) rfl (by decide) (by omega) (by omega) dX12_tokenizeProof_379 (fun H locs hW hL => ?_)
                have F_16 : Fr S (uA S363 244 i 5) (pl [231, 244, 245, 246, 247]) := hFm363.A rfl
                have F_17 : Fr u_8 (uA S363 244 i 5) (pl [244]) := hL363_.A rfl
                have i_18 : dX G (uA S363 244 i 5) := hI363.A (k := 244) (show (-2147483648) ≤ 5 ∧ 5 ≤ 2147483647 from ⟨by omega, by omega⟩)
                refine lv_iinc (v := iv (i + 1)) (lv' := [(2, .int (iv (i + 1))), (1, .int (iv ps)), (0, .ref (G.2.2.1 + 231))]) hx hb dX12_tokenizeProof_380 hl (k := 0) rfl ((Int32.ofInt_add _ _).symm) (by decide) rfl (fun ls hl => ?_)
                refine lv_goto (tgt := 363) hx hb dX12_tokenizeProof_383 (by decide) ?_
                exact ih_363 (uA S363 244 i 5) (i + 1) _ _ _ (by omega) i_18 F_16 F_17 hGm363 gL363_ (by omega) (fun x a => by rw [uA_ne (fun h => by have := h.2; omega)]; exact h363 x a) hW hL (lv_sub hl [0, 1, 2] rfl)
          exact loop_363 (_ + 1) u_8 (u_8.1 231 19) _ _ _ (Nat.lt_succ_self _) iu_8 F_10 Fr.rf g_12 FF.rf (by omega) (fun x _ => rfl) hW hL (lv_sub hl [0, 1, 2] rfl)
        · have hte9 := hTE (S7.1 231 19 - 1) (by omega) (by omega)
          refine lv_aload_n hx hb dX12_tokenizeProof_331 rfl (lv_at hl 1 rfl) ?_
          refine g_X12_47 Cx hW (k := 231) (by decide) rfl (v := .ref (G.2.2.1 + 244)) (rd_15 hI7) dX12_tokenizeProof_332 ?_
          refine lv_aload_n hx hb dX12_tokenizeProof_335 rfl (lv_at hl 1 rfl) ?_
          refine g_X12_289 Cx hW (k := 231) (by decide) rfl (v := S7.1 231 19) rfl dX12_tokenizeProof_336 ?_
          refine lv_iconst (v := iv 1) hx hb dX12_tokenizeProof_339 (by decide) ?_
          refine r_isub hx hb dX12_tokenizeProof_340 ?_
          refine rIald Cx hW (k := 244) (by decide) rfl (by decide) (by omega) (by omega) dX12_tokenizeProof_341 ?_
          have q_19 : (-2147483648) ≤ S7.2.1 244 ((S7.1 231 19) - 1) ∧ S7.2.1 244 ((S7.1 231 19) - 1) ≤ 2147483647 := hI7.ai 244 ((S7.1 231 19) - 1)
          refine r_i (b := S7.2.1 244 ((S7.1 231 19) - 1)) rfl ?_
          refine lv_bipush (v := iv 6) hx hb dX12_tokenizeProof_342 (by decide) ?_
          refine r_icmp_eq (tgt := 358) hx hb ⟨(by omega), (by omega)⟩ ⟨(by omega), (by omega)⟩ dX12_tokenizeProof_344 (by decide) (fun c => absurd c (by omega)) (fun _ => ?_)
          refine lv_aload_n hx hb dX12_tokenizeProof_347 rfl (lv_at hl 1 rfl) ?_
          refine lv_iconst (v := iv 5) hx hb dX12_tokenizeProof_348 (by decide) ?_
          refine lv_aload_n hx hb dX12_tokenizeProof_349 rfl (lv_at hl 1 rfl) ?_
          refine g_X12_276 Cx hW (k := 231) (by decide) rfl (v := S.1 231 14) ((gL7_ 14 rfl).trans (uF_ne (fun h => absurd h.2 (by decide)))) dX12_tokenizeProof_350 ?_
          refine lv_iconst (v := iv 0) hx hb dX12_tokenizeProof_353 (by decide) ?_
          refine lv_iconst (v := iv 0) hx hb dX12_tokenizeProof_354 (by decide) ?_
          refine sBv (sV (As := [.int (iv 5), .int (iv (S.1 231 14)), .int (iv 0), .int (iv 0)]) (rest := []) (k := 231) Cx (s_X12_token l G S7 (k := 5) (f := S.1 231 14) (wd := 0) (v := 0) hI7 (by omega) (by omega) (by omega) (by omega) (by omega)) (c_X12_308 Cx rfl rfl (rmk_ok (by omega) (by decide))) hW (by decide) rfl rfl rfl hl.1 rfl (Nat.le_of_ble_eq_true rfl) dX12_tokenizeProof_355 ⟨Nat.le_of_ble_eq_true rfl, Nat.le_of_ble_eq_true rfl⟩) hL (fun u_20 H locs k_21 hW hL => ?_)
          obtain ⟨iu_20, fu_20, gu_20, xu_20⟩ := k_21
          have F_22 := hFm7.trans fu_20
          have F_23 := hL7_.trans fu_20
          have g_24 : FF S u_20 (fl [19]) := FF.trans hGm7 (FF.to gu_20 (fl_sub (by decide)))
          have g_25 : FF ((uF S 231 19 0)) u_20 (fl [19]) := FF.trans gL7_ (FF.to gu_20 (fl_sub (by decide)))
          have hTO : dTQ u_20 := dTQ.mk1 (T := S7.1 231 19) xu_20.1 (by omega) (hTP.tok xu_20.2 (funext fun j => (fu_20 243 rfl).2.1 j) (fun z => absurd z (by decide))) (hTE.tok xu_20.2) (.inl (by rw [xu_20.2.1, if_pos rfl]))
          refine lv_aload_n hx hb dX12_tokenizeProof_358 rfl (lv_at hl 1 rfl) ?_
          have q_26 : (-2147483648) ≤ u_20.1 231 19 ∧ u_20.1 231 19 ≤ 2147483647 := iu_20.fi 19
          refine g_X12_289 Cx hW (k := 231) (by decide) rfl (v := u_20.1 231 19) rfl dX12_tokenizeProof_359 ?_
          refine lv_istore_n (lv' := [(2, .int (iv (u_20.1 231 19))), (1, .int (iv ps)), (0, .ref (G.2.2.1 + 231))]) hx hb dX12_tokenizeProof_362 rfl hl (by decide) rfl (fun ls hl => ?_)
          have loop_363 : ∀ (fuel : Nat) (S363 : sS) (i : Int) (H : Heap) (locs : List Loc) (ls : Array Slot), (40000 - i).toNat < fuel → (dX G S363) → (Fr S S363 (pl [231, 244, 245, 246, 247])) → (Fr u_20 S363 (pl [244])) → (FF S S363 (fl [19])) → (FF u_20 S363 (fl [])) → (u_20.1 231 19 ≤ i ∧ i ≤ u_20.1 231 19 + 3) → (∀ x, x < u_20.1 231 19 → S363.2.1 244 x = u_20.2.1 244 x) → sW G 294 S363 H → sL G locs → lv_has ls 7 [(2, .int (iv i)), (1, .int (iv ps)), (0, .ref (G.2.2.1 + 231))] → W p l e (rmk 6 0 0) s m args below meth c H locs 0 0 (MQ below (sQv G 294 (fun u => dX G u ∧ Fr S u (pl [231, 244, 245, 246, 247]) ∧ FF S u (fl [19]) ∧ (dTQ u))) args s 0 0 (sF G)) (F0 m 363 ls []) := by
            intro fuel
            induction fuel with
            | zero => intro S363 i H locs ls hmeas hI363 hFm363 hL363_ hGm363 gL363_ hi h363 hW hL hl; exact absurd hmeas (Nat.not_lt_zero _)
            | succ fuel ih_363 =>
              intro S363 i H locs ls hmeas hI363 hFm363 hL363_ hGm363 gL363_ hi h363 hW hL hl
              refine lv_iload_n hx hb dX12_tokenizeProof_363 rfl (lv_at hl 0 rfl) ?_
              refine lv_aload_n hx hb dX12_tokenizeProof_364 rfl (lv_at hl 2 rfl) ?_
              refine g_X12_289 Cx hW (k := 231) (by decide) rfl (v := u_20.1 231 19) (gL363_ 19 rfl) dX12_tokenizeProof_365 ?_
              refine lv_iconst (v := iv 3) hx hb dX12_tokenizeProof_368 (by decide) ?_
              refine r_iadd hx hb dX12_tokenizeProof_369 ?_
              refine r_icmp_ge (tgt := 386) hx hb ⟨(by omega), (by omega)⟩ ⟨(by omega), (by omega)⟩ dX12_tokenizeProof_370 (by decide) (fun c_27 => ?_) (fun c_27 => ?_)
              · exact sVret Cx hr hlk hW hL ⟨hI363, hFm363, hGm363, (dTQ.end hTO (gL363_ 19 rfl) (fun x a => h363 x (by omega)) (funext fun j => (hL363_ 243 rfl).2.1 j) (funext fun j => (hL363_ 245 rfl).2.1 j) (funext fun j => (hL363_ 246 rfl).2.1 j) (funext fun j => (hL363_ 247 rfl).2.1 j))⟩ dX12_tokenizeProof_386
              · refine lv_aload_n hx hb dX12_tokenizeProof_373 rfl (lv_at hl 2 rfl) ?_
                refine g_X12_47 Cx hW (k := 231) (by decide) rfl (v := .ref (G.2.2.1 + 244)) (rd_15 hI363) dX12_tokenizeProof_374 ?_
                refine lv_iload_n hx hb dX12_tokenizeProof_377 rfl (lv_at hl 0 rfl) ?_
                refine lv_iconst (v := iv 5) hx hb dX12_tokenizeProof_378 (by decide) ?_
                refine rIast Cx hW hL (k := 244) (by decide) rfl (by decide) (by omega) (by omega) dX12_tokenizeProof_379 (fun H locs hW hL => ?_)
                have F_28 : Fr S (uA S363 244 i 5) (pl [231, 244, 245, 246, 247]) := hFm363.A rfl
                have F_29 : Fr u_20 (uA S363 244 i 5) (pl [244]) := hL363_.A rfl
                have i_30 : dX G (uA S363 244 i 5) := hI363.A (k := 244) (show (-2147483648) ≤ 5 ∧ 5 ≤ 2147483647 from ⟨by omega, by omega⟩)
                refine lv_iinc (v := iv (i + 1)) (lv' := [(2, .int (iv (i + 1))), (1, .int (iv ps)), (0, .ref (G.2.2.1 + 231))]) hx hb dX12_tokenizeProof_380 hl (k := 0) rfl ((Int32.ofInt_add _ _).symm) (by decide) rfl (fun ls hl => ?_)
                refine lv_goto (tgt := 363) hx hb dX12_tokenizeProof_383 (by decide) ?_
                exact ih_363 (uA S363 244 i 5) (i + 1) _ _ _ (by omega) i_30 F_28 F_29 hGm363 gL363_ (by omega) (fun x a => by rw [uA_ne (fun h => by have := h.2; omega)]; exact h363 x a) hW hL (lv_sub hl [0, 1, 2] rfl)
          exact loop_363 (_ + 1) u_20 (u_20.1 231 19) _ _ _ (Nat.lt_succ_self _) iu_20 F_22 Fr.rf g_24 FF.rf (by omega) (fun x _ => rfl) hW hL (lv_sub hl [0, 1, 2] rfl)
      · refine lv_aload_n hx hb dX12_tokenizeProof_15 rfl (lv_at hl 1 rfl) ?_
        refine g_X12_44 Cx hW (k := 231) (by decide) rfl (v := .ref (G.2.2.1 + 243)) (rd_13 hI7) dX12_tokenizeProof_16 ?_
        refine lv_iload_n hx hb dX12_tokenizeProof_19 rfl (lv_at hl 0 rfl) ?_
        refine rBald Cx hW (k := 243) (by decide) rfl (by decide) (by omega) (by omega) dX12_tokenizeProof_20 ?_
        have q_31 : (-128) ≤ S.2.1 243 ps ∧ S.2.1 243 ps ≤ 127 := hI.ai 243 ps
        refine r_i (b := S.2.1 243 ps) (((hL7_ 243 rfl).2.1 ps).trans (uF_a)) ?_
        have hrc : S.2.1 243 ps = S.2.1 243 ps := rfl
        refine lv_istore_n (lv' := [(2, .int (iv (S.2.1 243 ps))), (1, .int (iv ps)), (0, .ref (G.2.2.1 + 231))]) hx hb dX12_tokenizeProof_21 rfl hl (by decide) rfl (fun ls hl => ?_)
        refine lv_iload_n hx hb dX12_tokenizeProof_22 rfl (lv_at hl 0 rfl) ?_
        refine lv_bipush (v := iv 32) hx hb dX12_tokenizeProof_23 (by decide) ?_
        refine r_icmp_eq (tgt := 34) hx hb ⟨(by omega), (by omega)⟩ ⟨(by omega), (by omega)⟩ dX12_tokenizeProof_25 (by decide) (fun c_32 => ?_) (fun c_32 => ?_)
        · refine lv_iinc (v := iv (ps + 1)) (lv' := [(1, .int (iv (ps + 1))), (2, .int (iv (S.2.1 243 ps))), (0, .ref (G.2.2.1 + 231))]) hx hb dX12_tokenizeProof_34 hl (k := 1) rfl ((Int32.ofInt_add _ _).symm) (by decide) rfl (fun ls hl => ?_)
          refine lv_goto (tgt := 7) hx hb dX12_tokenizeProof_37 (by decide) ?_
          have q_33 : (-2147483648) ≤ S7.1 231 19 ∧ S7.1 231 19 ≤ 2147483647 := hI7.fi 19
          exact ih_7 S7 (ps + 1) _ _ _ (by omega) hI7 hFm7 hL7_ hGm7 gL7_ (by omega) (by omega) hTP hTE hW hL (lv_sub hl [0, 2] rfl)
        · refine lv_iload_n hx hb dX12_tokenizeProof_28 rfl (lv_at hl 0 rfl) ?_
          refine lv_bipush (v := iv 10) hx hb dX12_tokenizeProof_29 (by decide) ?_
          refine r_icmp_ne (tgt := 40) hx hb ⟨(by omega), (by omega)⟩ ⟨(by omega), (by omega)⟩ dX12_tokenizeProof_31 (by decide) (fun c_34 => ?_) (fun c_34 => ?_)
          · refine lv_iconst (v := iv 0) hx hb dX12_tokenizeProof_40 (by decide) ?_
            refine lv_istore_n (lv' := [(3, .int (iv 0)), (2, .int (iv (S.2.1 243 ps))), (1, .int (iv ps)), (0, .ref (G.2.2.1 + 231))]) hx hb dX12_tokenizeProof_41 rfl hl (by decide) rfl (fun ls hl => ?_)
            refine lv_iconst (v := iv 0) hx hb dX12_tokenizeProof_42 (by decide) ?_
            refine lv_istore (lv' := [(4, .int (iv 0)), (3, .int (iv 0)), (2, .int (iv (S.2.1 243 ps))), (1, .int (iv ps)), (0, .ref (G.2.2.1 + 231))]) hx hb dX12_tokenizeProof_43 hl (by decide) rfl (fun ls hl => ?_)
            have join_309 : ∀ (S309 : sS) (ok1 : Int) (w1 : Int) (H : Heap) (locs : List Loc) (ls : Array Slot), (dX G S309) → (Fr S S309 (pl [231, 244, 245, 246, 247])) → (Fr ((uF S 231 19 0)) S309 (pl [231, 244, 245, 246, 247])) → (Fr S7 S309 (pl [231, 244, 245, 246, 247])) → (FF S S309 (fl [19])) → (FF ((uF S 231 19 0)) S309 (fl [19])) → (FF S7 S309 (fl [19])) → ((0 ≤ ok1 ∧ ok1 ≤ 1) ∧ (ok1 = 1 → 1 ≤ w1 ∧ ps + w1 ≤ S.1 231 14) ∧ 0 ≤ w1 ∧ w1 ≤ 40000) → (S309.1 231 19 = S7.1 231 19 + 1) → (dTQ' S309 (S7.1 231 19 + 1)) → ((ok1 = 1 → 1 ≤ S309.2.1 244 (S7.1 231 19) ∧ S309.2.1 244 (S7.1 231 19) ≤ 4) ∧ (ok1 = 0 → S309.2.1 244 (S7.1 231 19) = 6)) → (dTE S309 (S7.1 231 19)) → sW G 294 S309 H → sL G locs → lv_has ls 7 [(4, .int (iv ok1)), (3, .int (iv w1)), (2, .int (iv (S.2.1 243 ps))), (1, .int (iv ps)), (0, .ref (G.2.2.1 + 231))] → W p l e (rmk 6 0 0) s m args below meth c H locs 0 0 (MQ below (sQv G 294 (fun u => dX G u ∧ Fr S u (pl [231, 244, 245, 246, 247]) ∧ FF S u (fl [19]) ∧ (dTQ u))) args s 0 0 (sF G)) (F0 m 309 ls []) := by
              intro S309 ok1 w1 H locs ls hI309 hFm309 hFL7309 hL309_ hGm309 hGL7309 gL309_ hw1 hj0 hj1 hj3 hj4 hW hL hl
              have z14b : S309.1 231 14 = S.1 231 14 := hGm309 14 rfl
              refine lv_iload hx hb dX12_tokenizeProof_309 (lv_at hl 0 rfl) ?_
              refine r_if_ne (tgt := 317) hx hb ⟨(by omega), (by omega)⟩ dX12_tokenizeProof_311 (by decide) (fun c_35 => ?_) (fun c_35 => ?_)
              · refine lv_iload_n hx hb dX12_tokenizeProof_317 rfl (lv_at hl 3 rfl) ?_
                refine lv_iload_n hx hb dX12_tokenizeProof_318 rfl (lv_at hl 1 rfl) ?_
                refine r_iadd hx hb dX12_tokenizeProof_319 ?_
                refine lv_istore_n (lv' := [(1, .int (iv (ps + w1))), (4, .int (iv ok1)), (3, .int (iv w1)), (2, .int (iv (S.2.1 243 ps))), (0, .ref (G.2.2.1 + 231))]) hx hb dX12_tokenizeProof_320 rfl hl (by decide) rfl (fun ls hl => ?_)
                refine lv_goto (tgt := 7) hx hb dX12_tokenizeProof_321 (by decide) ?_
                have q_36 : (-2147483648) ≤ S309.1 231 19 ∧ S309.1 231 19 ≤ 2147483647 := hI309.fi 19
                exact ih_7 S309 (ps + w1) _ _ _ (by omega) hI309 hFm309 hFL7309 hGm309 hGL7309 (by omega) (by omega) (by rw [hj0]; exact hj1) (by rw [hj0]; exact hj4.one (by omega)) hW hL (lv_sub hl [0, 4] rfl)
              · refine lv_goto (tgt := 324) hx hb dX12_tokenizeProof_314 (by decide) ?_
                refine lv_aload_n hx hb dX12_tokenizeProof_324 rfl (lv_at hl 4 rfl) ?_
                have q_37 : (-2147483648) ≤ S309.1 231 19 ∧ S309.1 231 19 ≤ 2147483647 := hI309.fi 19
                refine g_X12_289 Cx hW (k := 231) (by decide) rfl (v := S309.1 231 19) rfl dX12_tokenizeProof_325 ?_
                refine r_if_eq (tgt := 347) hx hb ⟨(by omega), (by omega)⟩ dX12_tokenizeProof_328 (by decide) (fun c => absurd c (by omega)) (fun _ => ?_)
                have hrd : S309.2.1 244 (S309.1 231 19 - 1) = 6 := by rw [show S309.1 231 19 - 1 = S7.1 231 19 by omega]; omega
                refine lv_aload_n hx hb dX12_tokenizeProof_331 rfl (lv_at hl 4 rfl) ?_
                refine g_X12_47 Cx hW (k := 231) (by decide) rfl (v := .ref (G.2.2.1 + 244)) (rd_15 hI309) dX12_tokenizeProof_332 ?_
                refine lv_aload_n hx hb dX12_tokenizeProof_335 rfl (lv_at hl 4 rfl) ?_
                refine g_X12_289 Cx hW (k := 231) (by decide) rfl (v := S309.1 231 19) rfl dX12_tokenizeProof_336 ?_
                refine lv_iconst (v := iv 1) hx hb dX12_tokenizeProof_339 (by decide) ?_
                refine r_isub hx hb dX12_tokenizeProof_340 ?_
                refine rIald Cx hW (k := 244) (by decide) rfl (by decide) (by omega) (by omega) dX12_tokenizeProof_341 ?_
                have q_38 : (-2147483648) ≤ S309.2.1 244 ((S309.1 231 19) - 1) ∧ S309.2.1 244 ((S309.1 231 19) - 1) ≤ 2147483647 := hI309.ai 244 ((S309.1 231 19) - 1)
                refine r_i (b := S309.2.1 244 ((S309.1 231 19) - 1)) rfl ?_
                refine lv_bipush (v := iv 6) hx hb dX12_tokenizeProof_342 (by decide) ?_
                refine r_icmp_eq (tgt := 358) hx hb ⟨(by omega), (by omega)⟩ ⟨(by omega), (by omega)⟩ dX12_tokenizeProof_344 (by decide) (fun _ => ?_) (fun c => absurd (by omega) c)
                have hTO : dTQ S309 := dTQ.mk1 (T := S7.1 231 19) (by omega) (by omega) hj1 hj4 (.inr (by omega))
                refine lv_aload_n hx hb dX12_tokenizeProof_358 rfl (lv_at hl 4 rfl) ?_
                refine g_X12_289 Cx hW (k := 231) (by decide) rfl (v := S309.1 231 19) rfl dX12_tokenizeProof_359 ?_
                refine lv_istore_n (lv' := [(2, .int (iv (S309.1 231 19))), (4, .int (iv ok1)), (3, .int (iv w1)), (1, .int (iv ps)), (0, .ref (G.2.2.1 + 231))]) hx hb dX12_tokenizeProof_362 rfl hl (by decide) rfl (fun ls hl => ?_)
                have loop_363 : ∀ (fuel : Nat) (S363 : sS) (i : Int) (H : Heap) (locs : List Loc) (ls : Array Slot), (40000 - i).toNat < fuel → (dX G S363) → (Fr S S363 (pl [231, 244, 245, 246, 247])) → (Fr S309 S363 (pl [244])) → (FF S S363 (fl [19])) → (FF S309 S363 (fl [])) → (S309.1 231 19 ≤ i ∧ i ≤ S309.1 231 19 + 3) → (∀ x, x < S309.1 231 19 → S363.2.1 244 x = S309.2.1 244 x) → sW G 294 S363 H → sL G locs → lv_has ls 7 [(2, .int (iv i)), (4, .int (iv ok1)), (3, .int (iv w1)), (1, .int (iv ps)), (0, .ref (G.2.2.1 + 231))] → W p l e (rmk 6 0 0) s m args below meth c H locs 0 0 (MQ below (sQv G 294 (fun u => dX G u ∧ Fr S u (pl [231, 244, 245, 246, 247]) ∧ FF S u (fl [19]) ∧ (dTQ u))) args s 0 0 (sF G)) (F0 m 363 ls []) := by
                  intro fuel
                  induction fuel with
                  | zero => intro S363 i H locs ls hmeas hI363 hFm363 hL363_ hGm363 gL363_ hi h363 hW hL hl; exact absurd hmeas (Nat.not_lt_zero _)
                  | succ fuel ih_363 =>
                    intro S363 i H locs ls hmeas hI363 hFm363 hL363_ hGm363 gL363_ hi h363 hW hL hl
                    refine lv_iload_n hx hb dX12_tokenizeProof_363 rfl (lv_at hl 0 rfl) ?_
                    refine lv_aload_n hx hb dX12_tokenizeProof_364 rfl (lv_at hl 4 rfl) ?_
                    refine g_X12_289 Cx hW (k := 231) (by decide) rfl (v := S309.1 231 19) (gL363_ 19 rfl) dX12_tokenizeProof_365 ?_
                    refine lv_iconst (v := iv 3) hx hb dX12_tokenizeProof_368 (by decide) ?_
                    refine r_iadd hx hb dX12_tokenizeProof_369 ?_
                    refine r_icmp_ge (tgt := 386) hx hb ⟨(by omega), (by omega)⟩ ⟨(by omega), (by omega)⟩ dX12_tokenizeProof_370 (by decide) (fun c_39 => ?_) (fun c_39 => ?_)
                    · exact sVret Cx hr hlk hW hL ⟨hI363, hFm363, hGm363, (dTQ.end hTO (gL363_ 19 rfl) (fun x a => h363 x (by omega)) (funext fun j => (hL363_ 243 rfl).2.1 j) (funext fun j => (hL363_ 245 rfl).2.1 j) (funext fun j => (hL363_ 246 rfl).2.1 j) (funext fun j => (hL363_ 247 rfl).2.1 j))⟩ dX12_tokenizeProof_386
                    · refine lv_aload_n hx hb dX12_tokenizeProof_373 rfl (lv_at hl 4 rfl) ?_
                      refine g_X12_47 Cx hW (k := 231) (by decide) rfl (v := .ref (G.2.2.1 + 244)) (rd_15 hI363) dX12_tokenizeProof_374 ?_
                      refine lv_iload_n hx hb dX12_tokenizeProof_377 rfl (lv_at hl 0 rfl) ?_
                      refine lv_iconst (v := iv 5) hx hb dX12_tokenizeProof_378 (by decide) ?_
                      refine rIast Cx hW hL (k := 244) (by decide) rfl (by decide) (by omega) (by omega) dX12_tokenizeProof_379 (fun H locs hW hL => ?_)
                      have F_40 : Fr S (uA S363 244 i 5) (pl [231, 244, 245, 246, 247]) := hFm363.A rfl
                      have F_41 : Fr S309 (uA S363 244 i 5) (pl [244]) := hL363_.A rfl
                      have i_42 : dX G (uA S363 244 i 5) := hI363.A (k := 244) (show (-2147483648) ≤ 5 ∧ 5 ≤ 2147483647 from ⟨by omega, by omega⟩)
                      refine lv_iinc (v := iv (i + 1)) (lv' := [(2, .int (iv (i + 1))), (4, .int (iv ok1)), (3, .int (iv w1)), (1, .int (iv ps)), (0, .ref (G.2.2.1 + 231))]) hx hb dX12_tokenizeProof_380 hl (k := 0) rfl ((Int32.ofInt_add _ _).symm) (by decide) rfl (fun ls hl => ?_)
                      refine lv_goto (tgt := 363) hx hb dX12_tokenizeProof_383 (by decide) ?_
                      exact ih_363 (uA S363 244 i 5) (i + 1) _ _ _ (by omega) i_42 F_40 F_41 hGm363 gL363_ (by omega) (fun x a => by rw [uA_ne (fun h => by have := h.2; omega)]; exact h363 x a) hW hL (lv_sub hl [0, 1, 2, 3, 4] rfl)
                exact loop_363 (_ + 1) S309 (S309.1 231 19) _ _ _ (Nat.lt_succ_self _) hI309 hFm309 Fr.rf hGm309 FF.rf (by omega) (fun x _ => rfl) hW hL (lv_sub hl [0, 1, 2, 3, 4] rfl)
            refine lv_iload_n hx hb dX12_tokenizeProof_45 rfl (lv_at hl 2 rfl) ?_
            refine sBi (sSt (As := [.int (iv (S.2.1 243 ps))]) (rest := []) Cx (s_X12_isLetter l G S7 (ch := S.2.1 243 ps) (by omega)) (c_X12_295 Cx rfl rfl (rmk_ok (by omega) (by decide))) hW rfl hl.1 rfl (Nat.le_of_ble_eq_true rfl) dX12_tokenizeProof_46 ⟨Nat.le_of_ble_eq_true rfl, Nat.le_of_ble_eq_true rfl⟩) hL (fun r_45 u_43 H locs k_44 hW hL => ?_)
            obtain ⟨eu_43, xu_43⟩ := k_44
            rw [eu_43] at hW
            refine r_if_eq (tgt := 116) hx hb ⟨(by omega), (by omega)⟩ dX12_tokenizeProof_49 (by decide) (fun c_46 => ?_) (fun c_46 => ?_)
            · refine lv_iload_n hx hb dX12_tokenizeProof_116 rfl (lv_at hl 2 rfl) ?_
              refine sBi (sSt (As := [.int (iv (S.2.1 243 ps))]) (rest := []) Cx (s_X12_isDigit l G S7 (ch := S.2.1 243 ps) (by omega)) (c_X12_299 Cx rfl rfl (rmk_ok (by omega) (by decide))) hW rfl hl.1 rfl (Nat.le_of_ble_eq_true rfl) dX12_tokenizeProof_117 ⟨Nat.le_of_ble_eq_true rfl, Nat.le_of_ble_eq_true rfl⟩) hL (fun r_49 u_47 H locs k_48 hW hL => ?_)
              obtain ⟨eu_47, xu_47⟩ := k_48
              rw [eu_47] at hW
              refine r_if_ne (tgt := 129) hx hb ⟨(by omega), (by omega)⟩ dX12_tokenizeProof_120 (by decide) (fun c_50 => ?_) (fun c_50 => ?_)
              · refine lv_iload_n hx hb dX12_tokenizeProof_129 rfl (lv_at hl 2 rfl) ?_
                refine lv_bipush (v := iv 45) hx hb dX12_tokenizeProof_130 (by decide) ?_
                refine r_icmp_ne (tgt := 139) hx hb ⟨(by omega), (by omega)⟩ ⟨(by omega), (by omega)⟩ dX12_tokenizeProof_132 (by decide) (fun _ => ?_) (fun c => absurd c (by omega))
                refine lv_iconst (v := iv 0) hx hb dX12_tokenizeProof_139 (by decide) ?_
                refine lv_istore (lv' := [(5, .int (iv 0)), (4, .int (iv 0)), (3, .int (iv 0)), (2, .int (iv (S.2.1 243 ps))), (1, .int (iv ps)), (0, .ref (G.2.2.1 + 231))]) hx hb dX12_tokenizeProof_140 hl (by decide) rfl (fun ls hl => ?_)
                refine lv_iload hx hb dX12_tokenizeProof_142 (lv_at hl 0 rfl) ?_
                refine lv_istore_n (lv' := [(3, .int (iv 0)), (5, .int (iv 0)), (4, .int (iv 0)), (2, .int (iv (S.2.1 243 ps))), (1, .int (iv ps)), (0, .ref (G.2.2.1 + 231))]) hx hb dX12_tokenizeProof_144 rfl hl (by decide) rfl (fun ls hl => ?_)
                refine lv_iconst (v := iv 1) hx hb dX12_tokenizeProof_145 (by decide) ?_
                refine lv_istore (lv' := [(6, .int (iv 1)), (3, .int (iv 0)), (5, .int (iv 0)), (4, .int (iv 0)), (2, .int (iv (S.2.1 243 ps))), (1, .int (iv ps)), (0, .ref (G.2.2.1 + 231))]) hx hb dX12_tokenizeProof_146 hl (by decide) rfl (fun ls hl => ?_)
                have loop_148 : ∀ (fuel : Nat) (zf : Int) (w : Int) (H : Heap) (locs : List Loc) (ls : Array Slot), (S.1 231 14 - ps - w).toNat < fuel → (0 ≤ w ∧ ps + w ≤ S.1 231 14) → (∀ x, ps + 0 ≤ x → x < ps + w → 48 ≤ S.2.1 243 x ∧ S.2.1 243 x ≤ 57) → (0 ≤ zf ∧ zf ≤ 1) → (Hd (zf = 0 → ∃ x, ps + 0 ≤ x ∧ x < ps + w ∧ S.2.1 243 x ≠ 48)) → sW G 294 S7 H → sL G locs → lv_has ls 7 [(6, .int (iv zf)), (3, .int (iv w)), (5, .int (iv 0)), (4, .int (iv 0)), (2, .int (iv (S.2.1 243 ps))), (1, .int (iv ps)), (0, .ref (G.2.2.1 + 231))] → W p l e (rmk 6 0 0) s m args below meth c H locs 0 0 (MQ below (sQv G 294 (fun u => dX G u ∧ Fr S u (pl [231, 244, 245, 246, 247]) ∧ FF S u (fl [19]) ∧ (dTQ u))) args s 0 0 (sF G)) (F0 m 148 ls []) := by
                  intro fuel
                  induction fuel with
                  | zero => intro zf w H locs ls hmeas hw hdg hzf hzx hW hL hl; exact absurd hmeas (Nat.not_lt_zero _)
                  | succ fuel ih_148 =>
                    intro zf w H locs ls hmeas hw hdg hzf hzx hW hL hl
                    refine lv_aload_n hx hb dX12_tokenizeProof_148 rfl (lv_at hl 6 rfl) ?_
                    refine lv_iload_n hx hb dX12_tokenizeProof_149 rfl (lv_at hl 5 rfl) ?_
                    refine lv_iload_n hx hb dX12_tokenizeProof_150 rfl (lv_at hl 1 rfl) ?_
                    refine r_iadd hx hb dX12_tokenizeProof_151 ?_
                    have lk_51 : S7.1 231 14 = S.1 231 14 := (gL7_ 14 rfl).trans (uF_ne (fun h => absurd h.2 (by decide)))
                    refine sBi (sV (As := [.int (iv (ps + w))]) (rest := []) (k := 231) Cx (s_X12_at l G S7 (a := ps + w) hI7 (by omega) (by omega)) (c_X12_292 Cx rfl rfl (rmk_ok (by omega) (by decide))) hW (by decide) rfl rfl rfl hl.1 rfl (Nat.le_of_ble_eq_true rfl) dX12_tokenizeProof_152 ⟨Nat.le_of_ble_eq_true rfl, Nat.le_of_ble_eq_true rfl⟩) hL (fun r_54 u_52 H locs k_53 hW hL => ?_)
                    obtain ⟨eu_52, xu_52⟩ := k_53
                    rw [eu_52] at hW
                    refine sBi (sSt (As := [.int (iv r_54)]) (rest := []) Cx (s_X12_isDigit l G S7 (ch := r_54) (by omega)) (c_X12_299 Cx rfl rfl (rmk_ok (by omega) (by decide))) hW rfl hl.1 rfl (Nat.le_of_ble_eq_true rfl) dX12_tokenizeProof_155 ⟨Nat.le_of_ble_eq_true rfl, Nat.le_of_ble_eq_true rfl⟩) hL (fun r_57 u_55 H locs k_56 hW hL => ?_)
                    obtain ⟨eu_55, xu_55⟩ := k_56
                    rw [eu_55] at hW
                    refine r_if_eq (tgt := 191) hx hb ⟨(by omega), (by omega)⟩ dX12_tokenizeProof_158 (by decide) (fun c_58 => ?_) (fun c_58 => ?_)
                    · have join_224 : ∀ (ok : Int) (H : Heap) (locs : List Loc) (ls : Array Slot), ((0 ≤ ok ∧ ok ≤ 1) ∧ (ok = 1 → 0 + 1 ≤ w ∧ w ≤ 0 + 60)) → sW G 294 S7 H → sL G locs → lv_has ls 7 [(6, .int (iv zf)), (3, .int (iv w)), (5, .int (iv 0)), (4, .int (iv ok)), (2, .int (iv (S.2.1 243 ps))), (1, .int (iv ps)), (0, .ref (G.2.2.1 + 231))] → W p l e (rmk 6 0 0) s m args below meth c H locs 0 0 (MQ below (sQv G 294 (fun u => dX G u ∧ Fr S u (pl [231, 244, 245, 246, 247]) ∧ FF S u (fl [19]) ∧ (dTQ u))) args s 0 0 (sF G)) (F0 m 224 ls []) := by
                        intro ok H locs ls hok hW hL hl
                        refine lv_aload_n hx hb dX12_tokenizeProof_224 rfl (lv_at hl 6 rfl) ?_
                        refine lv_iload hx hb dX12_tokenizeProof_225 (lv_at hl 3 rfl) ?_
                        refine r_if_eq (tgt := 234) hx hb ⟨(by omega), (by omega)⟩ dX12_tokenizeProof_227 (by decide) (fun c_59 => ?_) (fun c_59 => ?_)
                        · refine lv_bipush (v := iv 6) hx hb dX12_tokenizeProof_234 (by decide) ?_
                          refine lv_iload_n hx hb dX12_tokenizeProof_236 rfl (lv_at hl 5 rfl) ?_
                          refine lv_iload_n hx hb dX12_tokenizeProof_237 rfl (lv_at hl 1 rfl) ?_
                          refine lv_iload hx hb dX12_tokenizeProof_238 (lv_at hl 0 rfl) ?_
                          refine r_if_eq (tgt := 247) hx hb ⟨(by omega), (by omega)⟩ dX12_tokenizeProof_240 (by decide) (fun c_60 => ?_) (fun c_60 => ?_)
                          · refine lv_iload hx hb dX12_tokenizeProof_247 (lv_at hl 2 rfl) ?_
                            refine lv_iconst (v := iv 1) hx hb dX12_tokenizeProof_249 (by decide) ?_
                            refine r_icmp_ne (tgt := 257) hx hb ⟨(by omega), (by omega)⟩ ⟨(by omega), (by omega)⟩ dX12_tokenizeProof_250 (by decide) (fun _ => ?_) (fun c => absurd c (by omega))
                            refine lv_iconst (v := iv 1) hx hb dX12_tokenizeProof_257 (by decide) ?_
                            have q_61 : (-2147483648) ≤ S7.1 231 19 ∧ S7.1 231 19 ≤ 2147483647 := hI7.fi 19
                            refine sBv (sV (As := [.int (iv 6), .int (iv ps), .int (iv w), .int (iv 1)]) (rest := []) (k := 231) Cx (s_X12_token l G S7 (k := 6) (f := ps) (wd := w) (v := 1) hI7 (by omega) (by omega) (by omega) (by omega) (by omega)) (c_X12_308 Cx rfl rfl (rmk_ok (by omega) (by decide))) hW (by decide) rfl rfl rfl hl.1 rfl (Nat.le_of_ble_eq_true rfl) dX12_tokenizeProof_258 ⟨Nat.le_of_ble_eq_true rfl, Nat.le_of_ble_eq_true rfl⟩) hL (fun u_62 H locs k_63 hW hL => ?_)
                            obtain ⟨iu_62, fu_62, gu_62, xu_62⟩ := k_63
                            have F_64 := hFm7.trans fu_62
                            have F_65 := hL7_.trans fu_62
                            have F_66 := (Fr.rf : Fr S7 S7 (pl [231, 244, 245, 246, 247])).trans fu_62
                            have g_67 : FF S u_62 (fl [19]) := FF.trans hGm7 (FF.to gu_62 (fl_sub (by decide)))
                            have g_68 : FF ((uF S 231 19 0)) u_62 (fl [19]) := FF.trans gL7_ (FF.to gu_62 (fl_sub (by decide)))
                            have g_69 : FF S7 u_62 (fl [19]) := FF.trans (FF.rf : FF S7 S7 (fl [19])) (FF.to gu_62 (fl_sub (by decide)))
                            refine lv_goto (tgt := 309) hx hb dX12_tokenizeProof_261 (by decide) ?_
                            have q_70 : (-2147483648) ≤ u_62.1 231 19 ∧ u_62.1 231 19 ≤ 2147483647 := iu_62.fi 19
                            exact join_309 u_62 ok w _ _ _ iu_62 F_64 F_65 F_66 g_67 g_68 g_69 (by omega) (by omega) (hTP.tok xu_62.2 (funext fun j => (fu_62 243 rfl).2.1 j) (fun z => absurd z (by decide))) (by rw [xu_62.2.1, if_pos rfl]; omega) (hTE.tok xu_62.2) hW hL (lv_sub hl [3, 1, 4, 5, 6] rfl)
                          · refine lv_iconst (v := iv 0) hx hb dX12_tokenizeProof_243 (by decide) ?_
                            refine lv_goto (tgt := 258) hx hb dX12_tokenizeProof_244 (by decide) ?_
                            have q_71 : (-2147483648) ≤ S7.1 231 19 ∧ S7.1 231 19 ≤ 2147483647 := hI7.fi 19
                            refine sBv (sV (As := [.int (iv 6), .int (iv ps), .int (iv w), .int (iv 0)]) (rest := []) (k := 231) Cx (s_X12_token l G S7 (k := 6) (f := ps) (wd := w) (v := 0) hI7 (by omega) (by omega) (by omega) (by omega) (by omega)) (c_X12_308 Cx rfl rfl (rmk_ok (by omega) (by decide))) hW (by decide) rfl rfl rfl hl.1 rfl (Nat.le_of_ble_eq_true rfl) dX12_tokenizeProof_258 ⟨Nat.le_of_ble_eq_true rfl, Nat.le_of_ble_eq_true rfl⟩) hL (fun u_72 H locs k_73 hW hL => ?_)
                            obtain ⟨iu_72, fu_72, gu_72, xu_72⟩ := k_73
                            have F_74 := hFm7.trans fu_72
                            have F_75 := hL7_.trans fu_72
                            have F_76 := (Fr.rf : Fr S7 S7 (pl [231, 244, 245, 246, 247])).trans fu_72
                            have g_77 : FF S u_72 (fl [19]) := FF.trans hGm7 (FF.to gu_72 (fl_sub (by decide)))
                            have g_78 : FF ((uF S 231 19 0)) u_72 (fl [19]) := FF.trans gL7_ (FF.to gu_72 (fl_sub (by decide)))
                            have g_79 : FF S7 u_72 (fl [19]) := FF.trans (FF.rf : FF S7 S7 (fl [19])) (FF.to gu_72 (fl_sub (by decide)))
                            refine lv_goto (tgt := 309) hx hb dX12_tokenizeProof_261 (by decide) ?_
                            have q_80 : (-2147483648) ≤ u_72.1 231 19 ∧ u_72.1 231 19 ≤ 2147483647 := iu_72.fi 19
                            exact join_309 u_72 ok w _ _ _ iu_72 F_74 F_75 F_76 g_77 g_78 g_79 (by omega) (by omega) (hTP.tok xu_72.2 (funext fun j => (fu_72 243 rfl).2.1 j) (fun z => absurd z (by decide))) (by rw [xu_72.2.1, if_pos rfl]; omega) (hTE.tok xu_72.2) hW hL (lv_sub hl [3, 1, 4, 5, 6] rfl)
                        · refine lv_iconst (v := iv 2) hx hb dX12_tokenizeProof_230 (by decide) ?_
                          refine lv_goto (tgt := 236) hx hb dX12_tokenizeProof_231 (by decide) ?_
                          refine lv_iload_n hx hb dX12_tokenizeProof_236 rfl (lv_at hl 5 rfl) ?_
                          refine lv_iload_n hx hb dX12_tokenizeProof_237 rfl (lv_at hl 1 rfl) ?_
                          refine lv_iload hx hb dX12_tokenizeProof_238 (lv_at hl 0 rfl) ?_
                          refine r_if_eq (tgt := 247) hx hb ⟨(by omega), (by omega)⟩ dX12_tokenizeProof_240 (by decide) (fun c_81 => ?_) (fun c_81 => ?_)
                          · refine lv_iload hx hb dX12_tokenizeProof_247 (lv_at hl 2 rfl) ?_
                            refine lv_iconst (v := iv 1) hx hb dX12_tokenizeProof_249 (by decide) ?_
                            refine r_icmp_ne (tgt := 257) hx hb ⟨(by omega), (by omega)⟩ ⟨(by omega), (by omega)⟩ dX12_tokenizeProof_250 (by decide) (fun _ => ?_) (fun c => absurd c (by omega))
                            refine lv_iconst (v := iv 1) hx hb dX12_tokenizeProof_257 (by decide) ?_
                            have q_82 : (-2147483648) ≤ S7.1 231 19 ∧ S7.1 231 19 ≤ 2147483647 := hI7.fi 19
                            refine sBv (sV (As := [.int (iv 2), .int (iv ps), .int (iv w), .int (iv 1)]) (rest := []) (k := 231) Cx (s_X12_token l G S7 (k := 2) (f := ps) (wd := w) (v := 1) hI7 (by omega) (by omega) (by omega) (by omega) (by omega)) (c_X12_308 Cx rfl rfl (rmk_ok (by omega) (by decide))) hW (by decide) rfl rfl rfl hl.1 rfl (Nat.le_of_ble_eq_true rfl) dX12_tokenizeProof_258 ⟨Nat.le_of_ble_eq_true rfl, Nat.le_of_ble_eq_true rfl⟩) hL (fun u_83 H locs k_84 hW hL => ?_)
                            obtain ⟨iu_83, fu_83, gu_83, xu_83⟩ := k_84
                            have F_85 := hFm7.trans fu_83
                            have F_86 := hL7_.trans fu_83
                            have F_87 := (Fr.rf : Fr S7 S7 (pl [231, 244, 245, 246, 247])).trans fu_83
                            have g_88 : FF S u_83 (fl [19]) := FF.trans hGm7 (FF.to gu_83 (fl_sub (by decide)))
                            have g_89 : FF ((uF S 231 19 0)) u_83 (fl [19]) := FF.trans gL7_ (FF.to gu_83 (fl_sub (by decide)))
                            have g_90 : FF S7 u_83 (fl [19]) := FF.trans (FF.rf : FF S7 S7 (fl [19])) (FF.to gu_83 (fl_sub (by decide)))
                            refine lv_goto (tgt := 309) hx hb dX12_tokenizeProof_261 (by decide) ?_
                            have q_91 : (-2147483648) ≤ u_83.1 231 19 ∧ u_83.1 231 19 ≤ 2147483647 := iu_83.fi 19
                            exact join_309 u_83 ok w _ _ _ iu_83 F_85 F_86 F_87 g_88 g_89 g_90 (by omega) (by omega) (hTP.tok xu_83.2 (funext fun j => (fu_83 243 rfl).2.1 j) (fun _ => by rw [show S7.2.1 243 = S.2.1 243 from funext fun j => (hFm7 243 rfl).2.1 j]; exact ⟨(by omega), (by omega), 0, .inr ⟨rfl, (by omega)⟩, (by omega), hdg, (fun _ => hzx (by omega))⟩)) (by rw [xu_83.2.1, if_pos rfl]; omega) (hTE.tok xu_83.2) hW hL (lv_sub hl [3, 1, 4, 5, 6] rfl)
                          · refine lv_iconst (v := iv 0) hx hb dX12_tokenizeProof_243 (by decide) ?_
                            refine lv_goto (tgt := 258) hx hb dX12_tokenizeProof_244 (by decide) ?_
                            have q_92 : (-2147483648) ≤ S7.1 231 19 ∧ S7.1 231 19 ≤ 2147483647 := hI7.fi 19
                            refine sBv (sV (As := [.int (iv 2), .int (iv ps), .int (iv w), .int (iv 0)]) (rest := []) (k := 231) Cx (s_X12_token l G S7 (k := 2) (f := ps) (wd := w) (v := 0) hI7 (by omega) (by omega) (by omega) (by omega) (by omega)) (c_X12_308 Cx rfl rfl (rmk_ok (by omega) (by decide))) hW (by decide) rfl rfl rfl hl.1 rfl (Nat.le_of_ble_eq_true rfl) dX12_tokenizeProof_258 ⟨Nat.le_of_ble_eq_true rfl, Nat.le_of_ble_eq_true rfl⟩) hL (fun u_93 H locs k_94 hW hL => ?_)
                            obtain ⟨iu_93, fu_93, gu_93, xu_93⟩ := k_94
                            have F_95 := hFm7.trans fu_93
                            have F_96 := hL7_.trans fu_93
                            have F_97 := (Fr.rf : Fr S7 S7 (pl [231, 244, 245, 246, 247])).trans fu_93
                            have g_98 : FF S u_93 (fl [19]) := FF.trans hGm7 (FF.to gu_93 (fl_sub (by decide)))
                            have g_99 : FF ((uF S 231 19 0)) u_93 (fl [19]) := FF.trans gL7_ (FF.to gu_93 (fl_sub (by decide)))
                            have g_100 : FF S7 u_93 (fl [19]) := FF.trans (FF.rf : FF S7 S7 (fl [19])) (FF.to gu_93 (fl_sub (by decide)))
                            refine lv_goto (tgt := 309) hx hb dX12_tokenizeProof_261 (by decide) ?_
                            have q_101 : (-2147483648) ≤ u_93.1 231 19 ∧ u_93.1 231 19 ≤ 2147483647 := iu_93.fi 19
                            exact join_309 u_93 ok w _ _ _ iu_93 F_95 F_96 F_97 g_98 g_99 g_100 (by omega) (by omega) (hTP.tok xu_93.2 (funext fun j => (fu_93 243 rfl).2.1 j) (fun _ => by rw [show S7.2.1 243 = S.2.1 243 from funext fun j => (hFm7 243 rfl).2.1 j]; exact ⟨(by omega), (by omega), 0, .inr ⟨rfl, (by omega)⟩, (by omega), hdg, (fun z => absurd z (by decide))⟩)) (by rw [xu_93.2.1, if_pos rfl]; omega) (hTE.tok xu_93.2) hW hL (lv_sub hl [3, 1, 4, 5, 6] rfl)
                      refine lv_iload_n hx hb dX12_tokenizeProof_191 rfl (lv_at hl 1 rfl) ?_
                      refine lv_iload hx hb dX12_tokenizeProof_192 (lv_at hl 2 rfl) ?_
                      refine r_icmp_le (tgt := 221) hx hb ⟨(by omega), (by omega)⟩ ⟨(by omega), (by omega)⟩ dX12_tokenizeProof_194 (by decide) (fun c_102 => ?_) (fun c_102 => ?_)
                      · refine lv_iconst (v := iv 0) hx hb dX12_tokenizeProof_221 (by decide) ?_
                        refine lv_istore (lv' := [(4, .int (iv 0)), (6, .int (iv zf)), (3, .int (iv w)), (5, .int (iv 0)), (2, .int (iv (S.2.1 243 ps))), (1, .int (iv ps)), (0, .ref (G.2.2.1 + 231))]) hx hb dX12_tokenizeProof_222 hl (by decide) rfl (fun ls hl => ?_)
                        exact join_224 0 _ _ _ (by omega) hW hL (lv_sub hl [1, 2, 3, 0, 4, 5, 6] rfl)
                      · refine lv_iload_n hx hb dX12_tokenizeProof_197 rfl (lv_at hl 1 rfl) ?_
                        refine lv_iload hx hb dX12_tokenizeProof_198 (lv_at hl 2 rfl) ?_
                        refine r_isub hx hb dX12_tokenizeProof_200 ?_
                        refine lv_bipush (v := iv 60) hx hb dX12_tokenizeProof_201 (by decide) ?_
                        refine r_icmp_gt (tgt := 221) hx hb ⟨(by omega), (by omega)⟩ ⟨(by omega), (by omega)⟩ dX12_tokenizeProof_203 (by decide) (fun c_103 => ?_) (fun c_103 => ?_)
                        · refine lv_iconst (v := iv 0) hx hb dX12_tokenizeProof_221 (by decide) ?_
                          refine lv_istore (lv' := [(4, .int (iv 0)), (6, .int (iv zf)), (3, .int (iv w)), (5, .int (iv 0)), (2, .int (iv (S.2.1 243 ps))), (1, .int (iv ps)), (0, .ref (G.2.2.1 + 231))]) hx hb dX12_tokenizeProof_222 hl (by decide) rfl (fun ls hl => ?_)
                          exact join_224 0 _ _ _ (by omega) hW hL (lv_sub hl [1, 2, 3, 0, 4, 5, 6] rfl)
                        · refine lv_iload hx hb dX12_tokenizeProof_206 (lv_at hl 0 rfl) ?_
                          refine r_if_eq (tgt := 217) hx hb ⟨(by omega), (by omega)⟩ dX12_tokenizeProof_208 (by decide) (fun c_104 => ?_) (fun c_104 => ?_)
                          · refine lv_iconst (v := iv 1) hx hb dX12_tokenizeProof_217 (by decide) ?_
                            refine lv_goto (tgt := 222) hx hb dX12_tokenizeProof_218 (by decide) ?_
                            refine lv_istore (lv' := [(4, .int (iv 1)), (6, .int (iv zf)), (3, .int (iv w)), (5, .int (iv 0)), (2, .int (iv (S.2.1 243 ps))), (1, .int (iv ps)), (0, .ref (G.2.2.1 + 231))]) hx hb dX12_tokenizeProof_222 hl (by decide) rfl (fun ls hl => ?_)
                            exact join_224 1 _ _ _ (by omega) hW hL (lv_sub hl [1, 2, 3, 0, 4, 5, 6] rfl)
                          · refine lv_iload hx hb dX12_tokenizeProof_211 (lv_at hl 2 rfl) ?_
                            refine lv_iconst (v := iv 1) hx hb dX12_tokenizeProof_213 (by decide) ?_
                            refine r_icmp_eq (tgt := 221) hx hb ⟨(by omega), (by omega)⟩ ⟨(by omega), (by omega)⟩ dX12_tokenizeProof_214 (by decide) (fun c => absurd c (by omega)) (fun _ => ?_)
                            refine lv_iconst (v := iv 1) hx hb dX12_tokenizeProof_217 (by decide) ?_
                            refine lv_goto (tgt := 222) hx hb dX12_tokenizeProof_218 (by decide) ?_
                            refine lv_istore (lv' := [(4, .int (iv 1)), (6, .int (iv zf)), (3, .int (iv w)), (5, .int (iv 0)), (2, .int (iv (S.2.1 243 ps))), (1, .int (iv ps)), (0, .ref (G.2.2.1 + 231))]) hx hb dX12_tokenizeProof_222 hl (by decide) rfl (fun ls hl => ?_)
                            exact join_224 1 _ _ _ (by omega) hW hL (lv_sub hl [1, 2, 3, 0, 4, 5, 6] rfl)
                    · refine lv_iload hx hb dX12_tokenizeProof_161 (lv_at hl 0 rfl) ?_
                      refine r_if_eq (tgt := 182) hx hb ⟨(by omega), (by omega)⟩ dX12_tokenizeProof_163 (by decide) (fun c_105 => ?_) (fun c_105 => ?_)
                      · refine lv_iconst (v := iv 0) hx hb dX12_tokenizeProof_182 (by decide) ?_
                        refine lv_istore (lv' := [(6, .int (iv 0)), (3, .int (iv w)), (5, .int (iv 0)), (4, .int (iv 0)), (2, .int (iv (S.2.1 243 ps))), (1, .int (iv ps)), (0, .ref (G.2.2.1 + 231))]) hx hb dX12_tokenizeProof_183 hl (by decide) rfl (fun ls hl => ?_)
                        refine lv_iinc (v := iv (w + 1)) (lv' := [(3, .int (iv (w + 1))), (6, .int (iv 0)), (5, .int (iv 0)), (4, .int (iv 0)), (2, .int (iv (S.2.1 243 ps))), (1, .int (iv ps)), (0, .ref (G.2.2.1 + 231))]) hx hb dX12_tokenizeProof_185 hl (k := 1) rfl ((Int32.ofInt_add _ _).symm) (by decide) rfl (fun ls hl => ?_)
                        refine lv_goto (tgt := 148) hx hb dX12_tokenizeProof_188 (by decide) ?_
                        exact ih_148 0 (w + 1) _ _ _ (by omega) (by omega) (fun x a b => if e9 : x = ps + w then (by rw [e9]; have y1 := xu_52.2.2 (by omega); rw [show S7.2.1 243 = S.2.1 243 from funext fun j => (hFm7 243 rfl).2.1 j] at y1; omega) else hdg x a (by omega)) (by omega) (fun _ => by obtain ⟨x, a, b, d⟩ := hzx (by omega); exact ⟨x, a, by omega, d⟩) hW hL (lv_sub hl [1, 0, 2, 3, 4, 5, 6] rfl)
                      · refine lv_aload_n hx hb dX12_tokenizeProof_166 rfl (lv_at hl 6 rfl) ?_
                        refine lv_iload_n hx hb dX12_tokenizeProof_167 rfl (lv_at hl 5 rfl) ?_
                        refine lv_iload_n hx hb dX12_tokenizeProof_168 rfl (lv_at hl 1 rfl) ?_
                        refine r_iadd hx hb dX12_tokenizeProof_169 ?_
                        refine sBi (sV (As := [.int (iv (ps + w))]) (rest := []) (k := 231) Cx (s_X12_at l G S7 (a := ps + w) hI7 (by omega) (by omega)) (c_X12_292 Cx rfl rfl (rmk_ok (by omega) (by decide))) hW (by decide) rfl rfl rfl hl.1 rfl (Nat.le_of_ble_eq_true rfl) dX12_tokenizeProof_170 ⟨Nat.le_of_ble_eq_true rfl, Nat.le_of_ble_eq_true rfl⟩) hL (fun r_108 u_106 H locs k_107 hW hL => ?_)
                        obtain ⟨eu_106, xu_106⟩ := k_107
                        rw [eu_106] at hW
                        refine lv_bipush (v := iv 48) hx hb dX12_tokenizeProof_173 (by decide) ?_
                        refine r_icmp_ne (tgt := 182) hx hb ⟨(by omega), (by omega)⟩ ⟨(by omega), (by omega)⟩ dX12_tokenizeProof_175 (by decide) (fun c_109 => ?_) (fun c_109 => ?_)
                        · refine lv_iconst (v := iv 0) hx hb dX12_tokenizeProof_182 (by decide) ?_
                          refine lv_istore (lv' := [(6, .int (iv 0)), (3, .int (iv w)), (5, .int (iv 0)), (4, .int (iv 0)), (2, .int (iv (S.2.1 243 ps))), (1, .int (iv ps)), (0, .ref (G.2.2.1 + 231))]) hx hb dX12_tokenizeProof_183 hl (by decide) rfl (fun ls hl => ?_)
                          refine lv_iinc (v := iv (w + 1)) (lv' := [(3, .int (iv (w + 1))), (6, .int (iv 0)), (5, .int (iv 0)), (4, .int (iv 0)), (2, .int (iv (S.2.1 243 ps))), (1, .int (iv ps)), (0, .ref (G.2.2.1 + 231))]) hx hb dX12_tokenizeProof_185 hl (k := 1) rfl ((Int32.ofInt_add _ _).symm) (by decide) rfl (fun ls hl => ?_)
                          refine lv_goto (tgt := 148) hx hb dX12_tokenizeProof_188 (by decide) ?_
                          exact ih_148 0 (w + 1) _ _ _ (by omega) (by omega) (fun x a b => if e9 : x = ps + w then (by rw [e9]; have y1 := xu_52.2.2 (by omega); rw [show S7.2.1 243 = S.2.1 243 from funext fun j => (hFm7 243 rfl).2.1 j] at y1; omega) else hdg x a (by omega)) (by omega) (fun _ => ⟨ps + w, by omega, by omega, (by have y1 := xu_106.2.2 (by omega); rw [show S7.2.1 243 = S.2.1 243 from funext fun j => (hFm7 243 rfl).2.1 j] at y1; omega)⟩) hW hL (lv_sub hl [1, 0, 2, 3, 4, 5, 6] rfl)
                        · refine lv_iconst (v := iv 1) hx hb dX12_tokenizeProof_178 (by decide) ?_
                          refine lv_goto (tgt := 183) hx hb dX12_tokenizeProof_179 (by decide) ?_
                          refine lv_istore (lv' := [(6, .int (iv 1)), (3, .int (iv w)), (5, .int (iv 0)), (4, .int (iv 0)), (2, .int (iv (S.2.1 243 ps))), (1, .int (iv ps)), (0, .ref (G.2.2.1 + 231))]) hx hb dX12_tokenizeProof_183 hl (by decide) rfl (fun ls hl => ?_)
                          refine lv_iinc (v := iv (w + 1)) (lv' := [(3, .int (iv (w + 1))), (6, .int (iv 1)), (5, .int (iv 0)), (4, .int (iv 0)), (2, .int (iv (S.2.1 243 ps))), (1, .int (iv ps)), (0, .ref (G.2.2.1 + 231))]) hx hb dX12_tokenizeProof_185 hl (k := 1) rfl ((Int32.ofInt_add _ _).symm) (by decide) rfl (fun ls hl => ?_)
                          refine lv_goto (tgt := 148) hx hb dX12_tokenizeProof_188 (by decide) ?_
                          exact ih_148 1 (w + 1) _ _ _ (by omega) (by omega) (fun x a b => if e9 : x = ps + w then (by rw [e9]; have y1 := xu_52.2.2 (by omega); rw [show S7.2.1 243 = S.2.1 243 from funext fun j => (hFm7 243 rfl).2.1 j] at y1; omega) else hdg x a (by omega)) (by omega) (fun z => absurd z (by decide)) hW hL (lv_sub hl [1, 0, 2, 3, 4, 5, 6] rfl)
                exact loop_148 (_ + 1) 1 0 _ _ _ (Nat.lt_succ_self _) (by omega) (fun x a b => absurd b (by omega)) (by omega) (fun z => absurd z (by decide)) hW hL (lv_sub hl [0, 1, 2, 3, 4, 5, 6] rfl)
              · refine lv_iload_n hx hb dX12_tokenizeProof_123 rfl (lv_at hl 2 rfl) ?_
                refine lv_bipush (v := iv 45) hx hb dX12_tokenizeProof_124 (by decide) ?_
                refine r_icmp_ne (tgt := 264) hx hb ⟨(by omega), (by omega)⟩ ⟨(by omega), (by omega)⟩ dX12_tokenizeProof_126 (by decide) (fun c_110 => ?_) (fun c_110 => ?_)
                · refine lv_iload_n hx hb dX12_tokenizeProof_264 rfl (lv_at hl 2 rfl) ?_
                  refine lv_bipush (v := iv 47) hx hb dX12_tokenizeProof_265 (by decide) ?_
                  refine r_icmp_eq (tgt := 282) hx hb ⟨(by omega), (by omega)⟩ ⟨(by omega), (by omega)⟩ dX12_tokenizeProof_267 (by decide) (fun c_111 => ?_) (fun c_111 => ?_)
                  · refine lv_iconst (v := iv 1) hx hb dX12_tokenizeProof_282 (by decide) ?_
                    refine lv_goto (tgt := 287) hx hb dX12_tokenizeProof_283 (by decide) ?_
                    refine lv_istore (lv' := [(4, .int (iv 1)), (3, .int (iv 0)), (2, .int (iv (S.2.1 243 ps))), (1, .int (iv ps)), (0, .ref (G.2.2.1 + 231))]) hx hb dX12_tokenizeProof_287 hl (by decide) rfl (fun ls hl => ?_)
                    refine lv_iconst (v := iv 1) hx hb dX12_tokenizeProof_289 (by decide) ?_
                    refine lv_istore_n (lv' := [(3, .int (iv 1)), (4, .int (iv 1)), (2, .int (iv (S.2.1 243 ps))), (1, .int (iv ps)), (0, .ref (G.2.2.1 + 231))]) hx hb dX12_tokenizeProof_290 rfl hl (by decide) rfl (fun ls hl => ?_)
                    refine lv_aload_n hx hb dX12_tokenizeProof_291 rfl (lv_at hl 4 rfl) ?_
                    refine lv_iload hx hb dX12_tokenizeProof_292 (lv_at hl 1 rfl) ?_
                    refine r_if_eq (tgt := 301) hx hb ⟨(by omega), (by omega)⟩ dX12_tokenizeProof_294 (by decide) (fun c => absurd c (by omega)) (fun _ => ?_)
                    refine lv_iconst (v := iv 4) hx hb dX12_tokenizeProof_297 (by decide) ?_
                    refine lv_goto (tgt := 303) hx hb dX12_tokenizeProof_298 (by decide) ?_
                    refine lv_iload_n hx hb dX12_tokenizeProof_303 rfl (lv_at hl 3 rfl) ?_
                    refine lv_iconst (v := iv 1) hx hb dX12_tokenizeProof_304 (by decide) ?_
                    refine lv_iload_n hx hb dX12_tokenizeProof_305 rfl (lv_at hl 2 rfl) ?_
                    have q_112 : (-2147483648) ≤ S7.1 231 19 ∧ S7.1 231 19 ≤ 2147483647 := hI7.fi 19
                    refine sBv (sV (As := [.int (iv 4), .int (iv ps), .int (iv 1), .int (iv (S.2.1 243 ps))]) (rest := []) (k := 231) Cx (s_X12_token l G S7 (k := 4) (f := ps) (wd := 1) (v := S.2.1 243 ps) hI7 (by omega) (by omega) (by omega) (by omega) (by omega)) (c_X12_308 Cx rfl rfl (rmk_ok (by omega) (by decide))) hW (by decide) rfl rfl rfl hl.1 rfl (Nat.le_of_ble_eq_true rfl) dX12_tokenizeProof_306 ⟨Nat.le_of_ble_eq_true rfl, Nat.le_of_ble_eq_true rfl⟩) hL (fun u_113 H locs k_114 hW hL => ?_)
                    obtain ⟨iu_113, fu_113, gu_113, xu_113⟩ := k_114
                    have F_115 := hFm7.trans fu_113
                    have F_116 := hL7_.trans fu_113
                    have F_117 := (Fr.rf : Fr S7 S7 (pl [231, 244, 245, 246, 247])).trans fu_113
                    have g_118 : FF S u_113 (fl [19]) := FF.trans hGm7 (FF.to gu_113 (fl_sub (by decide)))
                    have g_119 : FF ((uF S 231 19 0)) u_113 (fl [19]) := FF.trans gL7_ (FF.to gu_113 (fl_sub (by decide)))
                    have g_120 : FF S7 u_113 (fl [19]) := FF.trans (FF.rf : FF S7 S7 (fl [19])) (FF.to gu_113 (fl_sub (by decide)))
                    have q_121 : (-2147483648) ≤ u_113.1 231 19 ∧ u_113.1 231 19 ≤ 2147483647 := iu_113.fi 19
                    exact join_309 u_113 1 1 _ _ _ iu_113 F_115 F_116 F_117 g_118 g_119 g_120 (by omega) (by omega) (hTP.tok xu_113.2 (funext fun j => (fu_113 243 rfl).2.1 j) (fun z => absurd z (by decide))) (by rw [xu_113.2.1, if_pos rfl]; omega) (hTE.tok xu_113.2) hW hL (lv_sub hl [1, 0, 2, 3, 4] rfl)
                  · refine lv_iload_n hx hb dX12_tokenizeProof_270 rfl (lv_at hl 2 rfl) ?_
                    refine lv_bipush (v := iv 58) hx hb dX12_tokenizeProof_271 (by decide) ?_
                    refine r_icmp_eq (tgt := 282) hx hb ⟨(by omega), (by omega)⟩ ⟨(by omega), (by omega)⟩ dX12_tokenizeProof_273 (by decide) (fun c_122 => ?_) (fun c_122 => ?_)
                    · refine lv_iconst (v := iv 1) hx hb dX12_tokenizeProof_282 (by decide) ?_
                      refine lv_goto (tgt := 287) hx hb dX12_tokenizeProof_283 (by decide) ?_
                      refine lv_istore (lv' := [(4, .int (iv 1)), (3, .int (iv 0)), (2, .int (iv (S.2.1 243 ps))), (1, .int (iv ps)), (0, .ref (G.2.2.1 + 231))]) hx hb dX12_tokenizeProof_287 hl (by decide) rfl (fun ls hl => ?_)
                      refine lv_iconst (v := iv 1) hx hb dX12_tokenizeProof_289 (by decide) ?_
                      refine lv_istore_n (lv' := [(3, .int (iv 1)), (4, .int (iv 1)), (2, .int (iv (S.2.1 243 ps))), (1, .int (iv ps)), (0, .ref (G.2.2.1 + 231))]) hx hb dX12_tokenizeProof_290 rfl hl (by decide) rfl (fun ls hl => ?_)
                      refine lv_aload_n hx hb dX12_tokenizeProof_291 rfl (lv_at hl 4 rfl) ?_
                      refine lv_iload hx hb dX12_tokenizeProof_292 (lv_at hl 1 rfl) ?_
                      refine r_if_eq (tgt := 301) hx hb ⟨(by omega), (by omega)⟩ dX12_tokenizeProof_294 (by decide) (fun c => absurd c (by omega)) (fun _ => ?_)
                      refine lv_iconst (v := iv 4) hx hb dX12_tokenizeProof_297 (by decide) ?_
                      refine lv_goto (tgt := 303) hx hb dX12_tokenizeProof_298 (by decide) ?_
                      refine lv_iload_n hx hb dX12_tokenizeProof_303 rfl (lv_at hl 3 rfl) ?_
                      refine lv_iconst (v := iv 1) hx hb dX12_tokenizeProof_304 (by decide) ?_
                      refine lv_iload_n hx hb dX12_tokenizeProof_305 rfl (lv_at hl 2 rfl) ?_
                      have q_123 : (-2147483648) ≤ S7.1 231 19 ∧ S7.1 231 19 ≤ 2147483647 := hI7.fi 19
                      refine sBv (sV (As := [.int (iv 4), .int (iv ps), .int (iv 1), .int (iv (S.2.1 243 ps))]) (rest := []) (k := 231) Cx (s_X12_token l G S7 (k := 4) (f := ps) (wd := 1) (v := S.2.1 243 ps) hI7 (by omega) (by omega) (by omega) (by omega) (by omega)) (c_X12_308 Cx rfl rfl (rmk_ok (by omega) (by decide))) hW (by decide) rfl rfl rfl hl.1 rfl (Nat.le_of_ble_eq_true rfl) dX12_tokenizeProof_306 ⟨Nat.le_of_ble_eq_true rfl, Nat.le_of_ble_eq_true rfl⟩) hL (fun u_124 H locs k_125 hW hL => ?_)
                      obtain ⟨iu_124, fu_124, gu_124, xu_124⟩ := k_125
                      have F_126 := hFm7.trans fu_124
                      have F_127 := hL7_.trans fu_124
                      have F_128 := (Fr.rf : Fr S7 S7 (pl [231, 244, 245, 246, 247])).trans fu_124
                      have g_129 : FF S u_124 (fl [19]) := FF.trans hGm7 (FF.to gu_124 (fl_sub (by decide)))
                      have g_130 : FF ((uF S 231 19 0)) u_124 (fl [19]) := FF.trans gL7_ (FF.to gu_124 (fl_sub (by decide)))
                      have g_131 : FF S7 u_124 (fl [19]) := FF.trans (FF.rf : FF S7 S7 (fl [19])) (FF.to gu_124 (fl_sub (by decide)))
                      have q_132 : (-2147483648) ≤ u_124.1 231 19 ∧ u_124.1 231 19 ≤ 2147483647 := iu_124.fi 19
                      exact join_309 u_124 1 1 _ _ _ iu_124 F_126 F_127 F_128 g_129 g_130 g_131 (by omega) (by omega) (hTP.tok xu_124.2 (funext fun j => (fu_124 243 rfl).2.1 j) (fun z => absurd z (by decide))) (by rw [xu_124.2.1, if_pos rfl]; omega) (hTE.tok xu_124.2) hW hL (lv_sub hl [1, 0, 2, 3, 4] rfl)
                    · refine lv_iload_n hx hb dX12_tokenizeProof_276 rfl (lv_at hl 2 rfl) ?_
                      refine lv_bipush (v := iv 59) hx hb dX12_tokenizeProof_277 (by decide) ?_
                      refine r_icmp_ne (tgt := 286) hx hb ⟨(by omega), (by omega)⟩ ⟨(by omega), (by omega)⟩ dX12_tokenizeProof_279 (by decide) (fun c_133 => ?_) (fun c_133 => ?_)
                      · refine lv_iconst (v := iv 0) hx hb dX12_tokenizeProof_286 (by decide) ?_
                        refine lv_istore (lv' := [(4, .int (iv 0)), (3, .int (iv 0)), (2, .int (iv (S.2.1 243 ps))), (1, .int (iv ps)), (0, .ref (G.2.2.1 + 231))]) hx hb dX12_tokenizeProof_287 hl (by decide) rfl (fun ls hl => ?_)
                        refine lv_iconst (v := iv 1) hx hb dX12_tokenizeProof_289 (by decide) ?_
                        refine lv_istore_n (lv' := [(3, .int (iv 1)), (4, .int (iv 0)), (2, .int (iv (S.2.1 243 ps))), (1, .int (iv ps)), (0, .ref (G.2.2.1 + 231))]) hx hb dX12_tokenizeProof_290 rfl hl (by decide) rfl (fun ls hl => ?_)
                        refine lv_aload_n hx hb dX12_tokenizeProof_291 rfl (lv_at hl 4 rfl) ?_
                        refine lv_iload hx hb dX12_tokenizeProof_292 (lv_at hl 1 rfl) ?_
                        refine r_if_eq (tgt := 301) hx hb ⟨(by omega), (by omega)⟩ dX12_tokenizeProof_294 (by decide) (fun _ => ?_) (fun c => absurd (by omega) c)
                        refine lv_bipush (v := iv 6) hx hb dX12_tokenizeProof_301 (by decide) ?_
                        refine lv_iload_n hx hb dX12_tokenizeProof_303 rfl (lv_at hl 3 rfl) ?_
                        refine lv_iconst (v := iv 1) hx hb dX12_tokenizeProof_304 (by decide) ?_
                        refine lv_iload_n hx hb dX12_tokenizeProof_305 rfl (lv_at hl 2 rfl) ?_
                        have q_134 : (-2147483648) ≤ S7.1 231 19 ∧ S7.1 231 19 ≤ 2147483647 := hI7.fi 19
                        refine sBv (sV (As := [.int (iv 6), .int (iv ps), .int (iv 1), .int (iv (S.2.1 243 ps))]) (rest := []) (k := 231) Cx (s_X12_token l G S7 (k := 6) (f := ps) (wd := 1) (v := S.2.1 243 ps) hI7 (by omega) (by omega) (by omega) (by omega) (by omega)) (c_X12_308 Cx rfl rfl (rmk_ok (by omega) (by decide))) hW (by decide) rfl rfl rfl hl.1 rfl (Nat.le_of_ble_eq_true rfl) dX12_tokenizeProof_306 ⟨Nat.le_of_ble_eq_true rfl, Nat.le_of_ble_eq_true rfl⟩) hL (fun u_135 H locs k_136 hW hL => ?_)
                        obtain ⟨iu_135, fu_135, gu_135, xu_135⟩ := k_136
                        have F_137 := hFm7.trans fu_135
                        have F_138 := hL7_.trans fu_135
                        have F_139 := (Fr.rf : Fr S7 S7 (pl [231, 244, 245, 246, 247])).trans fu_135
                        have g_140 : FF S u_135 (fl [19]) := FF.trans hGm7 (FF.to gu_135 (fl_sub (by decide)))
                        have g_141 : FF ((uF S 231 19 0)) u_135 (fl [19]) := FF.trans gL7_ (FF.to gu_135 (fl_sub (by decide)))
                        have g_142 : FF S7 u_135 (fl [19]) := FF.trans (FF.rf : FF S7 S7 (fl [19])) (FF.to gu_135 (fl_sub (by decide)))
                        have q_143 : (-2147483648) ≤ u_135.1 231 19 ∧ u_135.1 231 19 ≤ 2147483647 := iu_135.fi 19
                        exact join_309 u_135 0 1 _ _ _ iu_135 F_137 F_138 F_139 g_140 g_141 g_142 (by omega) (by omega) (hTP.tok xu_135.2 (funext fun j => (fu_135 243 rfl).2.1 j) (fun z => absurd z (by decide))) (by rw [xu_135.2.1, if_pos rfl]; omega) (hTE.tok xu_135.2) hW hL (lv_sub hl [1, 0, 2, 3, 4] rfl)
                      · refine lv_iconst (v := iv 1) hx hb dX12_tokenizeProof_282 (by decide) ?_
                        refine lv_goto (tgt := 287) hx hb dX12_tokenizeProof_283 (by decide) ?_
                        refine lv_istore (lv' := [(4, .int (iv 1)), (3, .int (iv 0)), (2, .int (iv (S.2.1 243 ps))), (1, .int (iv ps)), (0, .ref (G.2.2.1 + 231))]) hx hb dX12_tokenizeProof_287 hl (by decide) rfl (fun ls hl => ?_)
                        refine lv_iconst (v := iv 1) hx hb dX12_tokenizeProof_289 (by decide) ?_
                        refine lv_istore_n (lv' := [(3, .int (iv 1)), (4, .int (iv 1)), (2, .int (iv (S.2.1 243 ps))), (1, .int (iv ps)), (0, .ref (G.2.2.1 + 231))]) hx hb dX12_tokenizeProof_290 rfl hl (by decide) rfl (fun ls hl => ?_)
                        refine lv_aload_n hx hb dX12_tokenizeProof_291 rfl (lv_at hl 4 rfl) ?_
                        refine lv_iload hx hb dX12_tokenizeProof_292 (lv_at hl 1 rfl) ?_
                        refine r_if_eq (tgt := 301) hx hb ⟨(by omega), (by omega)⟩ dX12_tokenizeProof_294 (by decide) (fun c => absurd c (by omega)) (fun _ => ?_)
                        refine lv_iconst (v := iv 4) hx hb dX12_tokenizeProof_297 (by decide) ?_
                        refine lv_goto (tgt := 303) hx hb dX12_tokenizeProof_298 (by decide) ?_
                        refine lv_iload_n hx hb dX12_tokenizeProof_303 rfl (lv_at hl 3 rfl) ?_
                        refine lv_iconst (v := iv 1) hx hb dX12_tokenizeProof_304 (by decide) ?_
                        refine lv_iload_n hx hb dX12_tokenizeProof_305 rfl (lv_at hl 2 rfl) ?_
                        have q_144 : (-2147483648) ≤ S7.1 231 19 ∧ S7.1 231 19 ≤ 2147483647 := hI7.fi 19
                        refine sBv (sV (As := [.int (iv 4), .int (iv ps), .int (iv 1), .int (iv (S.2.1 243 ps))]) (rest := []) (k := 231) Cx (s_X12_token l G S7 (k := 4) (f := ps) (wd := 1) (v := S.2.1 243 ps) hI7 (by omega) (by omega) (by omega) (by omega) (by omega)) (c_X12_308 Cx rfl rfl (rmk_ok (by omega) (by decide))) hW (by decide) rfl rfl rfl hl.1 rfl (Nat.le_of_ble_eq_true rfl) dX12_tokenizeProof_306 ⟨Nat.le_of_ble_eq_true rfl, Nat.le_of_ble_eq_true rfl⟩) hL (fun u_145 H locs k_146 hW hL => ?_)
                        obtain ⟨iu_145, fu_145, gu_145, xu_145⟩ := k_146
                        have F_147 := hFm7.trans fu_145
                        have F_148 := hL7_.trans fu_145
                        have F_149 := (Fr.rf : Fr S7 S7 (pl [231, 244, 245, 246, 247])).trans fu_145
                        have g_150 : FF S u_145 (fl [19]) := FF.trans hGm7 (FF.to gu_145 (fl_sub (by decide)))
                        have g_151 : FF ((uF S 231 19 0)) u_145 (fl [19]) := FF.trans gL7_ (FF.to gu_145 (fl_sub (by decide)))
                        have g_152 : FF S7 u_145 (fl [19]) := FF.trans (FF.rf : FF S7 S7 (fl [19])) (FF.to gu_145 (fl_sub (by decide)))
                        have q_153 : (-2147483648) ≤ u_145.1 231 19 ∧ u_145.1 231 19 ≤ 2147483647 := iu_145.fi 19
                        exact join_309 u_145 1 1 _ _ _ iu_145 F_147 F_148 F_149 g_150 g_151 g_152 (by omega) (by omega) (hTP.tok xu_145.2 (funext fun j => (fu_145 243 rfl).2.1 j) (fun z => absurd z (by decide))) (by rw [xu_145.2.1, if_pos rfl]; omega) (hTE.tok xu_145.2) hW hL (lv_sub hl [1, 0, 2, 3, 4] rfl)
                · refine lv_iload_n hx hb dX12_tokenizeProof_129 rfl (lv_at hl 2 rfl) ?_
                  refine lv_bipush (v := iv 45) hx hb dX12_tokenizeProof_130 (by decide) ?_
                  refine r_icmp_ne (tgt := 139) hx hb ⟨(by omega), (by omega)⟩ ⟨(by omega), (by omega)⟩ dX12_tokenizeProof_132 (by decide) (fun c => absurd (by omega) c) (fun _ => ?_)
                  refine lv_iconst (v := iv 1) hx hb dX12_tokenizeProof_135 (by decide) ?_
                  refine lv_goto (tgt := 140) hx hb dX12_tokenizeProof_136 (by decide) ?_
                  refine lv_istore (lv' := [(5, .int (iv 1)), (4, .int (iv 0)), (3, .int (iv 0)), (2, .int (iv (S.2.1 243 ps))), (1, .int (iv ps)), (0, .ref (G.2.2.1 + 231))]) hx hb dX12_tokenizeProof_140 hl (by decide) rfl (fun ls hl => ?_)
                  refine lv_iload hx hb dX12_tokenizeProof_142 (lv_at hl 0 rfl) ?_
                  refine lv_istore_n (lv' := [(3, .int (iv 1)), (5, .int (iv 1)), (4, .int (iv 0)), (2, .int (iv (S.2.1 243 ps))), (1, .int (iv ps)), (0, .ref (G.2.2.1 + 231))]) hx hb dX12_tokenizeProof_144 rfl hl (by decide) rfl (fun ls hl => ?_)
                  refine lv_iconst (v := iv 1) hx hb dX12_tokenizeProof_145 (by decide) ?_
                  refine lv_istore (lv' := [(6, .int (iv 1)), (3, .int (iv 1)), (5, .int (iv 1)), (4, .int (iv 0)), (2, .int (iv (S.2.1 243 ps))), (1, .int (iv ps)), (0, .ref (G.2.2.1 + 231))]) hx hb dX12_tokenizeProof_146 hl (by decide) rfl (fun ls hl => ?_)
                  have loop_148 : ∀ (fuel : Nat) (zf : Int) (w : Int) (H : Heap) (locs : List Loc) (ls : Array Slot), (S.1 231 14 - ps - w).toNat < fuel → (1 ≤ w ∧ ps + w ≤ S.1 231 14) → (∀ x, ps + 1 ≤ x → x < ps + w → 48 ≤ S.2.1 243 x ∧ S.2.1 243 x ≤ 57) → (0 ≤ zf ∧ zf ≤ 1) → (Hd (zf = 0 → ∃ x, ps + 1 ≤ x ∧ x < ps + w ∧ S.2.1 243 x ≠ 48)) → sW G 294 S7 H → sL G locs → lv_has ls 7 [(6, .int (iv zf)), (3, .int (iv w)), (5, .int (iv 1)), (4, .int (iv 0)), (2, .int (iv (S.2.1 243 ps))), (1, .int (iv ps)), (0, .ref (G.2.2.1 + 231))] → W p l e (rmk 6 0 0) s m args below meth c H locs 0 0 (MQ below (sQv G 294 (fun u => dX G u ∧ Fr S u (pl [231, 244, 245, 246, 247]) ∧ FF S u (fl [19]) ∧ (dTQ u))) args s 0 0 (sF G)) (F0 m 148 ls []) := by
                    intro fuel
                    induction fuel with
                    | zero => intro zf w H locs ls hmeas hw hdg hzf hzx hW hL hl; exact absurd hmeas (Nat.not_lt_zero _)
                    | succ fuel ih_148 =>
                      intro zf w H locs ls hmeas hw hdg hzf hzx hW hL hl
                      refine lv_aload_n hx hb dX12_tokenizeProof_148 rfl (lv_at hl 6 rfl) ?_
                      refine lv_iload_n hx hb dX12_tokenizeProof_149 rfl (lv_at hl 5 rfl) ?_
                      refine lv_iload_n hx hb dX12_tokenizeProof_150 rfl (lv_at hl 1 rfl) ?_
                      refine r_iadd hx hb dX12_tokenizeProof_151 ?_
                      have lk_154 : S7.1 231 14 = S.1 231 14 := (gL7_ 14 rfl).trans (uF_ne (fun h => absurd h.2 (by decide)))
                      refine sBi (sV (As := [.int (iv (ps + w))]) (rest := []) (k := 231) Cx (s_X12_at l G S7 (a := ps + w) hI7 (by omega) (by omega)) (c_X12_292 Cx rfl rfl (rmk_ok (by omega) (by decide))) hW (by decide) rfl rfl rfl hl.1 rfl (Nat.le_of_ble_eq_true rfl) dX12_tokenizeProof_152 ⟨Nat.le_of_ble_eq_true rfl, Nat.le_of_ble_eq_true rfl⟩) hL (fun r_157 u_155 H locs k_156 hW hL => ?_)
                      obtain ⟨eu_155, xu_155⟩ := k_156
                      rw [eu_155] at hW
                      refine sBi (sSt (As := [.int (iv r_157)]) (rest := []) Cx (s_X12_isDigit l G S7 (ch := r_157) (by omega)) (c_X12_299 Cx rfl rfl (rmk_ok (by omega) (by decide))) hW rfl hl.1 rfl (Nat.le_of_ble_eq_true rfl) dX12_tokenizeProof_155 ⟨Nat.le_of_ble_eq_true rfl, Nat.le_of_ble_eq_true rfl⟩) hL (fun r_160 u_158 H locs k_159 hW hL => ?_)
                      obtain ⟨eu_158, xu_158⟩ := k_159
                      rw [eu_158] at hW
                      refine r_if_eq (tgt := 191) hx hb ⟨(by omega), (by omega)⟩ dX12_tokenizeProof_158 (by decide) (fun c_161 => ?_) (fun c_161 => ?_)
                      · have join_224 : ∀ (ok : Int) (H : Heap) (locs : List Loc) (ls : Array Slot), ((0 ≤ ok ∧ ok ≤ 1) ∧ (ok = 1 → 1 + 1 ≤ w ∧ w ≤ 1 + 60)) → sW G 294 S7 H → sL G locs → lv_has ls 7 [(6, .int (iv zf)), (3, .int (iv w)), (5, .int (iv 1)), (4, .int (iv ok)), (2, .int (iv (S.2.1 243 ps))), (1, .int (iv ps)), (0, .ref (G.2.2.1 + 231))] → W p l e (rmk 6 0 0) s m args below meth c H locs 0 0 (MQ below (sQv G 294 (fun u => dX G u ∧ Fr S u (pl [231, 244, 245, 246, 247]) ∧ FF S u (fl [19]) ∧ (dTQ u))) args s 0 0 (sF G)) (F0 m 224 ls []) := by
                          intro ok H locs ls hok hW hL hl
                          refine lv_aload_n hx hb dX12_tokenizeProof_224 rfl (lv_at hl 6 rfl) ?_
                          refine lv_iload hx hb dX12_tokenizeProof_225 (lv_at hl 3 rfl) ?_
                          refine r_if_eq (tgt := 234) hx hb ⟨(by omega), (by omega)⟩ dX12_tokenizeProof_227 (by decide) (fun c_162 => ?_) (fun c_162 => ?_)
                          · refine lv_bipush (v := iv 6) hx hb dX12_tokenizeProof_234 (by decide) ?_
                            refine lv_iload_n hx hb dX12_tokenizeProof_236 rfl (lv_at hl 5 rfl) ?_
                            refine lv_iload_n hx hb dX12_tokenizeProof_237 rfl (lv_at hl 1 rfl) ?_
                            refine lv_iload hx hb dX12_tokenizeProof_238 (lv_at hl 0 rfl) ?_
                            refine r_if_eq (tgt := 247) hx hb ⟨(by omega), (by omega)⟩ dX12_tokenizeProof_240 (by decide) (fun c_163 => ?_) (fun c_163 => ?_)
                            · refine lv_iload hx hb dX12_tokenizeProof_247 (lv_at hl 2 rfl) ?_
                              refine lv_iconst (v := iv 1) hx hb dX12_tokenizeProof_249 (by decide) ?_
                              refine r_icmp_ne (tgt := 257) hx hb ⟨(by omega), (by omega)⟩ ⟨(by omega), (by omega)⟩ dX12_tokenizeProof_250 (by decide) (fun c => absurd (by omega) c) (fun _ => ?_)
                              refine lv_iconst (v := iv (-1)) hx hb dX12_tokenizeProof_253 (by decide) ?_
                              refine lv_goto (tgt := 258) hx hb dX12_tokenizeProof_254 (by decide) ?_
                              have q_164 : (-2147483648) ≤ S7.1 231 19 ∧ S7.1 231 19 ≤ 2147483647 := hI7.fi 19
                              refine sBv (sV (As := [.int (iv 6), .int (iv ps), .int (iv w), .int (iv ((-1)))]) (rest := []) (k := 231) Cx (s_X12_token l G S7 (k := 6) (f := ps) (wd := w) (v := (-1)) hI7 (by omega) (by omega) (by omega) (by omega) (by omega)) (c_X12_308 Cx rfl rfl (rmk_ok (by omega) (by decide))) hW (by decide) rfl rfl rfl hl.1 rfl (Nat.le_of_ble_eq_true rfl) dX12_tokenizeProof_258 ⟨Nat.le_of_ble_eq_true rfl, Nat.le_of_ble_eq_true rfl⟩) hL (fun u_165 H locs k_166 hW hL => ?_)
                              obtain ⟨iu_165, fu_165, gu_165, xu_165⟩ := k_166
                              have F_167 := hFm7.trans fu_165
                              have F_168 := hL7_.trans fu_165
                              have F_169 := (Fr.rf : Fr S7 S7 (pl [231, 244, 245, 246, 247])).trans fu_165
                              have g_170 : FF S u_165 (fl [19]) := FF.trans hGm7 (FF.to gu_165 (fl_sub (by decide)))
                              have g_171 : FF ((uF S 231 19 0)) u_165 (fl [19]) := FF.trans gL7_ (FF.to gu_165 (fl_sub (by decide)))
                              have g_172 : FF S7 u_165 (fl [19]) := FF.trans (FF.rf : FF S7 S7 (fl [19])) (FF.to gu_165 (fl_sub (by decide)))
                              refine lv_goto (tgt := 309) hx hb dX12_tokenizeProof_261 (by decide) ?_
                              have q_173 : (-2147483648) ≤ u_165.1 231 19 ∧ u_165.1 231 19 ≤ 2147483647 := iu_165.fi 19
                              exact join_309 u_165 ok w _ _ _ iu_165 F_167 F_168 F_169 g_170 g_171 g_172 (by omega) (by omega) (hTP.tok xu_165.2 (funext fun j => (fu_165 243 rfl).2.1 j) (fun z => absurd z (by decide))) (by rw [xu_165.2.1, if_pos rfl]; omega) (hTE.tok xu_165.2) hW hL (lv_sub hl [3, 1, 4, 5, 6] rfl)
                            · refine lv_iconst (v := iv 0) hx hb dX12_tokenizeProof_243 (by decide) ?_
                              refine lv_goto (tgt := 258) hx hb dX12_tokenizeProof_244 (by decide) ?_
                              have q_174 : (-2147483648) ≤ S7.1 231 19 ∧ S7.1 231 19 ≤ 2147483647 := hI7.fi 19
                              refine sBv (sV (As := [.int (iv 6), .int (iv ps), .int (iv w), .int (iv 0)]) (rest := []) (k := 231) Cx (s_X12_token l G S7 (k := 6) (f := ps) (wd := w) (v := 0) hI7 (by omega) (by omega) (by omega) (by omega) (by omega)) (c_X12_308 Cx rfl rfl (rmk_ok (by omega) (by decide))) hW (by decide) rfl rfl rfl hl.1 rfl (Nat.le_of_ble_eq_true rfl) dX12_tokenizeProof_258 ⟨Nat.le_of_ble_eq_true rfl, Nat.le_of_ble_eq_true rfl⟩) hL (fun u_175 H locs k_176 hW hL => ?_)
                              obtain ⟨iu_175, fu_175, gu_175, xu_175⟩ := k_176
                              have F_177 := hFm7.trans fu_175
                              have F_178 := hL7_.trans fu_175
                              have F_179 := (Fr.rf : Fr S7 S7 (pl [231, 244, 245, 246, 247])).trans fu_175
                              have g_180 : FF S u_175 (fl [19]) := FF.trans hGm7 (FF.to gu_175 (fl_sub (by decide)))
                              have g_181 : FF ((uF S 231 19 0)) u_175 (fl [19]) := FF.trans gL7_ (FF.to gu_175 (fl_sub (by decide)))
                              have g_182 : FF S7 u_175 (fl [19]) := FF.trans (FF.rf : FF S7 S7 (fl [19])) (FF.to gu_175 (fl_sub (by decide)))
                              refine lv_goto (tgt := 309) hx hb dX12_tokenizeProof_261 (by decide) ?_
                              have q_183 : (-2147483648) ≤ u_175.1 231 19 ∧ u_175.1 231 19 ≤ 2147483647 := iu_175.fi 19
                              exact join_309 u_175 ok w _ _ _ iu_175 F_177 F_178 F_179 g_180 g_181 g_182 (by omega) (by omega) (hTP.tok xu_175.2 (funext fun j => (fu_175 243 rfl).2.1 j) (fun z => absurd z (by decide))) (by rw [xu_175.2.1, if_pos rfl]; omega) (hTE.tok xu_175.2) hW hL (lv_sub hl [3, 1, 4, 5, 6] rfl)
                          · refine lv_iconst (v := iv 2) hx hb dX12_tokenizeProof_230 (by decide) ?_
                            refine lv_goto (tgt := 236) hx hb dX12_tokenizeProof_231 (by decide) ?_
                            refine lv_iload_n hx hb dX12_tokenizeProof_236 rfl (lv_at hl 5 rfl) ?_
                            refine lv_iload_n hx hb dX12_tokenizeProof_237 rfl (lv_at hl 1 rfl) ?_
                            refine lv_iload hx hb dX12_tokenizeProof_238 (lv_at hl 0 rfl) ?_
                            refine r_if_eq (tgt := 247) hx hb ⟨(by omega), (by omega)⟩ dX12_tokenizeProof_240 (by decide) (fun c_184 => ?_) (fun c_184 => ?_)
                            · refine lv_iload hx hb dX12_tokenizeProof_247 (lv_at hl 2 rfl) ?_
                              refine lv_iconst (v := iv 1) hx hb dX12_tokenizeProof_249 (by decide) ?_
                              refine r_icmp_ne (tgt := 257) hx hb ⟨(by omega), (by omega)⟩ ⟨(by omega), (by omega)⟩ dX12_tokenizeProof_250 (by decide) (fun c => absurd (by omega) c) (fun _ => ?_)
                              refine lv_iconst (v := iv (-1)) hx hb dX12_tokenizeProof_253 (by decide) ?_
                              refine lv_goto (tgt := 258) hx hb dX12_tokenizeProof_254 (by decide) ?_
                              have q_185 : (-2147483648) ≤ S7.1 231 19 ∧ S7.1 231 19 ≤ 2147483647 := hI7.fi 19
                              refine sBv (sV (As := [.int (iv 2), .int (iv ps), .int (iv w), .int (iv ((-1)))]) (rest := []) (k := 231) Cx (s_X12_token l G S7 (k := 2) (f := ps) (wd := w) (v := (-1)) hI7 (by omega) (by omega) (by omega) (by omega) (by omega)) (c_X12_308 Cx rfl rfl (rmk_ok (by omega) (by decide))) hW (by decide) rfl rfl rfl hl.1 rfl (Nat.le_of_ble_eq_true rfl) dX12_tokenizeProof_258 ⟨Nat.le_of_ble_eq_true rfl, Nat.le_of_ble_eq_true rfl⟩) hL (fun u_186 H locs k_187 hW hL => ?_)
                              obtain ⟨iu_186, fu_186, gu_186, xu_186⟩ := k_187
                              have F_188 := hFm7.trans fu_186
                              have F_189 := hL7_.trans fu_186
                              have F_190 := (Fr.rf : Fr S7 S7 (pl [231, 244, 245, 246, 247])).trans fu_186
                              have g_191 : FF S u_186 (fl [19]) := FF.trans hGm7 (FF.to gu_186 (fl_sub (by decide)))
                              have g_192 : FF ((uF S 231 19 0)) u_186 (fl [19]) := FF.trans gL7_ (FF.to gu_186 (fl_sub (by decide)))
                              have g_193 : FF S7 u_186 (fl [19]) := FF.trans (FF.rf : FF S7 S7 (fl [19])) (FF.to gu_186 (fl_sub (by decide)))
                              refine lv_goto (tgt := 309) hx hb dX12_tokenizeProof_261 (by decide) ?_
                              have q_194 : (-2147483648) ≤ u_186.1 231 19 ∧ u_186.1 231 19 ≤ 2147483647 := iu_186.fi 19
                              exact join_309 u_186 ok w _ _ _ iu_186 F_188 F_189 F_190 g_191 g_192 g_193 (by omega) (by omega) (hTP.tok xu_186.2 (funext fun j => (fu_186 243 rfl).2.1 j) (fun _ => by rw [show S7.2.1 243 = S.2.1 243 from funext fun j => (hFm7 243 rfl).2.1 j]; exact ⟨(by omega), (by omega), 1, .inl ⟨rfl, (by omega)⟩, (by omega), hdg, (fun z => absurd z (by decide))⟩)) (by rw [xu_186.2.1, if_pos rfl]; omega) (hTE.tok xu_186.2) hW hL (lv_sub hl [3, 1, 4, 5, 6] rfl)
                            · refine lv_iconst (v := iv 0) hx hb dX12_tokenizeProof_243 (by decide) ?_
                              refine lv_goto (tgt := 258) hx hb dX12_tokenizeProof_244 (by decide) ?_
                              have q_195 : (-2147483648) ≤ S7.1 231 19 ∧ S7.1 231 19 ≤ 2147483647 := hI7.fi 19
                              refine sBv (sV (As := [.int (iv 2), .int (iv ps), .int (iv w), .int (iv 0)]) (rest := []) (k := 231) Cx (s_X12_token l G S7 (k := 2) (f := ps) (wd := w) (v := 0) hI7 (by omega) (by omega) (by omega) (by omega) (by omega)) (c_X12_308 Cx rfl rfl (rmk_ok (by omega) (by decide))) hW (by decide) rfl rfl rfl hl.1 rfl (Nat.le_of_ble_eq_true rfl) dX12_tokenizeProof_258 ⟨Nat.le_of_ble_eq_true rfl, Nat.le_of_ble_eq_true rfl⟩) hL (fun u_196 H locs k_197 hW hL => ?_)
                              obtain ⟨iu_196, fu_196, gu_196, xu_196⟩ := k_197
                              have F_198 := hFm7.trans fu_196
                              have F_199 := hL7_.trans fu_196
                              have F_200 := (Fr.rf : Fr S7 S7 (pl [231, 244, 245, 246, 247])).trans fu_196
                              have g_201 : FF S u_196 (fl [19]) := FF.trans hGm7 (FF.to gu_196 (fl_sub (by decide)))
                              have g_202 : FF ((uF S 231 19 0)) u_196 (fl [19]) := FF.trans gL7_ (FF.to gu_196 (fl_sub (by decide)))
                              have g_203 : FF S7 u_196 (fl [19]) := FF.trans (FF.rf : FF S7 S7 (fl [19])) (FF.to gu_196 (fl_sub (by decide)))
                              refine lv_goto (tgt := 309) hx hb dX12_tokenizeProof_261 (by decide) ?_
                              have q_204 : (-2147483648) ≤ u_196.1 231 19 ∧ u_196.1 231 19 ≤ 2147483647 := iu_196.fi 19
                              exact join_309 u_196 ok w _ _ _ iu_196 F_198 F_199 F_200 g_201 g_202 g_203 (by omega) (by omega) (hTP.tok xu_196.2 (funext fun j => (fu_196 243 rfl).2.1 j) (fun _ => by rw [show S7.2.1 243 = S.2.1 243 from funext fun j => (hFm7 243 rfl).2.1 j]; exact ⟨(by omega), (by omega), 1, .inl ⟨rfl, (by omega)⟩, (by omega), hdg, (fun z => absurd z (by decide))⟩)) (by rw [xu_196.2.1, if_pos rfl]; omega) (hTE.tok xu_196.2) hW hL (lv_sub hl [3, 1, 4, 5, 6] rfl)
                        refine lv_iload_n hx hb dX12_tokenizeProof_191 rfl (lv_at hl 1 rfl) ?_
                        refine lv_iload hx hb dX12_tokenizeProof_192 (lv_at hl 2 rfl) ?_
                        refine r_icmp_le (tgt := 221) hx hb ⟨(by omega), (by omega)⟩ ⟨(by omega), (by omega)⟩ dX12_tokenizeProof_194 (by decide) (fun c_205 => ?_) (fun c_205 => ?_)
                        · refine lv_iconst (v := iv 0) hx hb dX12_tokenizeProof_221 (by decide) ?_
                          refine lv_istore (lv' := [(4, .int (iv 0)), (6, .int (iv zf)), (3, .int (iv w)), (5, .int (iv 1)), (2, .int (iv (S.2.1 243 ps))), (1, .int (iv ps)), (0, .ref (G.2.2.1 + 231))]) hx hb dX12_tokenizeProof_222 hl (by decide) rfl (fun ls hl => ?_)
                          exact join_224 0 _ _ _ (by omega) hW hL (lv_sub hl [1, 2, 3, 0, 4, 5, 6] rfl)
                        · refine lv_iload_n hx hb dX12_tokenizeProof_197 rfl (lv_at hl 1 rfl) ?_
                          refine lv_iload hx hb dX12_tokenizeProof_198 (lv_at hl 2 rfl) ?_
                          refine r_isub hx hb dX12_tokenizeProof_200 ?_
                          refine lv_bipush (v := iv 60) hx hb dX12_tokenizeProof_201 (by decide) ?_
                          refine r_icmp_gt (tgt := 221) hx hb ⟨(by omega), (by omega)⟩ ⟨(by omega), (by omega)⟩ dX12_tokenizeProof_203 (by decide) (fun c_206 => ?_) (fun c_206 => ?_)
                          · refine lv_iconst (v := iv 0) hx hb dX12_tokenizeProof_221 (by decide) ?_
                            refine lv_istore (lv' := [(4, .int (iv 0)), (6, .int (iv zf)), (3, .int (iv w)), (5, .int (iv 1)), (2, .int (iv (S.2.1 243 ps))), (1, .int (iv ps)), (0, .ref (G.2.2.1 + 231))]) hx hb dX12_tokenizeProof_222 hl (by decide) rfl (fun ls hl => ?_)
                            exact join_224 0 _ _ _ (by omega) hW hL (lv_sub hl [1, 2, 3, 0, 4, 5, 6] rfl)
                          · refine lv_iload hx hb dX12_tokenizeProof_206 (lv_at hl 0 rfl) ?_
                            refine r_if_eq (tgt := 217) hx hb ⟨(by omega), (by omega)⟩ dX12_tokenizeProof_208 (by decide) (fun c_207 => ?_) (fun c_207 => ?_)
                            · refine lv_iconst (v := iv 1) hx hb dX12_tokenizeProof_217 (by decide) ?_
                              refine lv_goto (tgt := 222) hx hb dX12_tokenizeProof_218 (by decide) ?_
                              refine lv_istore (lv' := [(4, .int (iv 1)), (6, .int (iv zf)), (3, .int (iv w)), (5, .int (iv 1)), (2, .int (iv (S.2.1 243 ps))), (1, .int (iv ps)), (0, .ref (G.2.2.1 + 231))]) hx hb dX12_tokenizeProof_222 hl (by decide) rfl (fun ls hl => ?_)
                              exact join_224 1 _ _ _ (by omega) hW hL (lv_sub hl [1, 2, 3, 0, 4, 5, 6] rfl)
                            · refine lv_iload hx hb dX12_tokenizeProof_211 (lv_at hl 2 rfl) ?_
                              refine lv_iconst (v := iv 1) hx hb dX12_tokenizeProof_213 (by decide) ?_
                              refine r_icmp_eq (tgt := 221) hx hb ⟨(by omega), (by omega)⟩ ⟨(by omega), (by omega)⟩ dX12_tokenizeProof_214 (by decide) (fun _ => ?_) (fun c => absurd (by omega) c)
                              refine lv_iconst (v := iv 0) hx hb dX12_tokenizeProof_221 (by decide) ?_
                              refine lv_istore (lv' := [(4, .int (iv 0)), (6, .int (iv zf)), (3, .int (iv w)), (5, .int (iv 1)), (2, .int (iv (S.2.1 243 ps))), (1, .int (iv ps)), (0, .ref (G.2.2.1 + 231))]) hx hb dX12_tokenizeProof_222 hl (by decide) rfl (fun ls hl => ?_)
                              exact join_224 0 _ _ _ (by omega) hW hL (lv_sub hl [1, 2, 3, 0, 4, 5, 6] rfl)
                      · refine lv_iload hx hb dX12_tokenizeProof_161 (lv_at hl 0 rfl) ?_
                        refine r_if_eq (tgt := 182) hx hb ⟨(by omega), (by omega)⟩ dX12_tokenizeProof_163 (by decide) (fun c_208 => ?_) (fun c_208 => ?_)
                        · refine lv_iconst (v := iv 0) hx hb dX12_tokenizeProof_182 (by decide) ?_
                          refine lv_istore (lv' := [(6, .int (iv 0)), (3, .int (iv w)), (5, .int (iv 1)), (4, .int (iv 0)), (2, .int (iv (S.2.1 243 ps))), (1, .int (iv ps)), (0, .ref (G.2.2.1 + 231))]) hx hb dX12_tokenizeProof_183 hl (by decide) rfl (fun ls hl => ?_)
                          refine lv_iinc (v := iv (w + 1)) (lv' := [(3, .int (iv (w + 1))), (6, .int (iv 0)), (5, .int (iv 1)), (4, .int (iv 0)), (2, .int (iv (S.2.1 243 ps))), (1, .int (iv ps)), (0, .ref (G.2.2.1 + 231))]) hx hb dX12_tokenizeProof_185 hl (k := 1) rfl ((Int32.ofInt_add _ _).symm) (by decide) rfl (fun ls hl => ?_)
                          refine lv_goto (tgt := 148) hx hb dX12_tokenizeProof_188 (by decide) ?_
                          exact ih_148 0 (w + 1) _ _ _ (by omega) (by omega) (fun x a b => if e9 : x = ps + w then (by rw [e9]; have y1 := xu_155.2.2 (by omega); rw [show S7.2.1 243 = S.2.1 243 from funext fun j => (hFm7 243 rfl).2.1 j] at y1; omega) else hdg x a (by omega)) (by omega) (fun _ => by obtain ⟨x, a, b, d⟩ := hzx (by omega); exact ⟨x, a, by omega, d⟩) hW hL (lv_sub hl [1, 0, 2, 3, 4, 5, 6] rfl)
                        · refine lv_aload_n hx hb dX12_tokenizeProof_166 rfl (lv_at hl 6 rfl) ?_
                          refine lv_iload_n hx hb dX12_tokenizeProof_167 rfl (lv_at hl 5 rfl) ?_
                          refine lv_iload_n hx hb dX12_tokenizeProof_168 rfl (lv_at hl 1 rfl) ?_
                          refine r_iadd hx hb dX12_tokenizeProof_169 ?_
                          refine sBi (sV (As := [.int (iv (ps + w))]) (rest := []) (k := 231) Cx (s_X12_at l G S7 (a := ps + w) hI7 (by omega) (by omega)) (c_X12_292 Cx rfl rfl (rmk_ok (by omega) (by decide))) hW (by decide) rfl rfl rfl hl.1 rfl (Nat.le_of_ble_eq_true rfl) dX12_tokenizeProof_170 ⟨Nat.le_of_ble_eq_true rfl, Nat.le_of_ble_eq_true rfl⟩) hL (fun r_211 u_209 H locs k_210 hW hL => ?_)
                          obtain ⟨eu_209, xu_209⟩ := k_210
                          rw [eu_209] at hW
                          refine lv_bipush (v := iv 48) hx hb dX12_tokenizeProof_173 (by decide) ?_
                          refine r_icmp_ne (tgt := 182) hx hb ⟨(by omega), (by omega)⟩ ⟨(by omega), (by omega)⟩ dX12_tokenizeProof_175 (by decide) (fun c_212 => ?_) (fun c_212 => ?_)
                          · refine lv_iconst (v := iv 0) hx hb dX12_tokenizeProof_182 (by decide) ?_
                            refine lv_istore (lv' := [(6, .int (iv 0)), (3, .int (iv w)), (5, .int (iv 1)), (4, .int (iv 0)), (2, .int (iv (S.2.1 243 ps))), (1, .int (iv ps)), (0, .ref (G.2.2.1 + 231))]) hx hb dX12_tokenizeProof_183 hl (by decide) rfl (fun ls hl => ?_)
                            refine lv_iinc (v := iv (w + 1)) (lv' := [(3, .int (iv (w + 1))), (6, .int (iv 0)), (5, .int (iv 1)), (4, .int (iv 0)), (2, .int (iv (S.2.1 243 ps))), (1, .int (iv ps)), (0, .ref (G.2.2.1 + 231))]) hx hb dX12_tokenizeProof_185 hl (k := 1) rfl ((Int32.ofInt_add _ _).symm) (by decide) rfl (fun ls hl => ?_)
                            refine lv_goto (tgt := 148) hx hb dX12_tokenizeProof_188 (by decide) ?_
                            exact ih_148 0 (w + 1) _ _ _ (by omega) (by omega) (fun x a b => if e9 : x = ps + w then (by rw [e9]; have y1 := xu_155.2.2 (by omega); rw [show S7.2.1 243 = S.2.1 243 from funext fun j => (hFm7 243 rfl).2.1 j] at y1; omega) else hdg x a (by omega)) (by omega) (fun _ => ⟨ps + w, by omega, by omega, (by have y1 := xu_209.2.2 (by omega); rw [show S7.2.1 243 = S.2.1 243 from funext fun j => (hFm7 243 rfl).2.1 j] at y1; omega)⟩) hW hL (lv_sub hl [1, 0, 2, 3, 4, 5, 6] rfl)
                          · refine lv_iconst (v := iv 1) hx hb dX12_tokenizeProof_178 (by decide) ?_
                            refine lv_goto (tgt := 183) hx hb dX12_tokenizeProof_179 (by decide) ?_
                            refine lv_istore (lv' := [(6, .int (iv 1)), (3, .int (iv w)), (5, .int (iv 1)), (4, .int (iv 0)), (2, .int (iv (S.2.1 243 ps))), (1, .int (iv ps)), (0, .ref (G.2.2.1 + 231))]) hx hb dX12_tokenizeProof_183 hl (by decide) rfl (fun ls hl => ?_)
                            refine lv_iinc (v := iv (w + 1)) (lv' := [(3, .int (iv (w + 1))), (6, .int (iv 1)), (5, .int (iv 1)), (4, .int (iv 0)), (2, .int (iv (S.2.1 243 ps))), (1, .int (iv ps)), (0, .ref (G.2.2.1 + 231))]) hx hb dX12_tokenizeProof_185 hl (k := 1) rfl ((Int32.ofInt_add _ _).symm) (by decide) rfl (fun ls hl => ?_)
                            refine lv_goto (tgt := 148) hx hb dX12_tokenizeProof_188 (by decide) ?_
                            exact ih_148 1 (w + 1) _ _ _ (by omega) (by omega) (fun x a b => if e9 : x = ps + w then (by rw [e9]; have y1 := xu_155.2.2 (by omega); rw [show S7.2.1 243 = S.2.1 243 from funext fun j => (hFm7 243 rfl).2.1 j] at y1; omega) else hdg x a (by omega)) (by omega) (fun z => absurd z (by decide)) hW hL (lv_sub hl [1, 0, 2, 3, 4, 5, 6] rfl)
                  exact loop_148 (_ + 1) 1 1 _ _ _ (Nat.lt_succ_self _) (by omega) (fun x a b => absurd b (by omega)) (by omega) (fun z => absurd z (by decide)) hW hL (lv_sub hl [0, 1, 2, 3, 4, 5, 6] rfl)
            · have loop_52 : ∀ (fuel : Nat) (w : Int) (H : Heap) (locs : List Loc) (ls : Array Slot), (S.1 231 14 - ps - w).toNat < fuel → (0 ≤ w ∧ ps + w ≤ S.1 231 14) → (Hd (w = 0 → (97 ≤ S7.2.1 243 (ps + w) ∧ S7.2.1 243 (ps + w) ≤ 122) ∨ (65 ≤ S7.2.1 243 (ps + w) ∧ S7.2.1 243 (ps + w) ≤ 90))) → sW G 294 S7 H → sL G locs → lv_has ls 7 [(4, .int (iv 0)), (3, .int (iv w)), (2, .int (iv (S.2.1 243 ps))), (1, .int (iv ps)), (0, .ref (G.2.2.1 + 231))] → W p l e (rmk 6 0 0) s m args below meth c H locs 0 0 (MQ below (sQv G 294 (fun u => dX G u ∧ Fr S u (pl [231, 244, 245, 246, 247]) ∧ FF S u (fl [19]) ∧ (dTQ u))) args s 0 0 (sF G)) (F0 m 52 ls []) := by
                intro fuel
                induction fuel with
                | zero => intro w H locs ls hmeas hw hw0 hW hL hl; exact absurd hmeas (Nat.not_lt_zero _)
                | succ fuel ih_52 =>
                  intro w H locs ls hmeas hw hw0 hW hL hl
                  refine lv_aload_n hx hb dX12_tokenizeProof_52 rfl (lv_at hl 4 rfl) ?_
                  refine lv_iload_n hx hb dX12_tokenizeProof_53 rfl (lv_at hl 3 rfl) ?_
                  refine lv_iload_n hx hb dX12_tokenizeProof_54 rfl (lv_at hl 1 rfl) ?_
                  refine r_iadd hx hb dX12_tokenizeProof_55 ?_
                  have lk_213 : S7.1 231 14 = S.1 231 14 := (gL7_ 14 rfl).trans (uF_ne (fun h => absurd h.2 (by decide)))
                  refine sBi (sV (As := [.int (iv (ps + w))]) (rest := []) (k := 231) Cx (s_X12_at l G S7 (a := ps + w) hI7 (by omega) (by omega)) (c_X12_292 Cx rfl rfl (rmk_ok (by omega) (by decide))) hW (by decide) rfl rfl rfl hl.1 rfl (Nat.le_of_ble_eq_true rfl) dX12_tokenizeProof_56 ⟨Nat.le_of_ble_eq_true rfl, Nat.le_of_ble_eq_true rfl⟩) hL (fun r_216 u_214 H locs k_215 hW hL => ?_)
                  obtain ⟨eu_214, xu_214⟩ := k_215
                  rw [eu_214] at hW
                  refine sBi (sSt (As := [.int (iv r_216)]) (rest := []) Cx (s_X12_isLetter l G S7 (ch := r_216) (by omega)) (c_X12_295 Cx rfl rfl (rmk_ok (by omega) (by decide))) hW rfl hl.1 rfl (Nat.le_of_ble_eq_true rfl) dX12_tokenizeProof_59 ⟨Nat.le_of_ble_eq_true rfl, Nat.le_of_ble_eq_true rfl⟩) hL (fun r_219 u_217 H locs k_218 hW hL => ?_)
                  obtain ⟨eu_217, xu_217⟩ := k_218
                  rw [eu_217] at hW
                  refine r_if_eq (tgt := 71) hx hb ⟨(by omega), (by omega)⟩ dX12_tokenizeProof_62 (by decide) (fun c_220 => ?_) (fun c_220 => ?_)
                  · have hwp : 1 ≤ w := by by_cases z : w = 0; (have y1 := hw0 z; have y2 := xu_214.2.2 (by omega); omega); omega
                    refine lv_aload_n hx hb dX12_tokenizeProof_71 rfl (lv_at hl 4 rfl) ?_
                    refine zLdcw Cx 37 (by decide) ⟨rfl, rfl⟩ dX12_tokenizeProof_72 ?_
                    refine lv_iload_n hx hb dX12_tokenizeProof_75 rfl (lv_at hl 3 rfl) ?_
                    refine lv_iload_n hx hb dX12_tokenizeProof_76 rfl (lv_at hl 1 rfl) ?_
                    refine sBi (sV (As := [.ref (G.1.2 100 37), .int (iv ps), .int (iv w)]) (rest := []) (k := 231) Cx (s_X12_among l G S7 (si := 37) (a := ps) (b := w) hI7 (by decide) (by omega)) (c_X12_304 Cx rfl rfl (rmk_ok (by omega) (by decide))) hW (by decide) rfl rfl rfl hl.1 rfl (Nat.le_of_ble_eq_true rfl) dX12_tokenizeProof_77 ⟨Nat.le_of_ble_eq_true rfl, Nat.le_of_ble_eq_true rfl⟩) hL (fun r_223 u_221 H locs k_222 hW hL => ?_)
                    obtain ⟨eu_221, xu_221⟩ := k_222
                    rw [eu_221] at hW
                    refine lv_istore (lv' := [(5, .int (iv r_223)), (4, .int (iv 0)), (3, .int (iv w)), (2, .int (iv (S.2.1 243 ps))), (1, .int (iv ps)), (0, .ref (G.2.2.1 + 231))]) hx hb dX12_tokenizeProof_80 hl (by decide) rfl (fun ls hl => ?_)
                    refine lv_iload hx hb dX12_tokenizeProof_82 (lv_at hl 0 rfl) ?_
                    refine r_if_lt (tgt := 91) hx hb ⟨(by omega), (by omega)⟩ dX12_tokenizeProof_84 (by decide) (fun c_224 => ?_) (fun c_224 => ?_)
                    · refine lv_iconst (v := iv 0) hx hb dX12_tokenizeProof_91 (by decide) ?_
                      refine lv_istore (lv' := [(4, .int (iv 0)), (5, .int (iv r_223)), (3, .int (iv w)), (2, .int (iv (S.2.1 243 ps))), (1, .int (iv ps)), (0, .ref (G.2.2.1 + 231))]) hx hb dX12_tokenizeProof_92 hl (by decide) rfl (fun ls hl => ?_)
                      refine lv_aload_n hx hb dX12_tokenizeProof_94 rfl (lv_at hl 5 rfl) ?_
                      refine lv_iload hx hb dX12_tokenizeProof_95 (lv_at hl 0 rfl) ?_
                      refine r_if_eq (tgt := 104) hx hb ⟨(by omega), (by omega)⟩ dX12_tokenizeProof_97 (by decide) (fun _ => ?_) (fun c => absurd (by omega) c)
                      refine lv_bipush (v := iv 6) hx hb dX12_tokenizeProof_104 (by decide) ?_
                      refine lv_iload_n hx hb dX12_tokenizeProof_106 rfl (lv_at hl 4 rfl) ?_
                      refine lv_iload_n hx hb dX12_tokenizeProof_107 rfl (lv_at hl 2 rfl) ?_
                      refine lv_iload hx hb dX12_tokenizeProof_108 (lv_at hl 1 rfl) ?_
                      have q_225 : (-2147483648) ≤ S7.1 231 19 ∧ S7.1 231 19 ≤ 2147483647 := hI7.fi 19
                      refine sBv (sV (As := [.int (iv 6), .int (iv ps), .int (iv w), .int (iv r_223)]) (rest := []) (k := 231) Cx (s_X12_token l G S7 (k := 6) (f := ps) (wd := w) (v := r_223) hI7 (by omega) (by omega) (by omega) (by omega) (by omega)) (c_X12_308 Cx rfl rfl (rmk_ok (by omega) (by decide))) hW (by decide) rfl rfl rfl hl.1 rfl (Nat.le_of_ble_eq_true rfl) dX12_tokenizeProof_110 ⟨Nat.le_of_ble_eq_true rfl, Nat.le_of_ble_eq_true rfl⟩) hL (fun u_226 H locs k_227 hW hL => ?_)
                      obtain ⟨iu_226, fu_226, gu_226, xu_226⟩ := k_227
                      have F_228 := hFm7.trans fu_226
                      have F_229 := hL7_.trans fu_226
                      have F_230 := (Fr.rf : Fr S7 S7 (pl [231, 244, 245, 246, 247])).trans fu_226
                      have g_231 : FF S u_226 (fl [19]) := FF.trans hGm7 (FF.to gu_226 (fl_sub (by decide)))
                      have g_232 : FF ((uF S 231 19 0)) u_226 (fl [19]) := FF.trans gL7_ (FF.to gu_226 (fl_sub (by decide)))
                      have g_233 : FF S7 u_226 (fl [19]) := FF.trans (FF.rf : FF S7 S7 (fl [19])) (FF.to gu_226 (fl_sub (by decide)))
                      refine lv_goto (tgt := 309) hx hb dX12_tokenizeProof_113 (by decide) ?_
                      have q_234 : (-2147483648) ≤ u_226.1 231 19 ∧ u_226.1 231 19 ≤ 2147483647 := iu_226.fi 19
                      exact join_309 u_226 0 w _ _ _ iu_226 F_228 F_229 F_230 g_231 g_232 g_233 (by omega) (by omega) (hTP.tok xu_226.2 (funext fun j => (fu_226 243 rfl).2.1 j) (fun z => absurd z (by decide))) (by rw [xu_226.2.1, if_pos rfl]; omega) (hTE.tok xu_226.2) hW hL (lv_sub hl [0, 2, 3, 4, 5] rfl)
                    · refine lv_iconst (v := iv 1) hx hb dX12_tokenizeProof_87 (by decide) ?_
                      refine lv_goto (tgt := 92) hx hb dX12_tokenizeProof_88 (by decide) ?_
                      refine lv_istore (lv' := [(4, .int (iv 1)), (5, .int (iv r_223)), (3, .int (iv w)), (2, .int (iv (S.2.1 243 ps))), (1, .int (iv ps)), (0, .ref (G.2.2.1 + 231))]) hx hb dX12_tokenizeProof_92 hl (by decide) rfl (fun ls hl => ?_)
                      refine lv_aload_n hx hb dX12_tokenizeProof_94 rfl (lv_at hl 5 rfl) ?_
                      refine lv_iload hx hb dX12_tokenizeProof_95 (lv_at hl 0 rfl) ?_
                      refine r_if_eq (tgt := 104) hx hb ⟨(by omega), (by omega)⟩ dX12_tokenizeProof_97 (by decide) (fun c => absurd c (by omega)) (fun _ => ?_)
                      refine lv_iconst (v := iv 3) hx hb dX12_tokenizeProof_100 (by decide) ?_
                      refine lv_goto (tgt := 106) hx hb dX12_tokenizeProof_101 (by decide) ?_
                      refine lv_iload_n hx hb dX12_tokenizeProof_106 rfl (lv_at hl 4 rfl) ?_
                      refine lv_iload_n hx hb dX12_tokenizeProof_107 rfl (lv_at hl 2 rfl) ?_
                      refine lv_iload hx hb dX12_tokenizeProof_108 (lv_at hl 1 rfl) ?_
                      have q_235 : (-2147483648) ≤ S7.1 231 19 ∧ S7.1 231 19 ≤ 2147483647 := hI7.fi 19
                      refine sBv (sV (As := [.int (iv 3), .int (iv ps), .int (iv w), .int (iv r_223)]) (rest := []) (k := 231) Cx (s_X12_token l G S7 (k := 3) (f := ps) (wd := w) (v := r_223) hI7 (by omega) (by omega) (by omega) (by omega) (by omega)) (c_X12_308 Cx rfl rfl (rmk_ok (by omega) (by decide))) hW (by decide) rfl rfl rfl hl.1 rfl (Nat.le_of_ble_eq_true rfl) dX12_tokenizeProof_110 ⟨Nat.le_of_ble_eq_true rfl, Nat.le_of_ble_eq_true rfl⟩) hL (fun u_236 H locs k_237 hW hL => ?_)
                      obtain ⟨iu_236, fu_236, gu_236, xu_236⟩ := k_237
                      have F_238 := hFm7.trans fu_236
                      have F_239 := hL7_.trans fu_236
                      have F_240 := (Fr.rf : Fr S7 S7 (pl [231, 244, 245, 246, 247])).trans fu_236
                      have g_241 : FF S u_236 (fl [19]) := FF.trans hGm7 (FF.to gu_236 (fl_sub (by decide)))
                      have g_242 : FF ((uF S 231 19 0)) u_236 (fl [19]) := FF.trans gL7_ (FF.to gu_236 (fl_sub (by decide)))
                      have g_243 : FF S7 u_236 (fl [19]) := FF.trans (FF.rf : FF S7 S7 (fl [19])) (FF.to gu_236 (fl_sub (by decide)))
                      refine lv_goto (tgt := 309) hx hb dX12_tokenizeProof_113 (by decide) ?_
                      have q_244 : (-2147483648) ≤ u_236.1 231 19 ∧ u_236.1 231 19 ≤ 2147483647 := iu_236.fi 19
                      exact join_309 u_236 1 w _ _ _ iu_236 F_238 F_239 F_240 g_241 g_242 g_243 (by omega) (by omega) (hTP.tok xu_236.2 (funext fun j => (fu_236 243 rfl).2.1 j) (fun z => absurd z (by decide))) (by rw [xu_236.2.1, if_pos rfl]; omega) (hTE.tok xu_236.2) hW hL (lv_sub hl [0, 2, 3, 4, 5] rfl)
                  · refine lv_iinc (v := iv (w + 1)) (lv' := [(3, .int (iv (w + 1))), (4, .int (iv 0)), (2, .int (iv (S.2.1 243 ps))), (1, .int (iv ps)), (0, .ref (G.2.2.1 + 231))]) hx hb dX12_tokenizeProof_65 hl (k := 1) rfl ((Int32.ofInt_add _ _).symm) (by decide) rfl (fun ls hl => ?_)
                    refine lv_goto (tgt := 52) hx hb dX12_tokenizeProof_68 (by decide) ?_
                    exact ih_52 (w + 1) _ _ _ (by omega) (by omega) (fun q => absurd q (by omega)) hW hL (lv_sub hl [1, 0, 2, 3, 4] rfl)
              exact loop_52 (_ + 1) 0 _ _ _ (Nat.lt_succ_self _) (by omega) (fun _ => by rw [show ps + 0 = ps by omega, show S7.2.1 243 ps = S.2.1 243 ps from (hFm7 243 rfl).2.1 ps]; omega) hW hL (lv_sub hl [0, 1, 2, 3, 4] rfl)
          · refine lv_iinc (v := iv (ps + 1)) (lv' := [(1, .int (iv (ps + 1))), (2, .int (iv (S.2.1 243 ps))), (0, .ref (G.2.2.1 + 231))]) hx hb dX12_tokenizeProof_34 hl (k := 1) rfl ((Int32.ofInt_add _ _).symm) (by decide) rfl (fun ls hl => ?_)
            refine lv_goto (tgt := 7) hx hb dX12_tokenizeProof_37 (by decide) ?_
            have q_245 : (-2147483648) ≤ S7.1 231 19 ∧ S7.1 231 19 ≤ 2147483647 := hI7.fi 19
            exact ih_7 S7 (ps + 1) _ _ _ (by omega) hI7 hFm7 hL7_ hGm7 gL7_ (by omega) (by omega) hTP hTE hW hL (lv_sub hl [0, 2] rfl)
  have lk_246 : (uF S 231 19 0).1 231 19 = 0 := uF_on
  exact loop_7 (_ + 1) (uF S 231 19 0) 0 _ _ _ (Nat.lt_succ_self _) i_3 F_1 Fr.rf g_2 FF.rf (by omega) (by omega) (fun t a b => absurd b (by have : (uF S 231 19 0).1 231 19 = 0 := uF_on; omega)) (fun t a b => absurd b (by have : (uF S 231 19 0).1 231 19 = 0 := uF_on; omega)) hW hL (lv_sub hl [0, 1] rfl)

set_option maxRecDepth 100000 in
set_option maxHeartbeats 4000000 in
theorem s_X12_wantAbove (l : Launch) (G : sG) (S : sS) {K V : Int → Int} {T pz : Int}  (hI : dX G S) (hK : S.2.1 244 = K) (hV : S.2.1 247 = V) (hE : gE K T) (hc : S.1 231 24 = pz) (hcu : Hd (S.1 231 20 = 0 → 0 ≤ pz ∧ pz ≤ T - 1)) : Met l yX12_wantAbove (.code yX12_wantAbove cX12_wantAbove 1 none :: tb) (rmk 2 0 0) (sPc G 294 S [.ref (G.2.2.1 + 231)]) (sQv G 294 (fun u => dX G u ∧ Fr S u (pl [231]) ∧ FF S u (fl [20, 21, 24]) ∧ (Hd (u.1 231 20 = 0 → S.1 231 20 = 0 ∧ gA K V pz (u.1 231 24) ∧ pz < u.1 231 24 ∧ 0 ≤ u.1 231 24 ∧ u.1 231 24 ≤ T - 1)))) 0 0 (sF G) := by
  refine sEnter (by decide) (Nat.le_of_ble_eq_true rfl) ?_
  intro p e s m args below meth c Cx hr hlk hnm hW ls hl
  have Cx : sC G p m c cX12_wantAbove 1 s args RX12 := Cx
  obtain ⟨hx, hb, hml, hown, hts⟩ := id Cx.1
  have hL : sL G [] := sL_nil
  have hl : lv_has ls 1 [(0, .ref (G.2.2.1 + 231))] := hl
  have hW0 := hW
  have hE1 := hE.1
  refine lv_aload_n hx hb dX12_wantAbove_0 rfl (lv_at hl 0 rfl) ?_
  have q_1 : (-2147483648) ≤ S.1 231 20 ∧ S.1 231 20 ≤ 2147483647 := hI.fi 20
  refine g_X12_270 Cx hW (k := 231) (by decide) rfl (v := S.1 231 20) rfl dX12_wantAbove_1 ?_
  refine r_if_ne (tgt := 41) hx hb ⟨(by omega), (by omega)⟩ dX12_wantAbove_4 (by decide) (fun c_2 => ?_) (fun c_2 => ?_)
  · refine lv_aload_n hx hb dX12_wantAbove_41 rfl (lv_at hl 0 rfl) ?_
    refine lv_dup hx hb dX12_wantAbove_42 rfl ?_
    have q_3 : (-2147483648) ≤ S.1 231 24 ∧ S.1 231 24 ≤ 2147483647 := hI.fi 24
    refine g_X12_315 Cx hW (k := 231) (by decide) rfl (v := S.1 231 24) rfl dX12_wantAbove_43 ?_
    refine lv_iconst (v := iv 1) hx hb dX12_wantAbove_46 (by decide) ?_
    refine r_iadd hx hb dX12_wantAbove_47 ?_
    obtain ⟨z_4, ez_4, hz_4, kz_4⟩ := iv_of (iv ((S.1 231 24) + 1))
    rw [ez_4]
    refine p_X12_315 Cx hW hL (k := 231) (by decide) rfl dX12_wantAbove_48 (fun H locs hW hL => ?_)
    have F_5 : Fr S (uF S 231 24 z_4) (pl [231]) := (Fr.rf : Fr S S (pl [231])).F rfl
    have g_6 : FF S (uF S 231 24 z_4) (fl [20, 21, 24]) := FF.F FF.rf rfl
    have i_7 : dX G (uF S 231 24 z_4) := hI.F (i := 24) (show (-2147483648) ≤ z_4 ∧ z_4 ≤ 2147483647 from ⟨by omega, by omega⟩)
    have lk_8 : (uF S 231 24 z_4).1 231 20 = S.1 231 20 := uF_ne (fun h => absurd h.2 (by decide))
    have lk_9 : (uF S 231 24 z_4).1 231 24 = z_4 := uF_on
    exact sVret Cx hr hlk hW hL ⟨i_7, F_5, g_6, (fun h => by have e8 := (show (uF S 231 24 z_4).1 231 20 = S.1 231 20 from uF_ne (fun h => absurd h.2 (by decide))); exfalso; omega)⟩ dX12_wantAbove_51
  · have b_10 := hcu (by have e9 := (show S.1 231 20 = S.1 231 20 from rfl); omega)
    refine lv_aload_n hx hb dX12_wantAbove_7 rfl (lv_at hl 0 rfl) ?_
    refine g_X12_47 Cx hW (k := 231) (by decide) rfl (v := .ref (G.2.2.1 + 244)) (rd_15 hI) dX12_wantAbove_8 ?_
    refine lv_aload_n hx hb dX12_wantAbove_11 rfl (lv_at hl 0 rfl) ?_
    have q_11 : (-2147483648) ≤ S.1 231 24 ∧ S.1 231 24 ≤ 2147483647 := hI.fi 24
    refine g_X12_315 Cx hW (k := 231) (by decide) rfl (v := S.1 231 24) rfl dX12_wantAbove_12 ?_
    refine rIald Cx hW (k := 244) (by decide) rfl (by decide) (by omega) (by omega) dX12_wantAbove_15 ?_
    have q_12 : (-2147483648) ≤ S.2.1 244 (S.1 231 24) ∧ S.2.1 244 (S.1 231 24) ≤ 2147483647 := hI.ai 244 (S.1 231 24)
    refine r_i (b := S.2.1 244 (S.1 231 24)) rfl ?_
    have hr1 : K pz = S.2.1 244 (S.1 231 24) := by rw [← hK, ← hc]
    refine lv_iconst (v := iv 2) hx hb dX12_wantAbove_16 (by decide) ?_
    refine r_icmp_ne (tgt := 32) hx hb ⟨(by omega), (by omega)⟩ ⟨(by omega), (by omega)⟩ dX12_wantAbove_17 (by decide) (fun c_13 => ?_) (fun c_13 => ?_)
    · refine lv_aload_n hx hb dX12_wantAbove_32 rfl (lv_at hl 0 rfl) ?_
      refine lv_iconst (v := iv 1) hx hb dX12_wantAbove_33 (by decide) ?_
      refine lv_aload_n hx hb dX12_wantAbove_34 rfl (lv_at hl 0 rfl) ?_
      refine g_X12_315 Cx hW (k := 231) (by decide) rfl (v := S.1 231 24) rfl dX12_wantAbove_35 ?_
      refine sBv (sV (As := [.int (iv 1), .int (iv (S.1 231 24))]) (rest := []) (k := 231) Cx (s_X12_wrong l G S (cd := 1) (tk := S.1 231 24) hI (by omega) (by omega)) (c_X12_321 Cx rfl rfl (rmk_ok (by omega) (by decide))) hW (by decide) rfl rfl rfl hl.1 rfl (Nat.le_of_ble_eq_true rfl) dX12_wantAbove_38 ⟨Nat.le_of_ble_eq_true rfl, Nat.le_of_ble_eq_true rfl⟩) hL (fun u_14 H locs k_15 hW hL => ?_)
      obtain ⟨iu_14, fu_14, gu_14, xu_14⟩ := k_15
      have F_16 := (Fr.rf : Fr S S (pl [231])).trans fu_14
      have g_17 : FF S u_14 (fl [20, 21, 24]) := FF.trans FF.rf (FF.to gu_14 (fl_sub (by decide)))
      refine lv_aload_n hx hb dX12_wantAbove_41 rfl (lv_at hl 0 rfl) ?_
      refine lv_dup hx hb dX12_wantAbove_42 rfl ?_
      refine g_X12_315 Cx hW (k := 231) (by decide) rfl (v := S.1 231 24) (gu_14 24 rfl) dX12_wantAbove_43 ?_
      refine lv_iconst (v := iv 1) hx hb dX12_wantAbove_46 (by decide) ?_
      refine r_iadd hx hb dX12_wantAbove_47 ?_
      refine p_X12_315 Cx hW hL (k := 231) (by decide) rfl dX12_wantAbove_48 (fun H locs hW hL => ?_)
      have F_18 : Fr S (uF u_14 231 24 ((S.1 231 24) + 1)) (pl [231]) := F_16.F rfl
      have g_19 : FF S (uF u_14 231 24 ((S.1 231 24) + 1)) (fl [20, 21, 24]) := FF.F g_17 rfl
      have i_20 : dX G (uF u_14 231 24 ((S.1 231 24) + 1)) := iu_14.F (i := 24) (show (-2147483648) ≤ (S.1 231 24) + 1 ∧ (S.1 231 24) + 1 ≤ 2147483647 from ⟨by omega, by omega⟩)
      have q_21 : (-2147483648) ≤ u_14.1 231 20 ∧ u_14.1 231 20 ≤ 2147483647 := iu_14.fi 20
      have lk_22 : (uF u_14 231 24 ((S.1 231 24) + 1)).1 231 20 = u_14.1 231 20 := uF_ne (fun h => absurd h.2 (by decide))
      have lk_23 : (uF u_14 231 24 ((S.1 231 24) + 1)).1 231 24 = (S.1 231 24) + 1 := uF_on
      exact sVret Cx hr hlk hW hL ⟨i_20, F_18, g_19, (fun h => absurd h (by have e9 := (show (uF u_14 231 24 ((S.1 231 24) + 1)).1 231 20 = u_14.1 231 20 from uF_ne (fun h => absurd h.2 (by decide))); have a9 := xu_14; omega))⟩ dX12_wantAbove_51
    · refine lv_aload_n hx hb dX12_wantAbove_20 rfl (lv_at hl 0 rfl) ?_
      refine g_X12_56 Cx hW (k := 231) (by decide) rfl (v := .ref (G.2.2.1 + 247)) (rd_18 hI) dX12_wantAbove_21 ?_
      refine lv_aload_n hx hb dX12_wantAbove_24 rfl (lv_at hl 0 rfl) ?_
      refine g_X12_315 Cx hW (k := 231) (by decide) rfl (v := S.1 231 24) rfl dX12_wantAbove_25 ?_
      refine rIald Cx hW (k := 247) (by decide) rfl (by decide) (by omega) (by omega) dX12_wantAbove_28 ?_
      have q_24 : (-2147483648) ≤ S.2.1 247 (S.1 231 24) ∧ S.2.1 247 (S.1 231 24) ≤ 2147483647 := hI.ai 247 (S.1 231 24)
      refine r_i (b := S.2.1 247 (S.1 231 24)) rfl ?_
      have hr2 : V pz = S.2.1 247 (S.1 231 24) := by rw [← hV, ← hc]
      refine r_if_gt (tgt := 41) hx hb ⟨(by omega), (by omega)⟩ dX12_wantAbove_29 (by decide) (fun c_25 => ?_) (fun c_25 => ?_)
      · refine lv_aload_n hx hb dX12_wantAbove_41 rfl (lv_at hl 0 rfl) ?_
        refine lv_dup hx hb dX12_wantAbove_42 rfl ?_
        refine g_X12_315 Cx hW (k := 231) (by decide) rfl (v := S.1 231 24) rfl dX12_wantAbove_43 ?_
        refine lv_iconst (v := iv 1) hx hb dX12_wantAbove_46 (by decide) ?_
        refine r_iadd hx hb dX12_wantAbove_47 ?_
        refine p_X12_315 Cx hW hL (k := 231) (by decide) rfl dX12_wantAbove_48 (fun H locs hW hL => ?_)
        have F_26 : Fr S (uF S 231 24 ((S.1 231 24) + 1)) (pl [231]) := (Fr.rf : Fr S S (pl [231])).F rfl
        have g_27 : FF S (uF S 231 24 ((S.1 231 24) + 1)) (fl [20, 21, 24]) := FF.F FF.rf rfl
        have i_28 : dX G (uF S 231 24 ((S.1 231 24) + 1)) := hI.F (i := 24) (show (-2147483648) ≤ (S.1 231 24) + 1 ∧ (S.1 231 24) + 1 ≤ 2147483647 from ⟨by omega, by omega⟩)
        have lk_29 : (uF S 231 24 ((S.1 231 24) + 1)).1 231 20 = S.1 231 20 := uF_ne (fun h => absurd h.2 (by decide))
        have lk_30 : (uF S 231 24 ((S.1 231 24) + 1)).1 231 24 = (S.1 231 24) + 1 := uF_on
        exact sVret Cx hr hlk hW hL ⟨i_28, F_26, g_27, (fun h => by have e8 := (show (uF S 231 24 ((S.1 231 24) + 1)).1 231 20 = S.1 231 20 from uF_ne (fun h => absurd h.2 (by decide))); have e7 := (show (uF S 231 24 ((S.1 231 24) + 1)).1 231 24 = (S.1 231 24) + 1 from uF_on); have n8 := hcu (by omega); have n9 := hE.nx (pz := pz) (hcu (by omega)) (by omega); exact ⟨(show S.1 231 20 = 0 by have e9 := (show (uF S 231 24 ((S.1 231 24) + 1)).1 231 20 = S.1 231 20 from uF_ne (fun h => absurd h.2 (by decide))); omega), ⟨⟨by omega, by omega⟩, by omega⟩, by omega, by omega, by omega⟩)⟩ dX12_wantAbove_51
      · refine lv_aload_n hx hb dX12_wantAbove_32 rfl (lv_at hl 0 rfl) ?_
        refine lv_iconst (v := iv 1) hx hb dX12_wantAbove_33 (by decide) ?_
        refine lv_aload_n hx hb dX12_wantAbove_34 rfl (lv_at hl 0 rfl) ?_
        refine g_X12_315 Cx hW (k := 231) (by decide) rfl (v := S.1 231 24) rfl dX12_wantAbove_35 ?_
        refine sBv (sV (As := [.int (iv 1), .int (iv (S.1 231 24))]) (rest := []) (k := 231) Cx (s_X12_wrong l G S (cd := 1) (tk := S.1 231 24) hI (by omega) (by omega)) (c_X12_321 Cx rfl rfl (rmk_ok (by omega) (by decide))) hW (by decide) rfl rfl rfl hl.1 rfl (Nat.le_of_ble_eq_true rfl) dX12_wantAbove_38 ⟨Nat.le_of_ble_eq_true rfl, Nat.le_of_ble_eq_true rfl⟩) hL (fun u_31 H locs k_32 hW hL => ?_)
        obtain ⟨iu_31, fu_31, gu_31, xu_31⟩ := k_32
        have F_33 := (Fr.rf : Fr S S (pl [231])).trans fu_31
        have g_34 : FF S u_31 (fl [20, 21, 24]) := FF.trans FF.rf (FF.to gu_31 (fl_sub (by decide)))
        refine lv_aload_n hx hb dX12_wantAbove_41 rfl (lv_at hl 0 rfl) ?_
        refine lv_dup hx hb dX12_wantAbove_42 rfl ?_
        refine g_X12_315 Cx hW (k := 231) (by decide) rfl (v := S.1 231 24) (gu_31 24 rfl) dX12_wantAbove_43 ?_
        refine lv_iconst (v := iv 1) hx hb dX12_wantAbove_46 (by decide) ?_
        refine r_iadd hx hb dX12_wantAbove_47 ?_
        refine p_X12_315 Cx hW hL (k := 231) (by decide) rfl dX12_wantAbove_48 (fun H locs hW hL => ?_)
        have F_35 : Fr S (uF u_31 231 24 ((S.1 231 24) + 1)) (pl [231]) := F_33.F rfl
        have g_36 : FF S (uF u_31 231 24 ((S.1 231 24) + 1)) (fl [20, 21, 24]) := FF.F g_34 rfl
        have i_37 : dX G (uF u_31 231 24 ((S.1 231 24) + 1)) := iu_31.F (i := 24) (show (-2147483648) ≤ (S.1 231 24) + 1 ∧ (S.1 231 24) + 1 ≤ 2147483647 from ⟨by omega, by omega⟩)
        have q_38 : (-2147483648) ≤ u_31.1 231 20 ∧ u_31.1 231 20 ≤ 2147483647 := iu_31.fi 20
        have lk_39 : (uF u_31 231 24 ((S.1 231 24) + 1)).1 231 20 = u_31.1 231 20 := uF_ne (fun h => absurd h.2 (by decide))
        have lk_40 : (uF u_31 231 24 ((S.1 231 24) + 1)).1 231 24 = (S.1 231 24) + 1 := uF_on
        exact sVret Cx hr hlk hW hL ⟨i_37, F_35, g_36, (fun h => absurd h (by have e9 := (show (uF u_31 231 24 ((S.1 231 24) + 1)).1 231 20 = u_31.1 231 20 from uF_ne (fun h => absurd h.2 (by decide))); have a9 := xu_31; omega))⟩ dX12_wantAbove_51

set_option maxRecDepth 100000 in
set_option maxHeartbeats 4000000 in
theorem s_X12_pointRead (l : Launch) (G : sG) (S : sS) {K V : Int → Int} {T pz : Int}  (hI : dX G S) (hm : 0 ≤ S.1 231 46 ∧ S.1 231 46 ≤ 12) (hK : S.2.1 244 = K) (hV : S.2.1 247 = V) (hE : gE K T) (hc : S.1 231 24 = pz) (hcu : Hd (S.1 231 20 = 0 → 0 ≤ pz ∧ pz ≤ T - 1)) : Met l yX12_pointRead (.code yX12_pointRead cX12_pointRead 2 none :: tb) (rmk 3 0 0) (sPc G 294 S [.ref (G.2.2.1 + 231)]) (sQv G 294 (fun u => dX G u ∧ Fr S u (pl [231]) ∧ FF S u (fl [20, 21, 24]) ∧ (Hd (u.1 231 20 = 0 → S.1 231 20 = 0 ∧ gPo K V (S.1 231 46) pz (u.1 231 24) ∧ pz < u.1 231 24 ∧ 0 ≤ u.1 231 24 ∧ u.1 231 24 ≤ T - 1)))) 0 0 (sF G) := by
  refine sEnter (by decide) (Nat.le_of_ble_eq_true rfl) ?_
  intro p e s m args below meth c Cx hr hlk hnm hW ls hl
  have Cx : sC G p m c cX12_pointRead 2 s args RX12 := Cx
  obtain ⟨hx, hb, hml, hown, hts⟩ := id Cx.1
  have hL : sL G [] := sL_nil
  have hl : lv_has ls 2 [(0, .ref (G.2.2.1 + 231))] := hl
  have hW0 := hW
  have hE1 := hE.1
  refine lv_iconst (v := iv 0) hx hb dX12_pointRead_0 (by decide) ?_
  refine lv_istore_n (lv' := [(1, .int (iv 0)), (0, .ref (G.2.2.1 + 231))]) hx hb dX12_pointRead_1 rfl hl (by decide) rfl (fun ls hl => ?_)
  have loop_2 : ∀ (fuel : Nat) (S2 : sS) (i : Int) (H : Heap) (locs : List Loc) (ls : Array Slot), (S.1 231 46 - i).toNat < fuel → (dX G S2) → (Fr S S2 (pl [231])) → (Fr S S2 (pl [231])) → (FF S S2 (fl [20, 21, 24])) → (FF S S2 (fl [20, 21, 24])) → (0 ≤ i ∧ i ≤ S.1 231 46) → (Hd (S2.1 231 20 = 0 → 0 ≤ S2.1 231 24 ∧ S2.1 231 24 ≤ T - 1)) → (Hd (S2.1 231 20 = 0 → S.1 231 20 = 0 ∧ S2.1 231 24 = pz + i ∧ ∀ j, 0 ≤ j → j < i → K (pz + j) = 2)) → sW G 294 S2 H → sL G locs → lv_has ls 2 [(1, .int (iv i)), (0, .ref (G.2.2.1 + 231))] → W p l e (rmk 3 0 0) s m args below meth c H locs 0 0 (MQ below (sQv G 294 (fun u => dX G u ∧ Fr S u (pl [231]) ∧ FF S u (fl [20, 21, 24]) ∧ (Hd (u.1 231 20 = 0 → S.1 231 20 = 0 ∧ gPo K V (S.1 231 46) pz (u.1 231 24) ∧ pz < u.1 231 24 ∧ 0 ≤ u.1 231 24 ∧ u.1 231 24 ≤ T - 1)))) args s 0 0 (sF G)) (F0 m 2 ls []) := by
    intro fuel
    induction fuel with
    | zero => intro S2 i H locs ls hmeas hI2 hFm2 hL2_ hGm2 gL2_ hi hcu2 hH2 hW hL hl; exact absurd hmeas (Nat.not_lt_zero _)
    | succ fuel ih_2 =>
      intro S2 i H locs ls hmeas hI2 hFm2 hL2_ hGm2 gL2_ hi hcu2 hH2 hW hL hl
      refine lv_iload_n hx hb dX12_pointRead_2 rfl (lv_at hl 0 rfl) ?_
      refine lv_aload_n hx hb dX12_pointRead_3 rfl (lv_at hl 1 rfl) ?_
      have q_1 : (-2147483648) ≤ S.1 231 46 ∧ S.1 231 46 ≤ 2147483647 := hI.fi 46
      refine g_X12_465 Cx hW (k := 231) (by decide) rfl (v := S.1 231 46) (gL2_ 46 rfl) dX12_pointRead_4 ?_
      refine r_icmp_ge (tgt := 28) hx hb ⟨(by omega), (by omega)⟩ ⟨(by omega), (by omega)⟩ dX12_pointRead_7 (by decide) (fun c_2 => ?_) (fun c_2 => ?_)
      · refine lv_aload_n hx hb dX12_pointRead_28 rfl (lv_at hl 1 rfl) ?_
        refine lv_bipush (v := iv 47) hx hb dX12_pointRead_29 (by decide) ?_
        have q_3 : (-2147483648) ≤ S2.1 231 24 ∧ S2.1 231 24 ≤ 2147483647 := hI2.fi 24
        have q_4 : (-2147483648) ≤ S2.1 231 20 ∧ S2.1 231 20 ≤ 2147483647 := hI2.fi 20
        refine sBv (sV (As := [.int (iv 47)]) (rest := []) (k := 231) Cx (s_X12_want l G S2 (sv := 47) (K := K) (V := V) (T := T) (pz := S2.1 231 24) hI2 (by omega) ((funext fun j => (hL2_ 244 rfl).2.1 j : S2.2.1 244 = S.2.1 244).trans hK) ((funext fun j => (hL2_ 247 rfl).2.1 j : S2.2.1 247 = S.2.1 247).trans hV) hE (by omega) (fun h => by have e8 := (show S2.1 231 20 = S2.1 231 20 from rfl); have a9 := hcu2 (by have e9 := (show S2.1 231 20 = S2.1 231 20 from rfl); omega); omega)) (c_X12_331 Cx rfl rfl (rmk_ok (by omega) (by decide))) hW (by decide) rfl rfl rfl hl.1 rfl (Nat.le_of_ble_eq_true rfl) dX12_pointRead_31 ⟨Nat.le_of_ble_eq_true rfl, Nat.le_of_ble_eq_true rfl⟩) hL (fun u_5 H locs k_6 hW hL => ?_)
        obtain ⟨iu_5, fu_5, gu_5, xu_5⟩ := k_6
        have F_7 := hFm2.trans fu_5
        have F_8 := hL2_.trans fu_5
        have g_9 : FF S u_5 (fl [20, 21, 24]) := FF.trans hGm2 (FF.to gu_5 (fl_sub (by decide)))
        have g_10 : FF S u_5 (fl [20, 21, 24]) := FF.trans gL2_ (FF.to gu_5 (fl_sub (by decide)))
        refine lv_aload_n hx hb dX12_pointRead_34 rfl (lv_at hl 1 rfl) ?_
        have q_11 : (-2147483648) ≤ u_5.1 231 24 ∧ u_5.1 231 24 ≤ 2147483647 := iu_5.fi 24
        have q_12 : (-2147483648) ≤ u_5.1 231 20 ∧ u_5.1 231 20 ≤ 2147483647 := iu_5.fi 20
        refine sBv (sV (As := []) (rest := []) (k := 231) Cx (s_X12_wantAbove l G u_5 (K := K) (V := V) (T := T) (pz := u_5.1 231 24) iu_5 ((funext fun j => ((fu_5 244 rfl).2.1 j).trans ((hL2_ 244 rfl).2.1 j) : u_5.2.1 244 = S.2.1 244).trans hK) ((funext fun j => ((fu_5 247 rfl).2.1 j).trans ((hL2_ 247 rfl).2.1 j) : u_5.2.1 247 = S.2.1 247).trans hV) hE (by omega) (fun h => by have e8 := (show u_5.1 231 20 = u_5.1 231 20 from rfl); have a9 := xu_5 (by have e9 := (show u_5.1 231 20 = u_5.1 231 20 from rfl); omega); omega)) (c_X12_691 Cx rfl rfl (rmk_ok (by omega) (by decide))) hW (by decide) rfl rfl rfl hl.1 rfl (Nat.le_of_ble_eq_true rfl) dX12_pointRead_35 ⟨Nat.le_of_ble_eq_true rfl, Nat.le_of_ble_eq_true rfl⟩) hL (fun u_13 H locs k_14 hW hL => ?_)
        obtain ⟨iu_13, fu_13, gu_13, xu_13⟩ := k_14
        have F_15 := F_7.trans fu_13
        have F_16 := F_8.trans fu_13
        have g_17 : FF S u_13 (fl [20, 21, 24]) := FF.trans g_9 (FF.to gu_13 (fl_sub (by decide)))
        have g_18 : FF S u_13 (fl [20, 21, 24]) := FF.trans g_10 (FF.to gu_13 (fl_sub (by decide)))
        have q_19 : (-2147483648) ≤ u_13.1 231 20 ∧ u_13.1 231 20 ≤ 2147483647 := iu_13.fi 20
        have q_20 : (-2147483648) ≤ u_13.1 231 24 ∧ u_13.1 231 24 ≤ 2147483647 := iu_13.fi 24
        exact sVret Cx hr hlk hW hL ⟨iu_13, F_15, g_17, (fun h => by have e8 := (show u_13.1 231 20 = u_13.1 231 20 from rfl); have e7 := (show u_13.1 231 24 = u_13.1 231 24 from rfl); have au_13 := xu_13 (by have e9 := (show u_13.1 231 20 = u_13.1 231 20 from rfl); omega); have au_5 := xu_5 au_13.1; have aS2 := hH2 au_5.1; have e1 : S2.1 231 24 = pz + S.1 231 46 := (by omega); have b1 := au_5.2.1; have b2 := au_13.2.1; rw [b1.2, e1] at b2; rw [e1] at b1; exact ⟨aS2.1, ⟨(fun j j0 j1 => aS2.2.2 j j0 (by omega)), b1.1, b2⟩, by omega, by omega, by omega⟩)⟩ dX12_pointRead_38
      · refine lv_aload_n hx hb dX12_pointRead_10 rfl (lv_at hl 1 rfl) ?_
        have q_21 : (-2147483648) ≤ S2.1 231 20 ∧ S2.1 231 20 ≤ 2147483647 := hI2.fi 20
        refine g_X12_270 Cx hW (k := 231) (by decide) rfl (v := S2.1 231 20) rfl dX12_pointRead_11 ?_
        refine r_if_ne (tgt := 28) hx hb ⟨(by omega), (by omega)⟩ dX12_pointRead_14 (by decide) (fun c_22 => ?_) (fun c_22 => ?_)
        · refine lv_aload_n hx hb dX12_pointRead_28 rfl (lv_at hl 1 rfl) ?_
          refine lv_bipush (v := iv 47) hx hb dX12_pointRead_29 (by decide) ?_
          have q_23 : (-2147483648) ≤ S2.1 231 24 ∧ S2.1 231 24 ≤ 2147483647 := hI2.fi 24
          refine sBv (sV (As := [.int (iv 47)]) (rest := []) (k := 231) Cx (s_X12_want l G S2 (sv := 47) (K := K) (V := V) (T := T) (pz := S2.1 231 24) hI2 (by omega) ((funext fun j => (hL2_ 244 rfl).2.1 j : S2.2.1 244 = S.2.1 244).trans hK) ((funext fun j => (hL2_ 247 rfl).2.1 j : S2.2.1 247 = S.2.1 247).trans hV) hE (by omega) (fun h => by have e8 := (show S2.1 231 20 = S2.1 231 20 from rfl); have a9 := hcu2 (by have e9 := (show S2.1 231 20 = S2.1 231 20 from rfl); omega); omega)) (c_X12_331 Cx rfl rfl (rmk_ok (by omega) (by decide))) hW (by decide) rfl rfl rfl hl.1 rfl (Nat.le_of_ble_eq_true rfl) dX12_pointRead_31 ⟨Nat.le_of_ble_eq_true rfl, Nat.le_of_ble_eq_true rfl⟩) hL (fun u_24 H locs k_25 hW hL => ?_)
          obtain ⟨iu_24, fu_24, gu_24, xu_24⟩ := k_25
          have F_26 := hFm2.trans fu_24
          have F_27 := hL2_.trans fu_24
          have g_28 : FF S u_24 (fl [20, 21, 24]) := FF.trans hGm2 (FF.to gu_24 (fl_sub (by decide)))
          have g_29 : FF S u_24 (fl [20, 21, 24]) := FF.trans gL2_ (FF.to gu_24 (fl_sub (by decide)))
          refine lv_aload_n hx hb dX12_pointRead_34 rfl (lv_at hl 1 rfl) ?_
          have q_30 : (-2147483648) ≤ u_24.1 231 24 ∧ u_24.1 231 24 ≤ 2147483647 := iu_24.fi 24
          have q_31 : (-2147483648) ≤ u_24.1 231 20 ∧ u_24.1 231 20 ≤ 2147483647 := iu_24.fi 20
          refine sBv (sV (As := []) (rest := []) (k := 231) Cx (s_X12_wantAbove l G u_24 (K := K) (V := V) (T := T) (pz := u_24.1 231 24) iu_24 ((funext fun j => ((fu_24 244 rfl).2.1 j).trans ((hL2_ 244 rfl).2.1 j) : u_24.2.1 244 = S.2.1 244).trans hK) ((funext fun j => ((fu_24 247 rfl).2.1 j).trans ((hL2_ 247 rfl).2.1 j) : u_24.2.1 247 = S.2.1 247).trans hV) hE (by omega) (fun h => by have e8 := (show u_24.1 231 20 = u_24.1 231 20 from rfl); have a9 := xu_24 (by have e9 := (show u_24.1 231 20 = u_24.1 231 20 from rfl); omega); omega)) (c_X12_691 Cx rfl rfl (rmk_ok (by omega) (by decide))) hW (by decide) rfl rfl rfl hl.1 rfl (Nat.le_of_ble_eq_true rfl) dX12_pointRead_35 ⟨Nat.le_of_ble_eq_true rfl, Nat.le_of_ble_eq_true rfl⟩) hL (fun u_32 H locs k_33 hW hL => ?_)
          obtain ⟨iu_32, fu_32, gu_32, xu_32⟩ := k_33
          have F_34 := F_26.trans fu_32
          have F_35 := F_27.trans fu_32
          have g_36 : FF S u_32 (fl [20, 21, 24]) := FF.trans g_28 (FF.to gu_32 (fl_sub (by decide)))
          have g_37 : FF S u_32 (fl [20, 21, 24]) := FF.trans g_29 (FF.to gu_32 (fl_sub (by decide)))
          have q_38 : (-2147483648) ≤ u_32.1 231 20 ∧ u_32.1 231 20 ≤ 2147483647 := iu_32.fi 20
          have q_39 : (-2147483648) ≤ u_32.1 231 24 ∧ u_32.1 231 24 ≤ 2147483647 := iu_32.fi 24
          exact sVret Cx hr hlk hW hL ⟨iu_32, F_34, g_36, (fun h => by have e8 := (show u_32.1 231 20 = u_32.1 231 20 from rfl); have au_32 := xu_32 (by have e9 := (show u_32.1 231 20 = u_32.1 231 20 from rfl); omega); have au_24 := xu_24 au_32.1; have aS2 := hH2 au_24.1; exfalso; omega)⟩ dX12_pointRead_38
        · have b_40 := hcu2 (by have e9 := (show S2.1 231 20 = S2.1 231 20 from rfl); omega)
          refine lv_aload_n hx hb dX12_pointRead_17 rfl (lv_at hl 1 rfl) ?_
          refine lv_iconst (v := iv 2) hx hb dX12_pointRead_18 (by decide) ?_
          have q_41 : (-2147483648) ≤ S2.1 231 24 ∧ S2.1 231 24 ≤ 2147483647 := hI2.fi 24
          refine sBv (sV (As := [.int (iv 2)]) (rest := []) (k := 231) Cx (s_X12_wantKind l G S2 (k := 2) (K := K) (V := V) (T := T) (pz := S2.1 231 24) hI2 (by omega) ((funext fun j => (hL2_ 244 rfl).2.1 j : S2.2.1 244 = S.2.1 244).trans hK) ((funext fun j => (hL2_ 247 rfl).2.1 j : S2.2.1 247 = S.2.1 247).trans hV) hE (by omega) (fun h => by have e8 := (show S2.1 231 20 = S2.1 231 20 from rfl); have a9 := hcu2 (by have e9 := (show S2.1 231 20 = S2.1 231 20 from rfl); omega); omega)) (c_X12_328 Cx rfl rfl (rmk_ok (by omega) (by decide))) hW (by decide) rfl rfl rfl hl.1 rfl (Nat.le_of_ble_eq_true rfl) dX12_pointRead_19 ⟨Nat.le_of_ble_eq_true rfl, Nat.le_of_ble_eq_true rfl⟩) hL (fun u_42 H locs k_43 hW hL => ?_)
          obtain ⟨iu_42, fu_42, gu_42, xu_42⟩ := k_43
          have F_44 := hFm2.trans fu_42
          have F_45 := hL2_.trans fu_42
          have g_46 : FF S u_42 (fl [20, 21, 24]) := FF.trans hGm2 (FF.to gu_42 (fl_sub (by decide)))
          have g_47 : FF S u_42 (fl [20, 21, 24]) := FF.trans gL2_ (FF.to gu_42 (fl_sub (by decide)))
          refine lv_iinc (v := iv (i + 1)) (lv' := [(1, .int (iv (i + 1))), (0, .ref (G.2.2.1 + 231))]) hx hb dX12_pointRead_22 hl (k := 0) rfl ((Int32.ofInt_add _ _).symm) (by decide) rfl (fun ls hl => ?_)
          refine lv_goto (tgt := 2) hx hb dX12_pointRead_25 (by decide) ?_
          have q_48 : (-2147483648) ≤ u_42.1 231 20 ∧ u_42.1 231 20 ≤ 2147483647 := iu_42.fi 20
          have q_49 : (-2147483648) ≤ u_42.1 231 24 ∧ u_42.1 231 24 ≤ 2147483647 := iu_42.fi 24
          exact ih_2 u_42 (i + 1) _ _ _ (by omega) iu_42 F_44 F_45 g_46 g_47 (by omega) (fun h => by have a9 := xu_42 h; omega) (fun h => by have a9 := xu_42 h; have b9 := hH2 (by omega); have d9 := a9.2.1; exact ⟨b9.1, (by have := d9.2; omega), fun j a b => if e9 : j = i then (by rw [e9, ← b9.2.1]; exact d9.1) else b9.2.2 j a (by omega)⟩) hW hL (lv_sub hl [0, 1] rfl)
  have q_50 : (-2147483648) ≤ S.1 231 20 ∧ S.1 231 20 ≤ 2147483647 := hI.fi 20
  have q_51 : (-2147483648) ≤ S.1 231 24 ∧ S.1 231 24 ≤ 2147483647 := hI.fi 24
  exact loop_2 (_ + 1) S 0 _ _ _ (Nat.lt_succ_self _) hI (Fr.rf : Fr S S (pl [231])) Fr.rf FF.rf FF.rf (by omega) (fun h => by have a9 := hcu h; omega) (fun h => ⟨h, by omega, fun j a b => absurd b (by omega)⟩) hW hL (lv_sub hl [0, 1] rfl)

set_option maxRecDepth 100000 in
set_option maxHeartbeats 4000000 in
theorem s_X12_treesRead (l : Launch) (G : sG) (S : sS) {K V : Int → Int} {T pz : Int}  (hI : dX G S) (hK : S.2.1 244 = K) (hV : S.2.1 247 = V) (hE : gE K T) (hc : S.1 231 24 = pz) (hcu : Hd (S.1 231 20 = 0 → 0 ≤ pz ∧ pz ≤ T - 1)) : Met l yX12_treesRead (.code yX12_treesRead cX12_treesRead 3 none :: tb) (rmk 3 0 0) (sPc G 294 S [.ref (G.2.2.1 + 231)]) (sQv G 294 (fun u => dX G u ∧ Fr S u (pl [231]) ∧ FF S u (fl [20, 21, 24]) ∧ (Hd (u.1 231 20 = 0 → S.1 231 20 = 0 ∧ gTt K V 1 pz (u.1 231 24) ∧ pz ≤ u.1 231 24 ∧ 0 ≤ u.1 231 24 ∧ u.1 231 24 ≤ T - 1)))) 0 0 (sF G) := by
  refine sEnter (by decide) (Nat.le_of_ble_eq_true rfl) ?_
  intro p e s m args below meth c Cx hr hlk hnm hW ls hl
  have Cx : sC G p m c cX12_treesRead 3 s args RX12 := Cx
  obtain ⟨hx, hb, hml, hown, hts⟩ := id Cx.1
  have hL : sL G [] := sL_nil
  have hl : lv_has ls 3 [(0, .ref (G.2.2.1 + 231))] := hl
  have hW0 := hW
  have hE1 := hE.1
  refine lv_iconst (v := iv 1) hx hb dX12_treesRead_0 (by decide) ?_
  refine lv_istore_n (lv' := [(1, .int (iv 1)), (0, .ref (G.2.2.1 + 231))]) hx hb dX12_treesRead_1 rfl hl (by decide) rfl (fun ls hl => ?_)
  have loop_2 : ∀ (fuel : Nat) (S2 : sS) (ct : Int) (H : Heap) (locs : List Loc) (ls : Array Slot), mf S2 T < fuel → (dX G S2) → (Fr S S2 (pl [231])) → (Fr S S2 (pl [231])) → (FF S S2 (fl [20, 21, 24])) → (FF S S2 (fl [20, 21, 24])) → (0 ≤ ct ∧ ct ≤ 30005) → (Hd (S2.1 231 20 = 0 → 0 ≤ S2.1 231 24 ∧ S2.1 231 24 ≤ T - 1)) → (Hd (S2.1 231 20 = 0 → ct ≤ 1 + S2.1 231 24)) → (Hd (S2.1 231 20 = 0 → S.1 231 20 = 0 ∧ (∀ q, gTt K V ct (S2.1 231 24) q → gTt K V 1 pz q) ∧ pz ≤ S2.1 231 24)) → sW G 294 S2 H → sL G locs → lv_has ls 3 [(1, .int (iv ct)), (0, .ref (G.2.2.1 + 231))] → W p l e (rmk 3 0 0) s m args below meth c H locs 0 0 (MQ below (sQv G 294 (fun u => dX G u ∧ Fr S u (pl [231]) ∧ FF S u (fl [20, 21, 24]) ∧ (Hd (u.1 231 20 = 0 → S.1 231 20 = 0 ∧ gTt K V 1 pz (u.1 231 24) ∧ pz ≤ u.1 231 24 ∧ 0 ≤ u.1 231 24 ∧ u.1 231 24 ≤ T - 1)))) args s 0 0 (sF G)) (F0 m 2 ls []) := by
    intro fuel
    induction fuel with
    | zero => intro S2 ct H locs ls hmeas hI2 hFm2 hL2_ hGm2 gL2_ hct hcu2 hct2 hH2 hW hL hl; exact absurd hmeas (Nat.not_lt_zero _)
    | succ fuel ih_2 =>
      intro S2 ct H locs ls hmeas hI2 hFm2 hL2_ hGm2 gL2_ hct hcu2 hct2 hH2 hW hL hl
      have hm2 := hmeas
      refine lv_iload_n hx hb dX12_treesRead_2 rfl (lv_at hl 0 rfl) ?_
      refine r_if_le (tgt := 152) hx hb ⟨(by omega), (by omega)⟩ dX12_treesRead_3 (by decide) (fun c_1 => ?_) (fun c_1 => ?_)
      · have q_2 : (-2147483648) ≤ S2.1 231 20 ∧ S2.1 231 20 ≤ 2147483647 := hI2.fi 20
        have q_3 : (-2147483648) ≤ S2.1 231 24 ∧ S2.1 231 24 ≤ 2147483647 := hI2.fi 24
        exact sVret Cx hr hlk hW hL ⟨hI2, hFm2, hGm2, (fun h => by have b9 := hH2 h; have b8 := hcu2 h; exact ⟨b9.1, b9.2.1 _ (gTt.nil (by omega)), by omega, by omega, by omega⟩)⟩ dX12_treesRead_152
      · refine lv_aload_n hx hb dX12_treesRead_6 rfl (lv_at hl 1 rfl) ?_
        have q_4 : (-2147483648) ≤ S2.1 231 20 ∧ S2.1 231 20 ≤ 2147483647 := hI2.fi 20
        refine g_X12_270 Cx hW (k := 231) (by decide) rfl (v := S2.1 231 20) rfl dX12_treesRead_7 ?_
        refine r_if_ne (tgt := 152) hx hb ⟨(by omega), (by omega)⟩ dX12_treesRead_10 (by decide) (fun c_5 => ?_) (fun c_5 => ?_)
        · have q_6 : (-2147483648) ≤ S2.1 231 24 ∧ S2.1 231 24 ≤ 2147483647 := hI2.fi 24
          exact sVret Cx hr hlk hW hL ⟨hI2, hFm2, hGm2, (fun h => absurd h (by have e9 := (show S2.1 231 20 = S2.1 231 20 from rfl); omega))⟩ dX12_treesRead_152
        · have b_7 := hcu2 (by have e9 := (show S2.1 231 20 = S2.1 231 20 from rfl); omega)
          have b7 := hct2 (by omega)
          refine lv_aload_n hx hb dX12_treesRead_13 rfl (lv_at hl 1 rfl) ?_
          refine g_X12_47 Cx hW (k := 231) (by decide) rfl (v := .ref (G.2.2.1 + 244)) (rd_15 hI2) dX12_treesRead_14 ?_
          refine lv_aload_n hx hb dX12_treesRead_17 rfl (lv_at hl 1 rfl) ?_
          have q_8 : (-2147483648) ≤ S2.1 231 24 ∧ S2.1 231 24 ≤ 2147483647 := hI2.fi 24
          refine g_X12_315 Cx hW (k := 231) (by decide) rfl (v := S2.1 231 24) rfl dX12_treesRead_18 ?_
          refine rIald Cx hW (k := 244) (by decide) rfl (by decide) (by omega) (by omega) dX12_treesRead_21 ?_
          have q_9 : (-2147483648) ≤ S.2.1 244 (S2.1 231 24) ∧ S.2.1 244 (S2.1 231 24) ≤ 2147483647 := hI.ai 244 (S2.1 231 24)
          refine r_i (b := S.2.1 244 (S2.1 231 24)) ((hL2_ 244 rfl).2.1 (S2.1 231 24)) ?_
          have hr1 : K (S2.1 231 24) = S.2.1 244 (S2.1 231 24) := by rw [← hK]
          refine lv_iconst (v := iv 3) hx hb dX12_treesRead_22 (by decide) ?_
          refine r_icmp_ne (tgt := 38) hx hb ⟨(by omega), (by omega)⟩ ⟨(by omega), (by omega)⟩ dX12_treesRead_23 (by decide) (fun c_10 => ?_) (fun c_10 => ?_)
          · refine lv_iconst (v := iv (-1)) hx hb dX12_treesRead_38 (by decide) ?_
            refine lv_istore_n (lv' := [(2, .int (iv ((-1)))), (1, .int (iv ct)), (0, .ref (G.2.2.1 + 231))]) hx hb dX12_treesRead_39 rfl hl (by decide) rfl (fun ls hl => ?_)
            refine lv_iload_n hx hb dX12_treesRead_40 rfl (lv_at hl 0 rfl) ?_
            refine lv_iconst (v := iv 5) hx hb dX12_treesRead_41 (by decide) ?_
            refine r_icmp_ge (tgt := 55) hx hb ⟨(by omega), (by omega)⟩ ⟨(by omega), (by omega)⟩ dX12_treesRead_42 (by decide) (fun c => absurd c (by omega)) (fun _ => ?_)
            refine lv_aload_n hx hb dX12_treesRead_45 rfl (lv_at hl 2 rfl) ?_
            refine lv_iconst (v := iv 1) hx hb dX12_treesRead_46 (by decide) ?_
            refine lv_aload_n hx hb dX12_treesRead_47 rfl (lv_at hl 2 rfl) ?_
            refine g_X12_315 Cx hW (k := 231) (by decide) rfl (v := S2.1 231 24) rfl dX12_treesRead_48 ?_
            refine sBv (sV (As := [.int (iv 1), .int (iv (S2.1 231 24))]) (rest := []) (k := 231) Cx (s_X12_wrong l G S2 (cd := 1) (tk := S2.1 231 24) hI2 (by omega) (by omega)) (c_X12_321 Cx rfl rfl (rmk_ok (by omega) (by decide))) hW (by decide) rfl rfl rfl hl.1 rfl (Nat.le_of_ble_eq_true rfl) dX12_treesRead_51 ⟨Nat.le_of_ble_eq_true rfl, Nat.le_of_ble_eq_true rfl⟩) hL (fun u_11 H locs k_12 hW hL => ?_)
            obtain ⟨iu_11, fu_11, gu_11, xu_11⟩ := k_12
            have F_13 := hFm2.trans fu_11
            have F_14 := hL2_.trans fu_11
            have g_15 : FF S u_11 (fl [20, 21, 24]) := FF.trans hGm2 (FF.to gu_11 (fl_sub (by decide)))
            have g_16 : FF S u_11 (fl [20, 21, 24]) := FF.trans gL2_ (FF.to gu_11 (fl_sub (by decide)))
            have q_17 : (-2147483648) ≤ u_11.1 231 20 ∧ u_11.1 231 20 ≤ 2147483647 := iu_11.fi 20
            have lk_18 : u_11.1 231 24 = S2.1 231 24 := gu_11 24 rfl
            exact sVret Cx hr hlk hW hL ⟨iu_11, F_13, g_15, (fun h => absurd h (by have e9 := (show u_11.1 231 20 = u_11.1 231 20 from rfl); have a9 := xu_11; omega))⟩ dX12_treesRead_54
          · refine lv_aload_n hx hb dX12_treesRead_26 rfl (lv_at hl 1 rfl) ?_
            refine g_X12_56 Cx hW (k := 231) (by decide) rfl (v := .ref (G.2.2.1 + 247)) (rd_18 hI2) dX12_treesRead_27 ?_
            refine lv_aload_n hx hb dX12_treesRead_30 rfl (lv_at hl 1 rfl) ?_
            refine g_X12_315 Cx hW (k := 231) (by decide) rfl (v := S2.1 231 24) rfl dX12_treesRead_31 ?_
            refine rIald Cx hW (k := 247) (by decide) rfl (by decide) (by omega) (by omega) dX12_treesRead_34 ?_
            have q_19 : (-2147483648) ≤ S.2.1 247 (S2.1 231 24) ∧ S.2.1 247 (S2.1 231 24) ≤ 2147483647 := hI.ai 247 (S2.1 231 24)
            refine r_i (b := S.2.1 247 (S2.1 231 24)) ((hL2_ 247 rfl).2.1 (S2.1 231 24)) ?_
            have hr2 : V (S2.1 231 24) = S.2.1 247 (S2.1 231 24) := by rw [← hV]
            refine lv_goto (tgt := 39) hx hb dX12_treesRead_35 (by decide) ?_
            refine lv_istore_n (lv' := [(2, .int (iv (S.2.1 247 (S2.1 231 24)))), (1, .int (iv ct)), (0, .ref (G.2.2.1 + 231))]) hx hb dX12_treesRead_39 rfl hl (by decide) rfl (fun ls hl => ?_)
            refine lv_iload_n hx hb dX12_treesRead_40 rfl (lv_at hl 0 rfl) ?_
            refine lv_iconst (v := iv 5) hx hb dX12_treesRead_41 (by decide) ?_
            refine r_icmp_ge (tgt := 55) hx hb ⟨(by omega), (by omega)⟩ ⟨(by omega), (by omega)⟩ dX12_treesRead_42 (by decide) (fun c_20 => ?_) (fun c_20 => ?_)
            · refine lv_aload_n hx hb dX12_treesRead_55 rfl (lv_at hl 2 rfl) ?_
              refine lv_dup hx hb dX12_treesRead_56 rfl ?_
              refine g_X12_315 Cx hW (k := 231) (by decide) rfl (v := S2.1 231 24) rfl dX12_treesRead_57 ?_
              have n_21 := hE.nx (pz := S2.1 231 24) (by omega) (by omega)
              refine lv_iconst (v := iv 1) hx hb dX12_treesRead_60 (by decide) ?_
              refine r_iadd hx hb dX12_treesRead_61 ?_
              refine p_X12_315 Cx hW hL (k := 231) (by decide) rfl dX12_treesRead_62 (fun H locs hW hL => ?_)
              have F_22 : Fr S (uF S2 231 24 ((S2.1 231 24) + 1)) (pl [231]) := hFm2.F rfl
              have F_23 : Fr S (uF S2 231 24 ((S2.1 231 24) + 1)) (pl [231]) := hL2_.F rfl
              have g_24 : FF S (uF S2 231 24 ((S2.1 231 24) + 1)) (fl [20, 21, 24]) := FF.F hGm2 rfl
              have g_25 : FF S (uF S2 231 24 ((S2.1 231 24) + 1)) (fl [20, 21, 24]) := FF.F gL2_ rfl
              have i_26 : dX G (uF S2 231 24 ((S2.1 231 24) + 1)) := hI2.F (i := 24) (show (-2147483648) ≤ (S2.1 231 24) + 1 ∧ (S2.1 231 24) + 1 ≤ 2147483647 from ⟨by omega, by omega⟩)
              refine lv_iload_n hx hb dX12_treesRead_65 rfl (lv_at hl 0 rfl) ?_
              refine lv_iconst (v := iv 5) hx hb dX12_treesRead_66 (by decide) ?_
              refine r_icmp_ne (tgt := 86) hx hb ⟨(by omega), (by omega)⟩ ⟨(by omega), (by omega)⟩ dX12_treesRead_67 (by decide) (fun c_27 => ?_) (fun c_27 => ?_)
              · refine lv_aload_n hx hb dX12_treesRead_86 rfl (lv_at hl 2 rfl) ?_
                have lk_28 : (uF S2 231 24 ((S2.1 231 24) + 1)).1 231 24 = (S2.1 231 24) + 1 := uF_on
                have lk_29 : (uF S2 231 24 ((S2.1 231 24) + 1)).1 231 20 = S2.1 231 20 := uF_ne (fun h => absurd h.2 (by decide))
                refine sBv (sV (As := []) (rest := []) (k := 231) Cx (s_X12_wantAbove l G (uF S2 231 24 ((S2.1 231 24) + 1)) (K := K) (V := V) (T := T) (pz := (S2.1 231 24) + 1) i_26 ((funext fun j => (uF_a).trans ((hL2_ 244 rfl).2.1 j) : (uF S2 231 24 ((S2.1 231 24) + 1)).2.1 244 = S.2.1 244).trans hK) ((funext fun j => (uF_a).trans ((hL2_ 247 rfl).2.1 j) : (uF S2 231 24 ((S2.1 231 24) + 1)).2.1 247 = S.2.1 247).trans hV) hE (by omega) (fun h => by have e8 := (show (uF S2 231 24 ((S2.1 231 24) + 1)).1 231 20 = S2.1 231 20 from uF_ne (fun h => absurd h.2 (by decide))); have a9 := hcu2 (by have e9 := (show (uF S2 231 24 ((S2.1 231 24) + 1)).1 231 20 = S2.1 231 20 from uF_ne (fun h => absurd h.2 (by decide))); omega); omega)) (c_X12_691 Cx rfl rfl (rmk_ok (by omega) (by decide))) hW (by decide) rfl rfl rfl hl.1 rfl (Nat.le_of_ble_eq_true rfl) dX12_treesRead_87 ⟨Nat.le_of_ble_eq_true rfl, Nat.le_of_ble_eq_true rfl⟩) hL (fun u_30 H locs k_31 hW hL => ?_)
                obtain ⟨iu_30, fu_30, gu_30, xu_30⟩ := k_31
                have F_32 := F_22.trans fu_30
                have F_33 := F_23.trans fu_30
                have g_34 : FF S u_30 (fl [20, 21, 24]) := FF.trans g_24 (FF.to gu_30 (fl_sub (by decide)))
                have g_35 : FF S u_30 (fl [20, 21, 24]) := FF.trans g_25 (FF.to gu_30 (fl_sub (by decide)))
                have loop_90 : ∀ (fuel : Nat) (S90 : sS)  (H : Heap) (locs : List Loc) (ls : Array Slot), mf S90 T < fuel → (dX G S90) → (Fr S S90 (pl [231])) → (Fr S S90 (pl [231])) → (Fr u_30 S90 (pl [231])) → (FF S S90 (fl [20, 21, 24])) → (FF S S90 (fl [20, 21, 24])) → (FF u_30 S90 (fl [20, 21, 24])) → (Hd (S90.1 231 20 = 0 → 0 ≤ S90.1 231 24 ∧ S90.1 231 24 ≤ T - 1)) → (Hd (S90.1 231 20 = 0 → u_30.1 231 20 = 0 ∧ ∀ q, gTl (fun c => K c = 2) (gPnE K V) (S90.1 231 24) q → gTl (fun c => K c = 2) (gPnE K V) (u_30.1 231 24) q)) → (Hd (S90.1 231 20 = 0 → u_30.1 231 24 ≤ S90.1 231 24)) → sW G 294 S90 H → sL G locs → lv_has ls 3 [(2, .int (iv (S.2.1 247 (S2.1 231 24)))), (1, .int (iv ct)), (0, .ref (G.2.2.1 + 231))] → W p l e (rmk 3 0 0) s m args below meth c H locs 0 0 (MQ below (sQv G 294 (fun u => dX G u ∧ Fr S u (pl [231]) ∧ FF S u (fl [20, 21, 24]) ∧ (Hd (u.1 231 20 = 0 → S.1 231 20 = 0 ∧ gTt K V 1 pz (u.1 231 24) ∧ pz ≤ u.1 231 24 ∧ 0 ≤ u.1 231 24 ∧ u.1 231 24 ≤ T - 1)))) args s 0 0 (sF G)) (F0 m 90 ls []) := by
                  intro fuel
                  induction fuel with
                  | zero => intro S90  H locs ls hmeas hI90 hFm90 hFL290 hL90_ hGm90 hGL290 gL90_ hcu90 hH90 hq90 hW hL hl; exact absurd hmeas (Nat.not_lt_zero _)
                  | succ fuel ih_90 =>
                    intro S90  H locs ls hmeas hI90 hFm90 hFL290 hL90_ hGm90 hGL290 gL90_ hcu90 hH90 hq90 hW hL hl
                    refine lv_aload_n hx hb dX12_treesRead_90 rfl (lv_at hl 2 rfl) ?_
                    have q_36 : (-2147483648) ≤ S90.1 231 20 ∧ S90.1 231 20 ≤ 2147483647 := hI90.fi 20
                    refine g_X12_270 Cx hW (k := 231) (by decide) rfl (v := S90.1 231 20) rfl dX12_treesRead_91 ?_
                    refine r_if_ne (tgt := 134) hx hb ⟨(by omega), (by omega)⟩ dX12_treesRead_94 (by decide) (fun c_37 => ?_) (fun c_37 => ?_)
                    · refine lv_aload_n hx hb dX12_treesRead_134 rfl (lv_at hl 2 rfl) ?_
                      refine lv_bipush (v := iv 59) hx hb dX12_treesRead_135 (by decide) ?_
                      have q_38 : (-2147483648) ≤ S90.1 231 24 ∧ S90.1 231 24 ≤ 2147483647 := hI90.fi 24
                      refine sBv (sV (As := [.int (iv 59)]) (rest := []) (k := 231) Cx (s_X12_want l G S90 (sv := 59) (K := K) (V := V) (T := T) (pz := S90.1 231 24) hI90 (by omega) ((funext fun j => ((hL90_ 244 rfl).2.1 j).trans (((fu_30 244 rfl).2.1 j).trans ((uF_a).trans ((hL2_ 244 rfl).2.1 j))) : S90.2.1 244 = S.2.1 244).trans hK) ((funext fun j => ((hL90_ 247 rfl).2.1 j).trans (((fu_30 247 rfl).2.1 j).trans ((uF_a).trans ((hL2_ 247 rfl).2.1 j))) : S90.2.1 247 = S.2.1 247).trans hV) hE (by omega) (fun h => by have e8 := (show S90.1 231 20 = S90.1 231 20 from rfl); have a9 := hcu90 (by have e9 := (show S90.1 231 20 = S90.1 231 20 from rfl); omega); omega)) (c_X12_331 Cx rfl rfl (rmk_ok (by omega) (by decide))) hW (by decide) rfl rfl rfl hl.1 rfl (Nat.le_of_ble_eq_true rfl) dX12_treesRead_137 ⟨Nat.le_of_ble_eq_true rfl, Nat.le_of_ble_eq_true rfl⟩) hL (fun u_39 H locs k_40 hW hL => ?_)
                      obtain ⟨iu_39, fu_39, gu_39, xu_39⟩ := k_40
                      have F_41 := hFm90.trans fu_39
                      have F_42 := hFL290.trans fu_39
                      have F_43 := hL90_.trans fu_39
                      have g_44 : FF S u_39 (fl [20, 21, 24]) := FF.trans hGm90 (FF.to gu_39 (fl_sub (by decide)))
                      have g_45 : FF S u_39 (fl [20, 21, 24]) := FF.trans hGL290 (FF.to gu_39 (fl_sub (by decide)))
                      have g_46 : FF u_30 u_39 (fl [20, 21, 24]) := FF.trans gL90_ (FF.to gu_39 (fl_sub (by decide)))
                      refine lv_iload_n hx hb dX12_treesRead_140 rfl (lv_at hl 0 rfl) ?_
                      refine lv_bipush (v := iv 6) hx hb dX12_treesRead_141 (by decide) ?_
                      refine r_icmp_eq (tgt := 149) hx hb ⟨(by omega), (by omega)⟩ ⟨(by omega), (by omega)⟩ dX12_treesRead_143 (by decide) (fun c_47 => ?_) (fun c_47 => ?_)
                      · refine lv_goto (tgt := 2) hx hb dX12_treesRead_149 (by decide) ?_
                        have q_48 : (-2147483648) ≤ u_39.1 231 20 ∧ u_39.1 231 20 ≤ 2147483647 := iu_39.fi 20
                        have q_49 : (-2147483648) ≤ u_39.1 231 24 ∧ u_39.1 231 24 ≤ 2147483647 := iu_39.fi 24
                        exact ih_2 u_39 ct _ _ _ (Nat.lt_of_lt_of_le (mf_lt (S := S2) (by omega) (by omega) (fun h => by have a9 := xu_39 h; omega)) (Nat.le_of_lt_succ hm2)) iu_39 F_41 F_42 g_44 g_45 (by omega) (fun h => by have a9 := xu_39 h; omega) (fun h => by have a9 := xu_39 h; have b9 := hct2 (by omega); have aS90 := hH90 a9.1; have a1 := xu_30 aS90.1; have q9 := hq90 (by omega); omega) (fun h => by exfalso; have a9 := xu_39 h; omega) hW hL (lv_sub hl [1, 2] rfl)
                      · refine lv_iinc (v := iv (ct + (-1))) (lv' := [(1, .int (iv (ct + (-1)))), (2, .int (iv (S.2.1 247 (S2.1 231 24)))), (0, .ref (G.2.2.1 + 231))]) hx hb dX12_treesRead_146 hl (k := 1) rfl ((Int32.ofInt_add _ _).symm) (by decide) rfl (fun ls hl => ?_)
                        refine lv_goto (tgt := 2) hx hb dX12_treesRead_149 (by decide) ?_
                        have q_50 : (-2147483648) ≤ u_39.1 231 20 ∧ u_39.1 231 20 ≤ 2147483647 := iu_39.fi 20
                        have q_51 : (-2147483648) ≤ u_39.1 231 24 ∧ u_39.1 231 24 ≤ 2147483647 := iu_39.fi 24
                        exact ih_2 u_39 (ct + (-1)) _ _ _ (Nat.lt_of_lt_of_le (mf_lt (S := S2) (by omega) (by omega) (fun h => by have a9 := xu_39 h; omega)) (Nat.le_of_lt_succ hm2)) iu_39 F_41 F_42 g_44 g_45 (by omega) (fun h => by have a9 := xu_39 h; omega) (fun h => by have a9 := xu_39 h; have b9 := hct2 (by omega); have aS90 := hH90 a9.1; have a1 := xu_30 aS90.1; have q9 := hq90 (by omega); omega) (fun h => by exfalso; have a9 := xu_39 h; omega) hW hL (lv_sub hl [0, 2] rfl)
                    · have b_52 := hcu90 (by have e9 := (show S90.1 231 20 = S90.1 231 20 from rfl); omega)
                      refine lv_aload_n hx hb dX12_treesRead_97 rfl (lv_at hl 2 rfl) ?_
                      refine g_X12_47 Cx hW (k := 231) (by decide) rfl (v := .ref (G.2.2.1 + 244)) (rd_15 hI90) dX12_treesRead_98 ?_
                      refine lv_aload_n hx hb dX12_treesRead_101 rfl (lv_at hl 2 rfl) ?_
                      have q_53 : (-2147483648) ≤ S90.1 231 24 ∧ S90.1 231 24 ≤ 2147483647 := hI90.fi 24
                      refine g_X12_315 Cx hW (k := 231) (by decide) rfl (v := S90.1 231 24) rfl dX12_treesRead_102 ?_
                      refine rIald Cx hW (k := 244) (by decide) rfl (by decide) (by omega) (by omega) dX12_treesRead_105 ?_
                      have q_54 : (-2147483648) ≤ S.2.1 244 (S90.1 231 24) ∧ S.2.1 244 (S90.1 231 24) ≤ 2147483647 := hI.ai 244 (S90.1 231 24)
                      refine r_i (b := S.2.1 244 (S90.1 231 24)) (((hL90_ 244 rfl).2.1 (S90.1 231 24)).trans (((fu_30 244 rfl).2.1 (S90.1 231 24)).trans ((uF_a).trans ((hL2_ 244 rfl).2.1 (S90.1 231 24))))) ?_
                      have hr3 : K (S90.1 231 24) = S.2.1 244 (S90.1 231 24) := by rw [← hK]
                      refine lv_iconst (v := iv 2) hx hb dX12_treesRead_106 (by decide) ?_
                      refine r_icmp_ne (tgt := 134) hx hb ⟨(by omega), (by omega)⟩ ⟨(by omega), (by omega)⟩ dX12_treesRead_107 (by decide) (fun c_55 => ?_) (fun c_55 => ?_)
                      · refine lv_aload_n hx hb dX12_treesRead_134 rfl (lv_at hl 2 rfl) ?_
                        refine lv_bipush (v := iv 59) hx hb dX12_treesRead_135 (by decide) ?_
                        refine sBv (sV (As := [.int (iv 59)]) (rest := []) (k := 231) Cx (s_X12_want l G S90 (sv := 59) (K := K) (V := V) (T := T) (pz := S90.1 231 24) hI90 (by omega) ((funext fun j => ((hL90_ 244 rfl).2.1 j).trans (((fu_30 244 rfl).2.1 j).trans ((uF_a).trans ((hL2_ 244 rfl).2.1 j))) : S90.2.1 244 = S.2.1 244).trans hK) ((funext fun j => ((hL90_ 247 rfl).2.1 j).trans (((fu_30 247 rfl).2.1 j).trans ((uF_a).trans ((hL2_ 247 rfl).2.1 j))) : S90.2.1 247 = S.2.1 247).trans hV) hE (by omega) (fun h => by have e8 := (show S90.1 231 20 = S90.1 231 20 from rfl); have a9 := hcu90 (by have e9 := (show S90.1 231 20 = S90.1 231 20 from rfl); omega); omega)) (c_X12_331 Cx rfl rfl (rmk_ok (by omega) (by decide))) hW (by decide) rfl rfl rfl hl.1 rfl (Nat.le_of_ble_eq_true rfl) dX12_treesRead_137 ⟨Nat.le_of_ble_eq_true rfl, Nat.le_of_ble_eq_true rfl⟩) hL (fun u_56 H locs k_57 hW hL => ?_)
                        obtain ⟨iu_56, fu_56, gu_56, xu_56⟩ := k_57
                        have F_58 := hFm90.trans fu_56
                        have F_59 := hFL290.trans fu_56
                        have F_60 := hL90_.trans fu_56
                        have g_61 : FF S u_56 (fl [20, 21, 24]) := FF.trans hGm90 (FF.to gu_56 (fl_sub (by decide)))
                        have g_62 : FF S u_56 (fl [20, 21, 24]) := FF.trans hGL290 (FF.to gu_56 (fl_sub (by decide)))
                        have g_63 : FF u_30 u_56 (fl [20, 21, 24]) := FF.trans gL90_ (FF.to gu_56 (fl_sub (by decide)))
                        refine lv_iload_n hx hb dX12_treesRead_140 rfl (lv_at hl 0 rfl) ?_
                        refine lv_bipush (v := iv 6) hx hb dX12_treesRead_141 (by decide) ?_
                        refine r_icmp_eq (tgt := 149) hx hb ⟨(by omega), (by omega)⟩ ⟨(by omega), (by omega)⟩ dX12_treesRead_143 (by decide) (fun c_64 => ?_) (fun c_64 => ?_)
                        · refine lv_goto (tgt := 2) hx hb dX12_treesRead_149 (by decide) ?_
                          have q_65 : (-2147483648) ≤ u_56.1 231 20 ∧ u_56.1 231 20 ≤ 2147483647 := iu_56.fi 20
                          have q_66 : (-2147483648) ≤ u_56.1 231 24 ∧ u_56.1 231 24 ≤ 2147483647 := iu_56.fi 24
                          exact ih_2 u_56 ct _ _ _ (Nat.lt_of_lt_of_le (mf_lt (S := S2) (by omega) (by omega) (fun h => by have a9 := xu_56 h; have aS90 := hH90 a9.1; have a1 := xu_30 aS90.1; have q9 := hq90 (by omega); omega)) (Nat.le_of_lt_succ hm2)) iu_56 F_58 F_59 g_61 g_62 (by omega) (fun h => by have a9 := xu_56 h; omega) (fun h => by have a9 := xu_56 h; have b9 := hct2 (by omega); have aS90 := hH90 a9.1; have a1 := xu_30 aS90.1; have q9 := hq90 (by omega); omega) (fun h => by have a3 := xu_56 h; have aS90 := hH90 a3.1; have a1 := xu_30 aS90.1; have b9 := hH2 (by omega); have q9 := hq90 (by omega); exact ⟨b9.1, (fun q t => b9.2.1 q (gTt.lf (by omega) (by omega) (by omega) a1.2.1 (aS90.2 _ (gTl.nil (fun z => absurd z (by omega)))) a3.2.1.1 (by rw [if_pos (by omega), ← a3.2.1.2]; exact t))), (by omega)⟩) hW hL (lv_sub hl [1, 2] rfl)
                        · refine lv_iinc (v := iv (ct + (-1))) (lv' := [(1, .int (iv (ct + (-1)))), (2, .int (iv (S.2.1 247 (S2.1 231 24)))), (0, .ref (G.2.2.1 + 231))]) hx hb dX12_treesRead_146 hl (k := 1) rfl ((Int32.ofInt_add _ _).symm) (by decide) rfl (fun ls hl => ?_)
                          refine lv_goto (tgt := 2) hx hb dX12_treesRead_149 (by decide) ?_
                          have q_67 : (-2147483648) ≤ u_56.1 231 20 ∧ u_56.1 231 20 ≤ 2147483647 := iu_56.fi 20
                          have q_68 : (-2147483648) ≤ u_56.1 231 24 ∧ u_56.1 231 24 ≤ 2147483647 := iu_56.fi 24
                          exact ih_2 u_56 (ct + (-1)) _ _ _ (Nat.lt_of_lt_of_le (mf_lt (S := S2) (by omega) (by omega) (fun h => by have a9 := xu_56 h; have aS90 := hH90 a9.1; have a1 := xu_30 aS90.1; have q9 := hq90 (by omega); omega)) (Nat.le_of_lt_succ hm2)) iu_56 F_58 F_59 g_61 g_62 (by omega) (fun h => by have a9 := xu_56 h; omega) (fun h => by have a9 := xu_56 h; have b9 := hct2 (by omega); have aS90 := hH90 a9.1; have a1 := xu_30 aS90.1; have q9 := hq90 (by omega); omega) (fun h => by have a3 := xu_56 h; have aS90 := hH90 a3.1; have a1 := xu_30 aS90.1; have b9 := hH2 (by omega); have q9 := hq90 (by omega); exact ⟨b9.1, (fun q t => b9.2.1 q (gTt.lf (by omega) (by omega) (by omega) a1.2.1 (aS90.2 _ (gTl.nil (fun z => absurd z (by omega)))) a3.2.1.1 (by rw [if_neg (by omega), show ct - 1 = ct + (-1) by omega, ← a3.2.1.2]; exact t))), (by omega)⟩) hW hL (lv_sub hl [0, 2] rfl)
                      · refine lv_aload_n hx hb dX12_treesRead_110 rfl (lv_at hl 2 rfl) ?_
                        refine lv_dup hx hb dX12_treesRead_111 rfl ?_
                        refine g_X12_315 Cx hW (k := 231) (by decide) rfl (v := S90.1 231 24) rfl dX12_treesRead_112 ?_
                        have n_69 := hE.nx (pz := S90.1 231 24) (by omega) (by omega)
                        refine lv_iconst (v := iv 1) hx hb dX12_treesRead_115 (by decide) ?_
                        refine r_iadd hx hb dX12_treesRead_116 ?_
                        refine p_X12_315 Cx hW hL (k := 231) (by decide) rfl dX12_treesRead_117 (fun H locs hW hL => ?_)
                        have F_70 : Fr S (uF S90 231 24 ((S90.1 231 24) + 1)) (pl [231]) := hFm90.F rfl
                        have F_71 : Fr S (uF S90 231 24 ((S90.1 231 24) + 1)) (pl [231]) := hFL290.F rfl
                        have F_72 : Fr u_30 (uF S90 231 24 ((S90.1 231 24) + 1)) (pl [231]) := hL90_.F rfl
                        have g_73 : FF S (uF S90 231 24 ((S90.1 231 24) + 1)) (fl [20, 21, 24]) := FF.F hGm90 rfl
                        have g_74 : FF S (uF S90 231 24 ((S90.1 231 24) + 1)) (fl [20, 21, 24]) := FF.F hGL290 rfl
                        have g_75 : FF u_30 (uF S90 231 24 ((S90.1 231 24) + 1)) (fl [20, 21, 24]) := FF.F gL90_ rfl
                        have i_76 : dX G (uF S90 231 24 ((S90.1 231 24) + 1)) := hI90.F (i := 24) (show (-2147483648) ≤ (S90.1 231 24) + 1 ∧ (S90.1 231 24) + 1 ≤ 2147483647 from ⟨by omega, by omega⟩)
                        refine lv_aload_n hx hb dX12_treesRead_120 rfl (lv_at hl 2 rfl) ?_
                        refine lv_bipush (v := iv 58) hx hb dX12_treesRead_121 (by decide) ?_
                        have lk_77 : (uF S90 231 24 ((S90.1 231 24) + 1)).1 231 24 = (S90.1 231 24) + 1 := uF_on
                        have lk_78 : (uF S90 231 24 ((S90.1 231 24) + 1)).1 231 20 = S90.1 231 20 := uF_ne (fun h => absurd h.2 (by decide))
                        refine sBv (sV (As := [.int (iv 58)]) (rest := []) (k := 231) Cx (s_X12_want l G (uF S90 231 24 ((S90.1 231 24) + 1)) (sv := 58) (K := K) (V := V) (T := T) (pz := (S90.1 231 24) + 1) i_76 (by omega) ((funext fun j => (uF_a).trans (((hL90_ 244 rfl).2.1 j).trans (((fu_30 244 rfl).2.1 j).trans ((uF_a).trans ((hL2_ 244 rfl).2.1 j)))) : (uF S90 231 24 ((S90.1 231 24) + 1)).2.1 244 = S.2.1 244).trans hK) ((funext fun j => (uF_a).trans (((hL90_ 247 rfl).2.1 j).trans (((fu_30 247 rfl).2.1 j).trans ((uF_a).trans ((hL2_ 247 rfl).2.1 j)))) : (uF S90 231 24 ((S90.1 231 24) + 1)).2.1 247 = S.2.1 247).trans hV) hE (by omega) (fun h => by have e8 := (show (uF S90 231 24 ((S90.1 231 24) + 1)).1 231 20 = S90.1 231 20 from uF_ne (fun h => absurd h.2 (by decide))); have a9 := hcu90 (by have e9 := (show (uF S90 231 24 ((S90.1 231 24) + 1)).1 231 20 = S90.1 231 20 from uF_ne (fun h => absurd h.2 (by decide))); omega); omega)) (c_X12_331 Cx rfl rfl (rmk_ok (by omega) (by decide))) hW (by decide) rfl rfl rfl hl.1 rfl (Nat.le_of_ble_eq_true rfl) dX12_treesRead_123 ⟨Nat.le_of_ble_eq_true rfl, Nat.le_of_ble_eq_true rfl⟩) hL (fun u_79 H locs k_80 hW hL => ?_)
                        obtain ⟨iu_79, fu_79, gu_79, xu_79⟩ := k_80
                        have F_81 := F_70.trans fu_79
                        have F_82 := F_71.trans fu_79
                        have F_83 := F_72.trans fu_79
                        have g_84 : FF S u_79 (fl [20, 21, 24]) := FF.trans g_73 (FF.to gu_79 (fl_sub (by decide)))
                        have g_85 : FF S u_79 (fl [20, 21, 24]) := FF.trans g_74 (FF.to gu_79 (fl_sub (by decide)))
                        have g_86 : FF u_30 u_79 (fl [20, 21, 24]) := FF.trans g_75 (FF.to gu_79 (fl_sub (by decide)))
                        refine lv_aload_n hx hb dX12_treesRead_126 rfl (lv_at hl 2 rfl) ?_
                        refine lv_iconst (v := iv 2) hx hb dX12_treesRead_127 (by decide) ?_
                        have q_87 : (-2147483648) ≤ u_79.1 231 24 ∧ u_79.1 231 24 ≤ 2147483647 := iu_79.fi 24
                        have q_88 : (-2147483648) ≤ u_79.1 231 20 ∧ u_79.1 231 20 ≤ 2147483647 := iu_79.fi 20
                        refine sBv (sV (As := [.int (iv 2)]) (rest := []) (k := 231) Cx (s_X12_wantKind l G u_79 (k := 2) (K := K) (V := V) (T := T) (pz := u_79.1 231 24) iu_79 (by omega) ((funext fun j => ((fu_79 244 rfl).2.1 j).trans ((uF_a).trans (((hL90_ 244 rfl).2.1 j).trans (((fu_30 244 rfl).2.1 j).trans ((uF_a).trans ((hL2_ 244 rfl).2.1 j))))) : u_79.2.1 244 = S.2.1 244).trans hK) ((funext fun j => ((fu_79 247 rfl).2.1 j).trans ((uF_a).trans (((hL90_ 247 rfl).2.1 j).trans (((fu_30 247 rfl).2.1 j).trans ((uF_a).trans ((hL2_ 247 rfl).2.1 j))))) : u_79.2.1 247 = S.2.1 247).trans hV) hE (by omega) (fun h => by have e8 := (show u_79.1 231 20 = u_79.1 231 20 from rfl); have a9 := xu_79 (by have e9 := (show u_79.1 231 20 = u_79.1 231 20 from rfl); omega); omega)) (c_X12_328 Cx rfl rfl (rmk_ok (by omega) (by decide))) hW (by decide) rfl rfl rfl hl.1 rfl (Nat.le_of_ble_eq_true rfl) dX12_treesRead_128 ⟨Nat.le_of_ble_eq_true rfl, Nat.le_of_ble_eq_true rfl⟩) hL (fun u_89 H locs k_90 hW hL => ?_)
                        obtain ⟨iu_89, fu_89, gu_89, xu_89⟩ := k_90
                        have F_91 := F_81.trans fu_89
                        have F_92 := F_82.trans fu_89
                        have F_93 := F_83.trans fu_89
                        have g_94 : FF S u_89 (fl [20, 21, 24]) := FF.trans g_84 (FF.to gu_89 (fl_sub (by decide)))
                        have g_95 : FF S u_89 (fl [20, 21, 24]) := FF.trans g_85 (FF.to gu_89 (fl_sub (by decide)))
                        have g_96 : FF u_30 u_89 (fl [20, 21, 24]) := FF.trans g_86 (FF.to gu_89 (fl_sub (by decide)))
                        refine lv_goto (tgt := 90) hx hb dX12_treesRead_131 (by decide) ?_
                        have q_97 : (-2147483648) ≤ u_89.1 231 20 ∧ u_89.1 231 20 ≤ 2147483647 := iu_89.fi 20
                        have q_98 : (-2147483648) ≤ u_89.1 231 24 ∧ u_89.1 231 24 ≤ 2147483647 := iu_89.fi 24
                        exact ih_90 u_89  _ _ _ (Nat.lt_of_lt_of_le (mf_lt (S := S90) (by omega) (by omega) (fun h => by have a9 := xu_89 h; have a1 := xu_79 a9.1; omega)) (Nat.le_of_lt_succ hmeas)) iu_89 F_91 F_92 F_93 g_94 g_95 g_96 (fun h => by have a9 := xu_89 h; omega) (fun h => by have a2 := xu_89 h; have a1 := xu_79 a2.1; have d1 := a1.2.1; have d2 := a2.2.1; rw [d1.2] at d2; have b9 := hH90 (by omega); exact ⟨b9.1, fun q t => b9.2 q (gTl.cons (by omega) ⟨d1.1, (by have y := d2.1; rw [show S90.1 231 24 + 1 + 1 = S90.1 231 24 + 2 by omega] at y; exact y), (by have y := d2.2; omega)⟩ t)⟩) (fun h => by have a9 := xu_89 h; have a1 := xu_79 a9.1; have b9 := hq90 (by omega); omega) hW hL (lv_sub hl [0, 1, 2] rfl)
                have q_99 : (-2147483648) ≤ u_30.1 231 20 ∧ u_30.1 231 20 ≤ 2147483647 := iu_30.fi 20
                have q_100 : (-2147483648) ≤ u_30.1 231 24 ∧ u_30.1 231 24 ≤ 2147483647 := iu_30.fi 24
                exact loop_90 (_ + 1) u_30  _ _ _ (Nat.lt_succ_self _) iu_30 F_32 F_33 Fr.rf g_34 g_35 FF.rf (fun h => by have a9 := xu_30 h; omega) (fun h => ⟨h, fun _ t => t⟩) (fun _ => Int.le_refl _) hW hL (lv_sub hl [0, 1, 2] rfl)
              · refine lv_aload_n hx hb dX12_treesRead_70 rfl (lv_at hl 2 rfl) ?_
                refine lv_iconst (v := iv 2) hx hb dX12_treesRead_71 (by decide) ?_
                have lk_101 : (uF S2 231 24 ((S2.1 231 24) + 1)).1 231 24 = (S2.1 231 24) + 1 := uF_on
                have lk_102 : (uF S2 231 24 ((S2.1 231 24) + 1)).1 231 20 = S2.1 231 20 := uF_ne (fun h => absurd h.2 (by decide))
                refine sBv (sV (As := [.int (iv 2)]) (rest := []) (k := 231) Cx (s_X12_wantKind l G (uF S2 231 24 ((S2.1 231 24) + 1)) (k := 2) (K := K) (V := V) (T := T) (pz := (S2.1 231 24) + 1) i_26 (by omega) ((funext fun j => (uF_a).trans ((hL2_ 244 rfl).2.1 j) : (uF S2 231 24 ((S2.1 231 24) + 1)).2.1 244 = S.2.1 244).trans hK) ((funext fun j => (uF_a).trans ((hL2_ 247 rfl).2.1 j) : (uF S2 231 24 ((S2.1 231 24) + 1)).2.1 247 = S.2.1 247).trans hV) hE (by omega) (fun h => by have e8 := (show (uF S2 231 24 ((S2.1 231 24) + 1)).1 231 20 = S2.1 231 20 from uF_ne (fun h => absurd h.2 (by decide))); have a9 := hcu2 (by have e9 := (show (uF S2 231 24 ((S2.1 231 24) + 1)).1 231 20 = S2.1 231 20 from uF_ne (fun h => absurd h.2 (by decide))); omega); omega)) (c_X12_328 Cx rfl rfl (rmk_ok (by omega) (by decide))) hW (by decide) rfl rfl rfl hl.1 rfl (Nat.le_of_ble_eq_true rfl) dX12_treesRead_72 ⟨Nat.le_of_ble_eq_true rfl, Nat.le_of_ble_eq_true rfl⟩) hL (fun u_103 H locs k_104 hW hL => ?_)
                obtain ⟨iu_103, fu_103, gu_103, xu_103⟩ := k_104
                have F_105 := F_22.trans fu_103
                have F_106 := F_23.trans fu_103
                have g_107 : FF S u_103 (fl [20, 21, 24]) := FF.trans g_24 (FF.to gu_103 (fl_sub (by decide)))
                have g_108 : FF S u_103 (fl [20, 21, 24]) := FF.trans g_25 (FF.to gu_103 (fl_sub (by decide)))
                refine lv_aload_n hx hb dX12_treesRead_75 rfl (lv_at hl 2 rfl) ?_
                refine lv_iconst (v := iv 2) hx hb dX12_treesRead_76 (by decide) ?_
                have q_109 : (-2147483648) ≤ u_103.1 231 24 ∧ u_103.1 231 24 ≤ 2147483647 := iu_103.fi 24
                have q_110 : (-2147483648) ≤ u_103.1 231 20 ∧ u_103.1 231 20 ≤ 2147483647 := iu_103.fi 20
                refine sBv (sV (As := [.int (iv 2)]) (rest := []) (k := 231) Cx (s_X12_wantKind l G u_103 (k := 2) (K := K) (V := V) (T := T) (pz := u_103.1 231 24) iu_103 (by omega) ((funext fun j => ((fu_103 244 rfl).2.1 j).trans ((uF_a).trans ((hL2_ 244 rfl).2.1 j)) : u_103.2.1 244 = S.2.1 244).trans hK) ((funext fun j => ((fu_103 247 rfl).2.1 j).trans ((uF_a).trans ((hL2_ 247 rfl).2.1 j)) : u_103.2.1 247 = S.2.1 247).trans hV) hE (by omega) (fun h => by have e8 := (show u_103.1 231 20 = u_103.1 231 20 from rfl); have a9 := xu_103 (by have e9 := (show u_103.1 231 20 = u_103.1 231 20 from rfl); omega); omega)) (c_X12_328 Cx rfl rfl (rmk_ok (by omega) (by decide))) hW (by decide) rfl rfl rfl hl.1 rfl (Nat.le_of_ble_eq_true rfl) dX12_treesRead_77 ⟨Nat.le_of_ble_eq_true rfl, Nat.le_of_ble_eq_true rfl⟩) hL (fun u_111 H locs k_112 hW hL => ?_)
                obtain ⟨iu_111, fu_111, gu_111, xu_111⟩ := k_112
                have F_113 := F_105.trans fu_111
                have F_114 := F_106.trans fu_111
                have g_115 : FF S u_111 (fl [20, 21, 24]) := FF.trans g_107 (FF.to gu_111 (fl_sub (by decide)))
                have g_116 : FF S u_111 (fl [20, 21, 24]) := FF.trans g_108 (FF.to gu_111 (fl_sub (by decide)))
                refine lv_iinc (v := iv (ct + 1)) (lv' := [(1, .int (iv (ct + 1))), (2, .int (iv (S.2.1 247 (S2.1 231 24)))), (0, .ref (G.2.2.1 + 231))]) hx hb dX12_treesRead_80 hl (k := 1) rfl ((Int32.ofInt_add _ _).symm) (by decide) rfl (fun ls hl => ?_)
                refine lv_goto (tgt := 2) hx hb dX12_treesRead_83 (by decide) ?_
                have q_117 : (-2147483648) ≤ u_111.1 231 20 ∧ u_111.1 231 20 ≤ 2147483647 := iu_111.fi 20
                have q_118 : (-2147483648) ≤ u_111.1 231 24 ∧ u_111.1 231 24 ≤ 2147483647 := iu_111.fi 24
                exact ih_2 u_111 (ct + 1) _ _ _ (Nat.lt_of_lt_of_le (mf_lt (S := S2) (by omega) (by omega) (fun h => by have a9 := xu_111 h; have a1 := xu_103 a9.1; omega)) (Nat.le_of_lt_succ hm2)) iu_111 F_113 F_114 g_115 g_116 (by omega) (fun h => by have a9 := xu_111 h; omega) (fun h => by have a9 := xu_111 h; have b9 := hct2 (by omega); have a1 := xu_103 a9.1; omega) (fun h => by have a2 := xu_111 h; have a1 := xu_103 a2.1; have d1 := a1.2.1; have d2 := a2.2.1; rw [d1.2] at d2; have b9 := hH2 (by omega); exact ⟨b9.1, (fun q t => b9.2.1 q (gTt.br (by omega) (by omega) (by omega) d1.1 (by have y := d2.1; rw [show S2.1 231 24 + 1 + 1 = S2.1 231 24 + 2 by omega] at y; exact y) (by rw [show S2.1 231 24 + 3 = u_111.1 231 24 by have := d2.2; omega]; exact t))), (by omega)⟩) hW hL (lv_sub hl [0, 2] rfl)
            · refine lv_aload_n hx hb dX12_treesRead_45 rfl (lv_at hl 2 rfl) ?_
              refine lv_iconst (v := iv 1) hx hb dX12_treesRead_46 (by decide) ?_
              refine lv_aload_n hx hb dX12_treesRead_47 rfl (lv_at hl 2 rfl) ?_
              refine g_X12_315 Cx hW (k := 231) (by decide) rfl (v := S2.1 231 24) rfl dX12_treesRead_48 ?_
              refine sBv (sV (As := [.int (iv 1), .int (iv (S2.1 231 24))]) (rest := []) (k := 231) Cx (s_X12_wrong l G S2 (cd := 1) (tk := S2.1 231 24) hI2 (by omega) (by omega)) (c_X12_321 Cx rfl rfl (rmk_ok (by omega) (by decide))) hW (by decide) rfl rfl rfl hl.1 rfl (Nat.le_of_ble_eq_true rfl) dX12_treesRead_51 ⟨Nat.le_of_ble_eq_true rfl, Nat.le_of_ble_eq_true rfl⟩) hL (fun u_119 H locs k_120 hW hL => ?_)
              obtain ⟨iu_119, fu_119, gu_119, xu_119⟩ := k_120
              have F_121 := hFm2.trans fu_119
              have F_122 := hL2_.trans fu_119
              have g_123 : FF S u_119 (fl [20, 21, 24]) := FF.trans hGm2 (FF.to gu_119 (fl_sub (by decide)))
              have g_124 : FF S u_119 (fl [20, 21, 24]) := FF.trans gL2_ (FF.to gu_119 (fl_sub (by decide)))
              have q_125 : (-2147483648) ≤ u_119.1 231 20 ∧ u_119.1 231 20 ≤ 2147483647 := iu_119.fi 20
              have lk_126 : u_119.1 231 24 = S2.1 231 24 := gu_119 24 rfl
              exact sVret Cx hr hlk hW hL ⟨iu_119, F_121, g_123, (fun h => absurd h (by have e9 := (show u_119.1 231 20 = u_119.1 231 20 from rfl); have a9 := xu_119; omega))⟩ dX12_treesRead_54
  have q_127 : (-2147483648) ≤ S.1 231 20 ∧ S.1 231 20 ≤ 2147483647 := hI.fi 20
  have q_128 : (-2147483648) ≤ S.1 231 24 ∧ S.1 231 24 ≤ 2147483647 := hI.fi 24
  exact loop_2 (_ + 1) S 1 _ _ _ (Nat.lt_succ_self _) hI (Fr.rf : Fr S S (pl [231])) Fr.rf FF.rf FF.rf (by omega) (fun h => by have a9 := hcu h; omega) (fun h => by have a9 := hcu h; omega) (fun h => ⟨h, (fun q t => by rw [hc] at t; exact t), by omega⟩) hW hL (lv_sub hl [0, 1] rfl)

set_option maxRecDepth 100000 in
set_option maxHeartbeats 4000000 in
theorem s_X12_proofRead (l : Launch) (G : sG) (S : sS) {K V : Int → Int} {T pz : Int}  (hI : dX G S) (hK : S.2.1 244 = K) (hV : S.2.1 247 = V) (hE : gE K T) (h20 : S.1 231 20 = 0) (hm : 0 ≤ S.1 231 46 ∧ S.1 231 46 ≤ 12) : Met l yX12_proofRead (.code yX12_proofRead cX12_proofRead 2 none :: tb) (rmk 4 0 0) (sPc G 294 S [.ref (G.2.2.1 + 231)]) (sQv G 294 (fun u => dX G u ∧ Fr S u (pl [231]) ∧ FF S u (fl [20, 21, 24]) ∧ (Hd (u.1 231 20 = 0 → gPf K V (S.1 231 46) T)))) 0 0 (sF G) := by
  refine sEnter (by decide) (Nat.le_of_ble_eq_true rfl) ?_
  intro p e s m args below meth c Cx hr hlk hnm hW ls hl
  have Cx : sC G p m c cX12_proofRead 2 s args RX12 := Cx
  obtain ⟨hx, hb, hml, hown, hts⟩ := id Cx.1
  have hL : sL G [] := sL_nil
  have hl : lv_has ls 2 [(0, .ref (G.2.2.1 + 231))] := hl
  have hW0 := hW
  have hE1 := hE.1
  refine lv_aload_n hx hb dX12_proofRead_0 rfl (lv_at hl 0 rfl) ?_
  refine lv_iconst (v := iv 0) hx hb dX12_proofRead_1 (by decide) ?_
  refine p_X12_315 Cx hW hL (k := 231) (by decide) rfl dX12_proofRead_2 (fun H locs hW hL => ?_)
  have F_1 : Fr S (uF S 231 24 0) (pl [231]) := (Fr.rf : Fr S S (pl [231])).F rfl
  have g_2 : FF S (uF S 231 24 0) (fl [20, 21, 24]) := FF.F FF.rf rfl
  have i_3 : dX G (uF S 231 24 0) := hI.F (i := 24) (show (-2147483648) ≤ 0 ∧ 0 ≤ 2147483647 from ⟨by omega, by omega⟩)
  refine lv_aload_n hx hb dX12_proofRead_5 rfl (lv_at hl 0 rfl) ?_
  refine g_X12_47 Cx hW (k := 231) (by decide) rfl (v := .ref (G.2.2.1 + 244)) (rd_15 i_3) dX12_proofRead_6 ?_
  refine lv_iconst (v := iv 0) hx hb dX12_proofRead_9 (by decide) ?_
  refine rIald Cx hW (k := 244) (by decide) rfl (by decide) (by omega) (by omega) dX12_proofRead_10 ?_
  have q_4 : (-2147483648) ≤ S.2.1 244 0 ∧ S.2.1 244 0 ≤ 2147483647 := hI.ai 244 0
  refine r_i (b := S.2.1 244 0) uF_a ?_
  have hr1 : K 0 = S.2.1 244 0 := by rw [← hK]
  refine lv_iconst (v := iv 3) hx hb dX12_proofRead_11 (by decide) ?_
  refine r_icmp_ne (tgt := 24) hx hb ⟨(by omega), (by omega)⟩ ⟨(by omega), (by omega)⟩ dX12_proofRead_12 (by decide) (fun c_5 => ?_) (fun c_5 => ?_)
  · refine lv_iconst (v := iv (-1)) hx hb dX12_proofRead_24 (by decide) ?_
    refine lv_istore_n (lv' := [(1, .int (iv ((-1)))), (0, .ref (G.2.2.1 + 231))]) hx hb dX12_proofRead_25 rfl hl (by decide) rfl (fun ls hl => ?_)
    refine lv_aload_n hx hb dX12_proofRead_26 rfl (lv_at hl 1 rfl) ?_
    refine lv_dup hx hb dX12_proofRead_27 rfl ?_
    refine g_X12_315 Cx hW (k := 231) (by decide) rfl (v := 0) uF_on dX12_proofRead_28 ?_
    refine lv_iconst (v := iv 1) hx hb dX12_proofRead_31 (by decide) ?_
    refine r_iadd hx hb dX12_proofRead_32 ?_
    refine r_i (b := 1) (by omega) ?_
    refine p_X12_315 Cx hW hL (k := 231) (by decide) rfl dX12_proofRead_33 (fun H locs hW hL => ?_)
    have F_6 : Fr S (uF (uF S 231 24 0) 231 24 1) (pl [231]) := F_1.F rfl
    have g_7 : FF S (uF (uF S 231 24 0) 231 24 1) (fl [20, 21, 24]) := FF.F g_2 rfl
    have i_8 : dX G (uF (uF S 231 24 0) 231 24 1) := i_3.F (i := 24) (show (-2147483648) ≤ 1 ∧ 1 ≤ 2147483647 from ⟨by omega, by omega⟩)
    refine lv_iload_n hx hb dX12_proofRead_36 rfl (lv_at hl 0 rfl) ?_
    refine r_if_ne (tgt := 71) hx hb ⟨(by omega), (by omega)⟩ dX12_proofRead_37 (by decide) (fun _ => ?_) (fun c => absurd c (by omega))
    refine lv_iload_n hx hb dX12_proofRead_71 rfl (lv_at hl 0 rfl) ?_
    refine lv_iconst (v := iv 2) hx hb dX12_proofRead_72 (by decide) ?_
    refine r_icmp_ne (tgt := 83) hx hb ⟨(by omega), (by omega)⟩ ⟨(by omega), (by omega)⟩ dX12_proofRead_73 (by decide) (fun _ => ?_) (fun c => absurd c (by omega))
    refine lv_iload_n hx hb dX12_proofRead_83 rfl (lv_at hl 0 rfl) ?_
    refine lv_iconst (v := iv 3) hx hb dX12_proofRead_84 (by decide) ?_
    refine r_icmp_ne (tgt := 109) hx hb ⟨(by omega), (by omega)⟩ ⟨(by omega), (by omega)⟩ dX12_proofRead_85 (by decide) (fun _ => ?_) (fun c => absurd c (by omega))
    refine lv_aload_n hx hb dX12_proofRead_109 rfl (lv_at hl 1 rfl) ?_
    refine lv_iconst (v := iv 1) hx hb dX12_proofRead_110 (by decide) ?_
    refine lv_iconst (v := iv 0) hx hb dX12_proofRead_111 (by decide) ?_
    refine sBv (sV (As := [.int (iv 1), .int (iv 0)]) (rest := []) (k := 231) Cx (s_X12_wrong l G (uF (uF S 231 24 0) 231 24 1) (cd := 1) (tk := 0) i_8 (by omega) (by omega)) (c_X12_321 Cx rfl rfl (rmk_ok (by omega) (by decide))) hW (by decide) rfl rfl rfl hl.1 rfl (Nat.le_of_ble_eq_true rfl) dX12_proofRead_112 ⟨Nat.le_of_ble_eq_true rfl, Nat.le_of_ble_eq_true rfl⟩) hL (fun u_9 H locs k_10 hW hL => ?_)
    obtain ⟨iu_9, fu_9, gu_9, xu_9⟩ := k_10
    have F_11 := F_6.trans fu_9
    have g_12 : FF S u_9 (fl [20, 21, 24]) := FF.trans g_7 (FF.to gu_9 (fl_sub (by decide)))
    refine lv_aload_n hx hb dX12_proofRead_115 rfl (lv_at hl 1 rfl) ?_
    have q_13 : (-2147483648) ≤ u_9.1 231 20 ∧ u_9.1 231 20 ≤ 2147483647 := iu_9.fi 20
    refine g_X12_270 Cx hW (k := 231) (by decide) rfl (v := u_9.1 231 20) rfl dX12_proofRead_116 ?_
    refine r_if_ne (tgt := 144) hx hb ⟨(by omega), (by omega)⟩ dX12_proofRead_119 (by decide) (fun _ => ?_) (fun c => absurd c (by omega))
    exact sVret Cx hr hlk hW hL ⟨iu_9, F_11, g_12, (fun h => absurd h (by have e9 := (show u_9.1 231 20 = u_9.1 231 20 from rfl); have a9 := xu_9; omega))⟩ dX12_proofRead_144
  · refine lv_aload_n hx hb dX12_proofRead_15 rfl (lv_at hl 0 rfl) ?_
    refine g_X12_56 Cx hW (k := 231) (by decide) rfl (v := .ref (G.2.2.1 + 247)) (rd_18 i_3) dX12_proofRead_16 ?_
    refine lv_iconst (v := iv 0) hx hb dX12_proofRead_19 (by decide) ?_
    refine rIald Cx hW (k := 247) (by decide) rfl (by decide) (by omega) (by omega) dX12_proofRead_20 ?_
    have q_14 : (-2147483648) ≤ S.2.1 247 0 ∧ S.2.1 247 0 ≤ 2147483647 := hI.ai 247 0
    refine r_i (b := S.2.1 247 0) uF_a ?_
    have hr2 : V 0 = S.2.1 247 0 := by rw [← hV]
    refine lv_goto (tgt := 25) hx hb dX12_proofRead_21 (by decide) ?_
    refine lv_istore_n (lv' := [(1, .int (iv (S.2.1 247 0))), (0, .ref (G.2.2.1 + 231))]) hx hb dX12_proofRead_25 rfl hl (by decide) rfl (fun ls hl => ?_)
    have hcu : Hd (S.1 231 20 = 0 → (0 : Int) ≤ 1 ∧ 1 ≤ T - 1) := fun _ => by have y := hE.nx (pz := 0) (by omega) (by omega); omega
    refine lv_aload_n hx hb dX12_proofRead_26 rfl (lv_at hl 1 rfl) ?_
    refine lv_dup hx hb dX12_proofRead_27 rfl ?_
    refine g_X12_315 Cx hW (k := 231) (by decide) rfl (v := 0) uF_on dX12_proofRead_28 ?_
    refine lv_iconst (v := iv 1) hx hb dX12_proofRead_31 (by decide) ?_
    refine r_iadd hx hb dX12_proofRead_32 ?_
    refine r_i (b := 1) (by omega) ?_
    refine p_X12_315 Cx hW hL (k := 231) (by decide) rfl dX12_proofRead_33 (fun H locs hW hL => ?_)
    have F_15 : Fr S (uF (uF S 231 24 0) 231 24 1) (pl [231]) := F_1.F rfl
    have g_16 : FF S (uF (uF S 231 24 0) 231 24 1) (fl [20, 21, 24]) := FF.F g_2 rfl
    have i_17 : dX G (uF (uF S 231 24 0) 231 24 1) := i_3.F (i := 24) (show (-2147483648) ≤ 1 ∧ 1 ≤ 2147483647 from ⟨by omega, by omega⟩)
    refine lv_iload_n hx hb dX12_proofRead_36 rfl (lv_at hl 0 rfl) ?_
    refine r_if_ne (tgt := 71) hx hb ⟨(by omega), (by omega)⟩ dX12_proofRead_37 (by decide) (fun c_18 => ?_) (fun c_18 => ?_)
    · refine lv_iload_n hx hb dX12_proofRead_71 rfl (lv_at hl 0 rfl) ?_
      refine lv_iconst (v := iv 2) hx hb dX12_proofRead_72 (by decide) ?_
      refine r_icmp_ne (tgt := 83) hx hb ⟨(by omega), (by omega)⟩ ⟨(by omega), (by omega)⟩ dX12_proofRead_73 (by decide) (fun c_19 => ?_) (fun c_19 => ?_)
      · refine lv_iload_n hx hb dX12_proofRead_83 rfl (lv_at hl 0 rfl) ?_
        refine lv_iconst (v := iv 3) hx hb dX12_proofRead_84 (by decide) ?_
        refine r_icmp_ne (tgt := 109) hx hb ⟨(by omega), (by omega)⟩ ⟨(by omega), (by omega)⟩ dX12_proofRead_85 (by decide) (fun c_20 => ?_) (fun c_20 => ?_)
        · refine lv_aload_n hx hb dX12_proofRead_109 rfl (lv_at hl 1 rfl) ?_
          refine lv_iconst (v := iv 1) hx hb dX12_proofRead_110 (by decide) ?_
          refine lv_iconst (v := iv 0) hx hb dX12_proofRead_111 (by decide) ?_
          refine sBv (sV (As := [.int (iv 1), .int (iv 0)]) (rest := []) (k := 231) Cx (s_X12_wrong l G (uF (uF S 231 24 0) 231 24 1) (cd := 1) (tk := 0) i_17 (by omega) (by omega)) (c_X12_321 Cx rfl rfl (rmk_ok (by omega) (by decide))) hW (by decide) rfl rfl rfl hl.1 rfl (Nat.le_of_ble_eq_true rfl) dX12_proofRead_112 ⟨Nat.le_of_ble_eq_true rfl, Nat.le_of_ble_eq_true rfl⟩) hL (fun u_21 H locs k_22 hW hL => ?_)
          obtain ⟨iu_21, fu_21, gu_21, xu_21⟩ := k_22
          have F_23 := F_15.trans fu_21
          have g_24 : FF S u_21 (fl [20, 21, 24]) := FF.trans g_16 (FF.to gu_21 (fl_sub (by decide)))
          refine lv_aload_n hx hb dX12_proofRead_115 rfl (lv_at hl 1 rfl) ?_
          have q_25 : (-2147483648) ≤ u_21.1 231 20 ∧ u_21.1 231 20 ≤ 2147483647 := iu_21.fi 20
          refine g_X12_270 Cx hW (k := 231) (by decide) rfl (v := u_21.1 231 20) rfl dX12_proofRead_116 ?_
          refine r_if_ne (tgt := 144) hx hb ⟨(by omega), (by omega)⟩ dX12_proofRead_119 (by decide) (fun _ => ?_) (fun c => absurd c (by omega))
          exact sVret Cx hr hlk hW hL ⟨iu_21, F_23, g_24, (fun h => absurd h (by have e9 := (show u_21.1 231 20 = u_21.1 231 20 from rfl); have a9 := xu_21; omega))⟩ dX12_proofRead_144
        · refine lv_aload_n hx hb dX12_proofRead_88 rfl (lv_at hl 1 rfl) ?_
          refine lv_iconst (v := iv 1) hx hb dX12_proofRead_89 (by decide) ?_
          have lk_26 : (uF (uF S 231 24 0) 231 24 1).1 231 24 = 1 := uF_on
          have q_27 : (-2147483648) ≤ S.1 231 20 ∧ S.1 231 20 ≤ 2147483647 := hI.fi 20
          have lk_28 : (uF (uF S 231 24 0) 231 24 1).1 231 20 = S.1 231 20 := (uF_ne (fun h => absurd h.2 (by decide))).trans (uF_ne (fun h => absurd h.2 (by decide)))
          refine sBv (sV (As := [.int (iv 1)]) (rest := []) (k := 231) Cx (s_X12_wantWord l G (uF (uF S 231 24 0) 231 24 1) (sv := 1) (K := K) (V := V) (T := T) (pz := 1) i_17 (by omega) ((funext fun j => (uF_a).trans (uF_a) : (uF (uF S 231 24 0) 231 24 1).2.1 244 = S.2.1 244).trans hK) ((funext fun j => (uF_a).trans (uF_a) : (uF (uF S 231 24 0) 231 24 1).2.1 247 = S.2.1 247).trans hV) hE (by omega) (fun h => by have e8 := (show (uF (uF S 231 24 0) 231 24 1).1 231 20 = S.1 231 20 from (uF_ne (fun h => absurd h.2 (by decide))).trans (uF_ne (fun h => absurd h.2 (by decide)))); have a9 := hcu (by have e9 := (show (uF (uF S 231 24 0) 231 24 1).1 231 20 = S.1 231 20 from (uF_ne (fun h => absurd h.2 (by decide))).trans (uF_ne (fun h => absurd h.2 (by decide)))); omega); omega)) (c_X12_340 Cx rfl rfl (rmk_ok (by omega) (by decide))) hW (by decide) rfl rfl rfl hl.1 rfl (Nat.le_of_ble_eq_true rfl) dX12_proofRead_90 ⟨Nat.le_of_ble_eq_true rfl, Nat.le_of_ble_eq_true rfl⟩) hL (fun u_29 H locs k_30 hW hL => ?_)
          obtain ⟨iu_29, fu_29, gu_29, xu_29⟩ := k_30
          have F_31 := F_15.trans fu_29
          have g_32 : FF S u_29 (fl [20, 21, 24]) := FF.trans g_16 (FF.to gu_29 (fl_sub (by decide)))
          refine lv_aload_n hx hb dX12_proofRead_93 rfl (lv_at hl 1 rfl) ?_
          have q_33 : (-2147483648) ≤ S.1 231 46 ∧ S.1 231 46 ≤ 2147483647 := hI.fi 46
          have lk_34 : u_29.1 231 46 = S.1 231 46 := (gu_29 46 rfl).trans ((uF_ne (fun h => absurd h.2 (by decide))).trans (uF_ne (fun h => absurd h.2 (by decide))))
          have q_35 : (-2147483648) ≤ u_29.1 231 24 ∧ u_29.1 231 24 ≤ 2147483647 := iu_29.fi 24
          have q_36 : (-2147483648) ≤ u_29.1 231 20 ∧ u_29.1 231 20 ≤ 2147483647 := iu_29.fi 20
          refine sBv (sV (As := []) (rest := []) (k := 231) Cx (s_X12_pointRead l G u_29 (K := K) (V := V) (T := T) (pz := u_29.1 231 24) iu_29 (by omega) ((funext fun j => ((fu_29 244 rfl).2.1 j).trans ((uF_a).trans (uF_a)) : u_29.2.1 244 = S.2.1 244).trans hK) ((funext fun j => ((fu_29 247 rfl).2.1 j).trans ((uF_a).trans (uF_a)) : u_29.2.1 247 = S.2.1 247).trans hV) hE (by omega) (fun h => by have e8 := (show u_29.1 231 20 = u_29.1 231 20 from rfl); have a9 := xu_29 (by have e9 := (show u_29.1 231 20 = u_29.1 231 20 from rfl); omega); omega)) (c_X12_694 Cx rfl rfl (rmk_ok (by omega) (by decide))) hW (by decide) rfl rfl rfl hl.1 rfl (Nat.le_of_ble_eq_true rfl) dX12_proofRead_94 ⟨Nat.le_of_ble_eq_true rfl, Nat.le_of_ble_eq_true rfl⟩) hL (fun u_37 H locs k_38 hW hL => ?_)
          obtain ⟨iu_37, fu_37, gu_37, xu_37⟩ := k_38
          have F_39 := F_31.trans fu_37
          have g_40 : FF S u_37 (fl [20, 21, 24]) := FF.trans g_32 (FF.to gu_37 (fl_sub (by decide)))
          refine lv_aload_n hx hb dX12_proofRead_97 rfl (lv_at hl 1 rfl) ?_
          refine lv_iconst (v := iv 4) hx hb dX12_proofRead_98 (by decide) ?_
          have q_41 : (-2147483648) ≤ u_37.1 231 24 ∧ u_37.1 231 24 ≤ 2147483647 := iu_37.fi 24
          have q_42 : (-2147483648) ≤ u_37.1 231 20 ∧ u_37.1 231 20 ≤ 2147483647 := iu_37.fi 20
          refine sBv (sV (As := [.int (iv 4)]) (rest := []) (k := 231) Cx (s_X12_wantWord l G u_37 (sv := 4) (K := K) (V := V) (T := T) (pz := u_37.1 231 24) iu_37 (by omega) ((funext fun j => ((fu_37 244 rfl).2.1 j).trans (((fu_29 244 rfl).2.1 j).trans ((uF_a).trans (uF_a))) : u_37.2.1 244 = S.2.1 244).trans hK) ((funext fun j => ((fu_37 247 rfl).2.1 j).trans (((fu_29 247 rfl).2.1 j).trans ((uF_a).trans (uF_a))) : u_37.2.1 247 = S.2.1 247).trans hV) hE (by omega) (fun h => by have e8 := (show u_37.1 231 20 = u_37.1 231 20 from rfl); have a9 := xu_37 (by have e9 := (show u_37.1 231 20 = u_37.1 231 20 from rfl); omega); omega)) (c_X12_340 Cx rfl rfl (rmk_ok (by omega) (by decide))) hW (by decide) rfl rfl rfl hl.1 rfl (Nat.le_of_ble_eq_true rfl) dX12_proofRead_99 ⟨Nat.le_of_ble_eq_true rfl, Nat.le_of_ble_eq_true rfl⟩) hL (fun u_43 H locs k_44 hW hL => ?_)
          obtain ⟨iu_43, fu_43, gu_43, xu_43⟩ := k_44
          have F_45 := F_39.trans fu_43
          have g_46 : FF S u_43 (fl [20, 21, 24]) := FF.trans g_40 (FF.to gu_43 (fl_sub (by decide)))
          refine lv_aload_n hx hb dX12_proofRead_102 rfl (lv_at hl 1 rfl) ?_
          have lk_47 : u_43.1 231 46 = S.1 231 46 := (gu_43 46 rfl).trans ((gu_37 46 rfl).trans ((gu_29 46 rfl).trans ((uF_ne (fun h => absurd h.2 (by decide))).trans (uF_ne (fun h => absurd h.2 (by decide))))))
          have q_48 : (-2147483648) ≤ u_43.1 231 24 ∧ u_43.1 231 24 ≤ 2147483647 := iu_43.fi 24
          have q_49 : (-2147483648) ≤ u_43.1 231 20 ∧ u_43.1 231 20 ≤ 2147483647 := iu_43.fi 20
          refine sBv (sV (As := []) (rest := []) (k := 231) Cx (s_X12_pointRead l G u_43 (K := K) (V := V) (T := T) (pz := u_43.1 231 24) iu_43 (by omega) ((funext fun j => ((fu_43 244 rfl).2.1 j).trans (((fu_37 244 rfl).2.1 j).trans (((fu_29 244 rfl).2.1 j).trans ((uF_a).trans (uF_a)))) : u_43.2.1 244 = S.2.1 244).trans hK) ((funext fun j => ((fu_43 247 rfl).2.1 j).trans (((fu_37 247 rfl).2.1 j).trans (((fu_29 247 rfl).2.1 j).trans ((uF_a).trans (uF_a)))) : u_43.2.1 247 = S.2.1 247).trans hV) hE (by omega) (fun h => by have e8 := (show u_43.1 231 20 = u_43.1 231 20 from rfl); have a9 := xu_43 (by have e9 := (show u_43.1 231 20 = u_43.1 231 20 from rfl); omega); omega)) (c_X12_694 Cx rfl rfl (rmk_ok (by omega) (by decide))) hW (by decide) rfl rfl rfl hl.1 rfl (Nat.le_of_ble_eq_true rfl) dX12_proofRead_103 ⟨Nat.le_of_ble_eq_true rfl, Nat.le_of_ble_eq_true rfl⟩) hL (fun u_50 H locs k_51 hW hL => ?_)
          obtain ⟨iu_50, fu_50, gu_50, xu_50⟩ := k_51
          have F_52 := F_45.trans fu_50
          have g_53 : FF S u_50 (fl [20, 21, 24]) := FF.trans g_46 (FF.to gu_50 (fl_sub (by decide)))
          refine lv_goto (tgt := 115) hx hb dX12_proofRead_106 (by decide) ?_
          refine lv_aload_n hx hb dX12_proofRead_115 rfl (lv_at hl 1 rfl) ?_
          have q_54 : (-2147483648) ≤ u_50.1 231 20 ∧ u_50.1 231 20 ≤ 2147483647 := iu_50.fi 20
          refine g_X12_270 Cx hW (k := 231) (by decide) rfl (v := u_50.1 231 20) rfl dX12_proofRead_116 ?_
          refine r_if_ne (tgt := 144) hx hb ⟨(by omega), (by omega)⟩ dX12_proofRead_119 (by decide) (fun c_55 => ?_) (fun c_55 => ?_)
          · exact sVret Cx hr hlk hW hL ⟨iu_50, F_52, g_53, (fun h => absurd h (by have e9 := (show u_50.1 231 20 = u_50.1 231 20 from rfl); omega))⟩ dX12_proofRead_144
          · have b_56 := xu_50 (by have e9 := (show u_50.1 231 20 = u_50.1 231 20 from rfl); omega)
            refine lv_aload_n hx hb dX12_proofRead_122 rfl (lv_at hl 1 rfl) ?_
            refine g_X12_47 Cx hW (k := 231) (by decide) rfl (v := .ref (G.2.2.1 + 244)) (rd_15 iu_50) dX12_proofRead_123 ?_
            refine lv_aload_n hx hb dX12_proofRead_126 rfl (lv_at hl 1 rfl) ?_
            have q_57 : (-2147483648) ≤ u_50.1 231 24 ∧ u_50.1 231 24 ≤ 2147483647 := iu_50.fi 24
            refine g_X12_315 Cx hW (k := 231) (by decide) rfl (v := u_50.1 231 24) rfl dX12_proofRead_127 ?_
            refine rIald Cx hW (k := 244) (by decide) rfl (by decide) (by omega) (by omega) dX12_proofRead_130 ?_
            have q_58 : (-2147483648) ≤ S.2.1 244 (u_50.1 231 24) ∧ S.2.1 244 (u_50.1 231 24) ≤ 2147483647 := hI.ai 244 (u_50.1 231 24)
            refine r_i (b := S.2.1 244 (u_50.1 231 24)) (((fu_50 244 rfl).2.1 (u_50.1 231 24)).trans (((fu_43 244 rfl).2.1 (u_50.1 231 24)).trans (((fu_37 244 rfl).2.1 (u_50.1 231 24)).trans (((fu_29 244 rfl).2.1 (u_50.1 231 24)).trans ((uF_a).trans (uF_a)))))) ?_
            refine lv_iconst (v := iv 5) hx hb dX12_proofRead_131 (by decide) ?_
            refine r_icmp_eq (tgt := 144) hx hb ⟨(by omega), (by omega)⟩ ⟨(by omega), (by omega)⟩ dX12_proofRead_132 (by decide) (fun c_59 => ?_) (fun c_59 => ?_)
            · exact sVret Cx hr hlk hW hL ⟨iu_50, F_52, g_53, (fun h => by have au_50 := xu_50 (by have e9 := (show u_50.1 231 20 = u_50.1 231 20 from rfl); omega); have au_43 := xu_43 au_50.1; have au_37 := xu_37 au_43.1; have au_29 := xu_29 au_37.1; have e1 : u_29.1 231 24 = 2 := (by have y1 := au_29.2.1.2; omega); have b1 := au_37.2.1; rw [e1, show u_29.1 231 46 = S.1 231 46 from (gu_29 46 rfl).trans ((uF_ne (fun h => absurd h.2 (by decide))).trans (uF_ne (fun h => absurd h.2 (by decide))))] at b1; have b2 := au_50.2.1; rw [au_43.2.1.2, show u_43.1 231 46 = S.1 231 46 from (gu_43 46 rfl).trans ((gu_37 46 rfl).trans ((gu_29 46 rfl).trans ((uF_ne (fun h => absurd h.2 (by decide))).trans (uF_ne (fun h => absurd h.2 (by decide))))))] at b2; exact ⟨by omega, .inr (.inr ⟨by omega, _, b1, _, b2, by omega⟩)⟩)⟩ dX12_proofRead_144
            · refine lv_aload_n hx hb dX12_proofRead_135 rfl (lv_at hl 1 rfl) ?_
              refine lv_iconst (v := iv 1) hx hb dX12_proofRead_136 (by decide) ?_
              refine lv_aload_n hx hb dX12_proofRead_137 rfl (lv_at hl 1 rfl) ?_
              refine g_X12_315 Cx hW (k := 231) (by decide) rfl (v := u_50.1 231 24) rfl dX12_proofRead_138 ?_
              refine sBv (sV (As := [.int (iv 1), .int (iv (u_50.1 231 24))]) (rest := []) (k := 231) Cx (s_X12_wrong l G u_50 (cd := 1) (tk := u_50.1 231 24) iu_50 (by omega) (by omega)) (c_X12_321 Cx rfl rfl (rmk_ok (by omega) (by decide))) hW (by decide) rfl rfl rfl hl.1 rfl (Nat.le_of_ble_eq_true rfl) dX12_proofRead_141 ⟨Nat.le_of_ble_eq_true rfl, Nat.le_of_ble_eq_true rfl⟩) hL (fun u_60 H locs k_61 hW hL => ?_)
              obtain ⟨iu_60, fu_60, gu_60, xu_60⟩ := k_61
              have F_62 := F_52.trans fu_60
              have g_63 : FF S u_60 (fl [20, 21, 24]) := FF.trans g_53 (FF.to gu_60 (fl_sub (by decide)))
              have q_64 : (-2147483648) ≤ u_60.1 231 20 ∧ u_60.1 231 20 ≤ 2147483647 := iu_60.fi 20
              exact sVret Cx hr hlk hW hL ⟨iu_60, F_62, g_63, (fun h => absurd h (by have e9 := (show u_60.1 231 20 = u_60.1 231 20 from rfl); have a9 := xu_60; omega))⟩ dX12_proofRead_144
      · refine lv_aload_n hx hb dX12_proofRead_76 rfl (lv_at hl 1 rfl) ?_
        have lk_65 : (uF (uF S 231 24 0) 231 24 1).1 231 24 = 1 := uF_on
        have q_66 : (-2147483648) ≤ S.1 231 20 ∧ S.1 231 20 ≤ 2147483647 := hI.fi 20
        have lk_67 : (uF (uF S 231 24 0) 231 24 1).1 231 20 = S.1 231 20 := (uF_ne (fun h => absurd h.2 (by decide))).trans (uF_ne (fun h => absurd h.2 (by decide)))
        refine sBv (sV (As := []) (rest := []) (k := 231) Cx (s_X12_treesRead l G (uF (uF S 231 24 0) 231 24 1) (K := K) (V := V) (T := T) (pz := 1) i_17 ((funext fun j => (uF_a).trans (uF_a) : (uF (uF S 231 24 0) 231 24 1).2.1 244 = S.2.1 244).trans hK) ((funext fun j => (uF_a).trans (uF_a) : (uF (uF S 231 24 0) 231 24 1).2.1 247 = S.2.1 247).trans hV) hE (by omega) (fun h => by have e8 := (show (uF (uF S 231 24 0) 231 24 1).1 231 20 = S.1 231 20 from (uF_ne (fun h => absurd h.2 (by decide))).trans (uF_ne (fun h => absurd h.2 (by decide)))); have a9 := hcu (by have e9 := (show (uF (uF S 231 24 0) 231 24 1).1 231 20 = S.1 231 20 from (uF_ne (fun h => absurd h.2 (by decide))).trans (uF_ne (fun h => absurd h.2 (by decide)))); omega); omega)) (c_X12_697 Cx rfl rfl (rmk_ok (by omega) (by decide))) hW (by decide) rfl rfl rfl hl.1 rfl (Nat.le_of_ble_eq_true rfl) dX12_proofRead_77 ⟨Nat.le_of_ble_eq_true rfl, Nat.le_of_ble_eq_true rfl⟩) hL (fun u_68 H locs k_69 hW hL => ?_)
        obtain ⟨iu_68, fu_68, gu_68, xu_68⟩ := k_69
        have F_70 := F_15.trans fu_68
        have g_71 : FF S u_68 (fl [20, 21, 24]) := FF.trans g_16 (FF.to gu_68 (fl_sub (by decide)))
        refine lv_goto (tgt := 115) hx hb dX12_proofRead_80 (by decide) ?_
        refine lv_aload_n hx hb dX12_proofRead_115 rfl (lv_at hl 1 rfl) ?_
        have q_72 : (-2147483648) ≤ u_68.1 231 20 ∧ u_68.1 231 20 ≤ 2147483647 := iu_68.fi 20
        refine g_X12_270 Cx hW (k := 231) (by decide) rfl (v := u_68.1 231 20) rfl dX12_proofRead_116 ?_
        refine r_if_ne (tgt := 144) hx hb ⟨(by omega), (by omega)⟩ dX12_proofRead_119 (by decide) (fun c_73 => ?_) (fun c_73 => ?_)
        · exact sVret Cx hr hlk hW hL ⟨iu_68, F_70, g_71, (fun h => absurd h (by have e9 := (show u_68.1 231 20 = u_68.1 231 20 from rfl); omega))⟩ dX12_proofRead_144
        · have b_74 := xu_68 (by have e9 := (show u_68.1 231 20 = u_68.1 231 20 from rfl); omega)
          refine lv_aload_n hx hb dX12_proofRead_122 rfl (lv_at hl 1 rfl) ?_
          refine g_X12_47 Cx hW (k := 231) (by decide) rfl (v := .ref (G.2.2.1 + 244)) (rd_15 iu_68) dX12_proofRead_123 ?_
          refine lv_aload_n hx hb dX12_proofRead_126 rfl (lv_at hl 1 rfl) ?_
          have q_75 : (-2147483648) ≤ u_68.1 231 24 ∧ u_68.1 231 24 ≤ 2147483647 := iu_68.fi 24
          refine g_X12_315 Cx hW (k := 231) (by decide) rfl (v := u_68.1 231 24) rfl dX12_proofRead_127 ?_
          refine rIald Cx hW (k := 244) (by decide) rfl (by decide) (by omega) (by omega) dX12_proofRead_130 ?_
          have q_76 : (-2147483648) ≤ S.2.1 244 (u_68.1 231 24) ∧ S.2.1 244 (u_68.1 231 24) ≤ 2147483647 := hI.ai 244 (u_68.1 231 24)
          refine r_i (b := S.2.1 244 (u_68.1 231 24)) (((fu_68 244 rfl).2.1 (u_68.1 231 24)).trans ((uF_a).trans (uF_a))) ?_
          refine lv_iconst (v := iv 5) hx hb dX12_proofRead_131 (by decide) ?_
          refine r_icmp_eq (tgt := 144) hx hb ⟨(by omega), (by omega)⟩ ⟨(by omega), (by omega)⟩ dX12_proofRead_132 (by decide) (fun c_77 => ?_) (fun c_77 => ?_)
          · exact sVret Cx hr hlk hW hL ⟨iu_68, F_70, g_71, (fun h => by have au_68 := xu_68 (by have e9 := (show u_68.1 231 20 = u_68.1 231 20 from rfl); omega); exact ⟨by omega, .inr (.inl ⟨by omega, _, au_68.2.1, by omega⟩)⟩)⟩ dX12_proofRead_144
          · refine lv_aload_n hx hb dX12_proofRead_135 rfl (lv_at hl 1 rfl) ?_
            refine lv_iconst (v := iv 1) hx hb dX12_proofRead_136 (by decide) ?_
            refine lv_aload_n hx hb dX12_proofRead_137 rfl (lv_at hl 1 rfl) ?_
            refine g_X12_315 Cx hW (k := 231) (by decide) rfl (v := u_68.1 231 24) rfl dX12_proofRead_138 ?_
            refine sBv (sV (As := [.int (iv 1), .int (iv (u_68.1 231 24))]) (rest := []) (k := 231) Cx (s_X12_wrong l G u_68 (cd := 1) (tk := u_68.1 231 24) iu_68 (by omega) (by omega)) (c_X12_321 Cx rfl rfl (rmk_ok (by omega) (by decide))) hW (by decide) rfl rfl rfl hl.1 rfl (Nat.le_of_ble_eq_true rfl) dX12_proofRead_141 ⟨Nat.le_of_ble_eq_true rfl, Nat.le_of_ble_eq_true rfl⟩) hL (fun u_78 H locs k_79 hW hL => ?_)
            obtain ⟨iu_78, fu_78, gu_78, xu_78⟩ := k_79
            have F_80 := F_70.trans fu_78
            have g_81 : FF S u_78 (fl [20, 21, 24]) := FF.trans g_71 (FF.to gu_78 (fl_sub (by decide)))
            have q_82 : (-2147483648) ≤ u_78.1 231 20 ∧ u_78.1 231 20 ≤ 2147483647 := iu_78.fi 20
            exact sVret Cx hr hlk hW hL ⟨iu_78, F_80, g_81, (fun h => absurd h (by have e9 := (show u_78.1 231 20 = u_78.1 231 20 from rfl); have a9 := xu_78; omega))⟩ dX12_proofRead_144
    · refine lv_aload_n hx hb dX12_proofRead_40 rfl (lv_at hl 1 rfl) ?_
      refine lv_iconst (v := iv 2) hx hb dX12_proofRead_41 (by decide) ?_
      have lk_83 : (uF (uF S 231 24 0) 231 24 1).1 231 24 = 1 := uF_on
      have q_84 : (-2147483648) ≤ S.1 231 20 ∧ S.1 231 20 ≤ 2147483647 := hI.fi 20
      have lk_85 : (uF (uF S 231 24 0) 231 24 1).1 231 20 = S.1 231 20 := (uF_ne (fun h => absurd h.2 (by decide))).trans (uF_ne (fun h => absurd h.2 (by decide)))
      refine sBv (sV (As := [.int (iv 2)]) (rest := []) (k := 231) Cx (s_X12_wantKind l G (uF (uF S 231 24 0) 231 24 1) (k := 2) (K := K) (V := V) (T := T) (pz := 1) i_17 (by omega) ((funext fun j => (uF_a).trans (uF_a) : (uF (uF S 231 24 0) 231 24 1).2.1 244 = S.2.1 244).trans hK) ((funext fun j => (uF_a).trans (uF_a) : (uF (uF S 231 24 0) 231 24 1).2.1 247 = S.2.1 247).trans hV) hE (by omega) (fun h => by have e8 := (show (uF (uF S 231 24 0) 231 24 1).1 231 20 = S.1 231 20 from (uF_ne (fun h => absurd h.2 (by decide))).trans (uF_ne (fun h => absurd h.2 (by decide)))); have a9 := hcu (by have e9 := (show (uF (uF S 231 24 0) 231 24 1).1 231 20 = S.1 231 20 from (uF_ne (fun h => absurd h.2 (by decide))).trans (uF_ne (fun h => absurd h.2 (by decide)))); omega); omega)) (c_X12_328 Cx rfl rfl (rmk_ok (by omega) (by decide))) hW (by decide) rfl rfl rfl hl.1 rfl (Nat.le_of_ble_eq_true rfl) dX12_proofRead_42 ⟨Nat.le_of_ble_eq_true rfl, Nat.le_of_ble_eq_true rfl⟩) hL (fun u_86 H locs k_87 hW hL => ?_)
      obtain ⟨iu_86, fu_86, gu_86, xu_86⟩ := k_87
      have F_88 := F_15.trans fu_86
      have g_89 : FF S u_86 (fl [20, 21, 24]) := FF.trans g_16 (FF.to gu_86 (fl_sub (by decide)))
      refine lv_aload_n hx hb dX12_proofRead_45 rfl (lv_at hl 1 rfl) ?_
      refine lv_bipush (v := iv 47) hx hb dX12_proofRead_46 (by decide) ?_
      have q_90 : (-2147483648) ≤ u_86.1 231 24 ∧ u_86.1 231 24 ≤ 2147483647 := iu_86.fi 24
      have q_91 : (-2147483648) ≤ u_86.1 231 20 ∧ u_86.1 231 20 ≤ 2147483647 := iu_86.fi 20
      refine sBv (sV (As := [.int (iv 47)]) (rest := []) (k := 231) Cx (s_X12_want l G u_86 (sv := 47) (K := K) (V := V) (T := T) (pz := u_86.1 231 24) iu_86 (by omega) ((funext fun j => ((fu_86 244 rfl).2.1 j).trans ((uF_a).trans (uF_a)) : u_86.2.1 244 = S.2.1 244).trans hK) ((funext fun j => ((fu_86 247 rfl).2.1 j).trans ((uF_a).trans (uF_a)) : u_86.2.1 247 = S.2.1 247).trans hV) hE (by omega) (fun h => by have e8 := (show u_86.1 231 20 = u_86.1 231 20 from rfl); have a9 := xu_86 (by have e9 := (show u_86.1 231 20 = u_86.1 231 20 from rfl); omega); omega)) (c_X12_331 Cx rfl rfl (rmk_ok (by omega) (by decide))) hW (by decide) rfl rfl rfl hl.1 rfl (Nat.le_of_ble_eq_true rfl) dX12_proofRead_48 ⟨Nat.le_of_ble_eq_true rfl, Nat.le_of_ble_eq_true rfl⟩) hL (fun u_92 H locs k_93 hW hL => ?_)
      obtain ⟨iu_92, fu_92, gu_92, xu_92⟩ := k_93
      have F_94 := F_88.trans fu_92
      have g_95 : FF S u_92 (fl [20, 21, 24]) := FF.trans g_89 (FF.to gu_92 (fl_sub (by decide)))
      refine lv_aload_n hx hb dX12_proofRead_51 rfl (lv_at hl 1 rfl) ?_
      have q_96 : (-2147483648) ≤ u_92.1 231 24 ∧ u_92.1 231 24 ≤ 2147483647 := iu_92.fi 24
      have q_97 : (-2147483648) ≤ u_92.1 231 20 ∧ u_92.1 231 20 ≤ 2147483647 := iu_92.fi 20
      refine sBv (sV (As := []) (rest := []) (k := 231) Cx (s_X12_wantAbove l G u_92 (K := K) (V := V) (T := T) (pz := u_92.1 231 24) iu_92 ((funext fun j => ((fu_92 244 rfl).2.1 j).trans (((fu_86 244 rfl).2.1 j).trans ((uF_a).trans (uF_a))) : u_92.2.1 244 = S.2.1 244).trans hK) ((funext fun j => ((fu_92 247 rfl).2.1 j).trans (((fu_86 247 rfl).2.1 j).trans ((uF_a).trans (uF_a))) : u_92.2.1 247 = S.2.1 247).trans hV) hE (by omega) (fun h => by have e8 := (show u_92.1 231 20 = u_92.1 231 20 from rfl); have a9 := xu_92 (by have e9 := (show u_92.1 231 20 = u_92.1 231 20 from rfl); omega); omega)) (c_X12_691 Cx rfl rfl (rmk_ok (by omega) (by decide))) hW (by decide) rfl rfl rfl hl.1 rfl (Nat.le_of_ble_eq_true rfl) dX12_proofRead_52 ⟨Nat.le_of_ble_eq_true rfl, Nat.le_of_ble_eq_true rfl⟩) hL (fun u_98 H locs k_99 hW hL => ?_)
      obtain ⟨iu_98, fu_98, gu_98, xu_98⟩ := k_99
      have F_100 := F_94.trans fu_98
      have g_101 : FF S u_98 (fl [20, 21, 24]) := FF.trans g_95 (FF.to gu_98 (fl_sub (by decide)))
      refine lv_aload_n hx hb dX12_proofRead_55 rfl (lv_at hl 1 rfl) ?_
      refine lv_iconst (v := iv 1) hx hb dX12_proofRead_56 (by decide) ?_
      have q_102 : (-2147483648) ≤ u_98.1 231 24 ∧ u_98.1 231 24 ≤ 2147483647 := iu_98.fi 24
      have q_103 : (-2147483648) ≤ u_98.1 231 20 ∧ u_98.1 231 20 ≤ 2147483647 := iu_98.fi 20
      refine sBv (sV (As := [.int (iv 1)]) (rest := []) (k := 231) Cx (s_X12_wantWord l G u_98 (sv := 1) (K := K) (V := V) (T := T) (pz := u_98.1 231 24) iu_98 (by omega) ((funext fun j => ((fu_98 244 rfl).2.1 j).trans (((fu_92 244 rfl).2.1 j).trans (((fu_86 244 rfl).2.1 j).trans ((uF_a).trans (uF_a)))) : u_98.2.1 244 = S.2.1 244).trans hK) ((funext fun j => ((fu_98 247 rfl).2.1 j).trans (((fu_92 247 rfl).2.1 j).trans (((fu_86 247 rfl).2.1 j).trans ((uF_a).trans (uF_a)))) : u_98.2.1 247 = S.2.1 247).trans hV) hE (by omega) (fun h => by have e8 := (show u_98.1 231 20 = u_98.1 231 20 from rfl); have a9 := xu_98 (by have e9 := (show u_98.1 231 20 = u_98.1 231 20 from rfl); omega); omega)) (c_X12_340 Cx rfl rfl (rmk_ok (by omega) (by decide))) hW (by decide) rfl rfl rfl hl.1 rfl (Nat.le_of_ble_eq_true rfl) dX12_proofRead_57 ⟨Nat.le_of_ble_eq_true rfl, Nat.le_of_ble_eq_true rfl⟩) hL (fun u_104 H locs k_105 hW hL => ?_)
      obtain ⟨iu_104, fu_104, gu_104, xu_104⟩ := k_105
      have F_106 := F_100.trans fu_104
      have g_107 : FF S u_104 (fl [20, 21, 24]) := FF.trans g_101 (FF.to gu_104 (fl_sub (by decide)))
      refine lv_aload_n hx hb dX12_proofRead_60 rfl (lv_at hl 1 rfl) ?_
      have q_108 : (-2147483648) ≤ S.1 231 46 ∧ S.1 231 46 ≤ 2147483647 := hI.fi 46
      have lk_109 : u_104.1 231 46 = S.1 231 46 := (gu_104 46 rfl).trans ((gu_98 46 rfl).trans ((gu_92 46 rfl).trans ((gu_86 46 rfl).trans ((uF_ne (fun h => absurd h.2 (by decide))).trans (uF_ne (fun h => absurd h.2 (by decide)))))))
      have q_110 : (-2147483648) ≤ u_104.1 231 24 ∧ u_104.1 231 24 ≤ 2147483647 := iu_104.fi 24
      have q_111 : (-2147483648) ≤ u_104.1 231 20 ∧ u_104.1 231 20 ≤ 2147483647 := iu_104.fi 20
      refine sBv (sV (As := []) (rest := []) (k := 231) Cx (s_X12_pointRead l G u_104 (K := K) (V := V) (T := T) (pz := u_104.1 231 24) iu_104 (by omega) ((funext fun j => ((fu_104 244 rfl).2.1 j).trans (((fu_98 244 rfl).2.1 j).trans (((fu_92 244 rfl).2.1 j).trans (((fu_86 244 rfl).2.1 j).trans ((uF_a).trans (uF_a))))) : u_104.2.1 244 = S.2.1 244).trans hK) ((funext fun j => ((fu_104 247 rfl).2.1 j).trans (((fu_98 247 rfl).2.1 j).trans (((fu_92 247 rfl).2.1 j).trans (((fu_86 247 rfl).2.1 j).trans ((uF_a).trans (uF_a))))) : u_104.2.1 247 = S.2.1 247).trans hV) hE (by omega) (fun h => by have e8 := (show u_104.1 231 20 = u_104.1 231 20 from rfl); have a9 := xu_104 (by have e9 := (show u_104.1 231 20 = u_104.1 231 20 from rfl); omega); omega)) (c_X12_694 Cx rfl rfl (rmk_ok (by omega) (by decide))) hW (by decide) rfl rfl rfl hl.1 rfl (Nat.le_of_ble_eq_true rfl) dX12_proofRead_61 ⟨Nat.le_of_ble_eq_true rfl, Nat.le_of_ble_eq_true rfl⟩) hL (fun u_112 H locs k_113 hW hL => ?_)
      obtain ⟨iu_112, fu_112, gu_112, xu_112⟩ := k_113
      have F_114 := F_106.trans fu_112
      have g_115 : FF S u_112 (fl [20, 21, 24]) := FF.trans g_107 (FF.to gu_112 (fl_sub (by decide)))
      refine lv_aload_n hx hb dX12_proofRead_64 rfl (lv_at hl 1 rfl) ?_
      have q_116 : (-2147483648) ≤ u_112.1 231 24 ∧ u_112.1 231 24 ≤ 2147483647 := iu_112.fi 24
      have q_117 : (-2147483648) ≤ u_112.1 231 20 ∧ u_112.1 231 20 ≤ 2147483647 := iu_112.fi 20
      refine sBv (sV (As := []) (rest := []) (k := 231) Cx (s_X12_treesRead l G u_112 (K := K) (V := V) (T := T) (pz := u_112.1 231 24) iu_112 ((funext fun j => ((fu_112 244 rfl).2.1 j).trans (((fu_104 244 rfl).2.1 j).trans (((fu_98 244 rfl).2.1 j).trans (((fu_92 244 rfl).2.1 j).trans (((fu_86 244 rfl).2.1 j).trans ((uF_a).trans (uF_a)))))) : u_112.2.1 244 = S.2.1 244).trans hK) ((funext fun j => ((fu_112 247 rfl).2.1 j).trans (((fu_104 247 rfl).2.1 j).trans (((fu_98 247 rfl).2.1 j).trans (((fu_92 247 rfl).2.1 j).trans (((fu_86 247 rfl).2.1 j).trans ((uF_a).trans (uF_a)))))) : u_112.2.1 247 = S.2.1 247).trans hV) hE (by omega) (fun h => by have e8 := (show u_112.1 231 20 = u_112.1 231 20 from rfl); have a9 := xu_112 (by have e9 := (show u_112.1 231 20 = u_112.1 231 20 from rfl); omega); omega)) (c_X12_697 Cx rfl rfl (rmk_ok (by omega) (by decide))) hW (by decide) rfl rfl rfl hl.1 rfl (Nat.le_of_ble_eq_true rfl) dX12_proofRead_65 ⟨Nat.le_of_ble_eq_true rfl, Nat.le_of_ble_eq_true rfl⟩) hL (fun u_118 H locs k_119 hW hL => ?_)
      obtain ⟨iu_118, fu_118, gu_118, xu_118⟩ := k_119
      have F_120 := F_114.trans fu_118
      have g_121 : FF S u_118 (fl [20, 21, 24]) := FF.trans g_115 (FF.to gu_118 (fl_sub (by decide)))
      refine lv_goto (tgt := 115) hx hb dX12_proofRead_68 (by decide) ?_
      refine lv_aload_n hx hb dX12_proofRead_115 rfl (lv_at hl 1 rfl) ?_
      have q_122 : (-2147483648) ≤ u_118.1 231 20 ∧ u_118.1 231 20 ≤ 2147483647 := iu_118.fi 20
      refine g_X12_270 Cx hW (k := 231) (by decide) rfl (v := u_118.1 231 20) rfl dX12_proofRead_116 ?_
      refine r_if_ne (tgt := 144) hx hb ⟨(by omega), (by omega)⟩ dX12_proofRead_119 (by decide) (fun c_123 => ?_) (fun c_123 => ?_)
      · exact sVret Cx hr hlk hW hL ⟨iu_118, F_120, g_121, (fun h => absurd h (by have e9 := (show u_118.1 231 20 = u_118.1 231 20 from rfl); omega))⟩ dX12_proofRead_144
      · have b_124 := xu_118 (by have e9 := (show u_118.1 231 20 = u_118.1 231 20 from rfl); omega)
        refine lv_aload_n hx hb dX12_proofRead_122 rfl (lv_at hl 1 rfl) ?_
        refine g_X12_47 Cx hW (k := 231) (by decide) rfl (v := .ref (G.2.2.1 + 244)) (rd_15 iu_118) dX12_proofRead_123 ?_
        refine lv_aload_n hx hb dX12_proofRead_126 rfl (lv_at hl 1 rfl) ?_
        have q_125 : (-2147483648) ≤ u_118.1 231 24 ∧ u_118.1 231 24 ≤ 2147483647 := iu_118.fi 24
        refine g_X12_315 Cx hW (k := 231) (by decide) rfl (v := u_118.1 231 24) rfl dX12_proofRead_127 ?_
        refine rIald Cx hW (k := 244) (by decide) rfl (by decide) (by omega) (by omega) dX12_proofRead_130 ?_
        have q_126 : (-2147483648) ≤ S.2.1 244 (u_118.1 231 24) ∧ S.2.1 244 (u_118.1 231 24) ≤ 2147483647 := hI.ai 244 (u_118.1 231 24)
        refine r_i (b := S.2.1 244 (u_118.1 231 24)) (((fu_118 244 rfl).2.1 (u_118.1 231 24)).trans (((fu_112 244 rfl).2.1 (u_118.1 231 24)).trans (((fu_104 244 rfl).2.1 (u_118.1 231 24)).trans (((fu_98 244 rfl).2.1 (u_118.1 231 24)).trans (((fu_92 244 rfl).2.1 (u_118.1 231 24)).trans (((fu_86 244 rfl).2.1 (u_118.1 231 24)).trans ((uF_a).trans (uF_a)))))))) ?_
        refine lv_iconst (v := iv 5) hx hb dX12_proofRead_131 (by decide) ?_
        refine r_icmp_eq (tgt := 144) hx hb ⟨(by omega), (by omega)⟩ ⟨(by omega), (by omega)⟩ dX12_proofRead_132 (by decide) (fun c_127 => ?_) (fun c_127 => ?_)
        · exact sVret Cx hr hlk hW hL ⟨iu_118, F_120, g_121, (fun h => by have au_118 := xu_118 (by have e9 := (show u_118.1 231 20 = u_118.1 231 20 from rfl); omega); have au_112 := xu_112 au_118.1; have au_104 := xu_104 au_112.1; have au_98 := xu_98 au_104.1; have au_92 := xu_92 au_98.1; have au_86 := xu_86 au_92.1; have e1 : u_92.1 231 24 = 3 := (by have y1 := au_86.2.1.2; have y2 := au_92.2.1.2; omega); have e2 : u_104.1 231 24 = 5 := (by have y1 := au_98.2.1.2; have y2 := au_104.2.1.2; omega); have b1 := au_98.2.1; rw [e1] at b1; have b2 := au_112.2.1; rw [e2, show u_104.1 231 46 = S.1 231 46 from (gu_104 46 rfl).trans ((gu_98 46 rfl).trans ((gu_92 46 rfl).trans ((gu_86 46 rfl).trans ((uF_ne (fun h => absurd h.2 (by decide))).trans (uF_ne (fun h => absurd h.2 (by decide)))))))] at b2; exact ⟨by omega, .inl ⟨by omega, au_86.2.1.1, b1.1.1, b1.1.2, _, b2, _, au_118.2.1, by omega⟩⟩)⟩ dX12_proofRead_144
        · refine lv_aload_n hx hb dX12_proofRead_135 rfl (lv_at hl 1 rfl) ?_
          refine lv_iconst (v := iv 1) hx hb dX12_proofRead_136 (by decide) ?_
          refine lv_aload_n hx hb dX12_proofRead_137 rfl (lv_at hl 1 rfl) ?_
          refine g_X12_315 Cx hW (k := 231) (by decide) rfl (v := u_118.1 231 24) rfl dX12_proofRead_138 ?_
          refine sBv (sV (As := [.int (iv 1), .int (iv (u_118.1 231 24))]) (rest := []) (k := 231) Cx (s_X12_wrong l G u_118 (cd := 1) (tk := u_118.1 231 24) iu_118 (by omega) (by omega)) (c_X12_321 Cx rfl rfl (rmk_ok (by omega) (by decide))) hW (by decide) rfl rfl rfl hl.1 rfl (Nat.le_of_ble_eq_true rfl) dX12_proofRead_141 ⟨Nat.le_of_ble_eq_true rfl, Nat.le_of_ble_eq_true rfl⟩) hL (fun u_128 H locs k_129 hW hL => ?_)
          obtain ⟨iu_128, fu_128, gu_128, xu_128⟩ := k_129
          have F_130 := F_120.trans fu_128
          have g_131 : FF S u_128 (fl [20, 21, 24]) := FF.trans g_121 (FF.to gu_128 (fl_sub (by decide)))
          have q_132 : (-2147483648) ≤ u_128.1 231 20 ∧ u_128.1 231 20 ≤ 2147483647 := iu_128.fi 20
          exact sVret Cx hr hlk hW hL ⟨iu_128, F_130, g_131, (fun h => absurd h (by have e9 := (show u_128.1 231 20 = u_128.1 231 20 from rfl); have a9 := xu_128; omega))⟩ dX12_proofRead_144
