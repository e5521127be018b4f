section
variable {n : Int} {A : Int → Int → Int} {wh : Int → Int} {hv vt vb : Int} {kp vp : Int → Int} {t0 c0 : Int} {R0 : Int → Int → Int} {w0 : Int} {wr0 wk0 wv0 : Int → Int} {F : Nat} {t c : Int} {R : Int → Int → Int} {w : Int} {wr wk wv : Int → Int}
theorem HS.br (h : HS n A wh hv vt vb kp vp t0 c0 R0 w0 wr0 wk0 wv0 (F + 1) t c R w wr wk wv) (k : kp t = 12) (hx : okx n wh (vp (t + 1))) (hc : c < 40) : HS n A wh hv vt vb kp vp t0 c0 R0 w0 wr0 wk0 wv0 F (t + 3) (c + 1) (upR R (c + 1) (limr (vp (t + 1)) (vp (t + 2)) 0)) (w + 1) (upf wr w c) (upf wk w (vp (t + 1))) (upf wv w (vp (t + 2))) := by
  obtain ⟨h1, h2, ⟨f, e, h3⟩, h4⟩ := h
  have h0 := h1.1; have h10 := h1.2.1
  refine ⟨h1.br hc ⟨hx.1, hx.2.1⟩, upR_0 h2 (by omega), ?_, fun x z => h4 x ⟨fun _ => ⟨fun y => absurd hx y, fun _ => ⟨fun y => by exfalso; omega, fun _ => z⟩⟩, fun y => absurd k y⟩⟩
  obtain ⟨g, _, q | q⟩ := gTr_s h3 (by omega)
  · exact ⟨g, e, q.2.2.2⟩
  · exfalso; have := q.1; omega
theorem HS.brx {r : Int} (h : HS n A wh hv vt vb kp vp t0 c0 R0 w0 wr0 wk0 wv0 (F + 1) t c R w wr wk wv) (k : kp t = 12) (h4 : ¬ okx n wh (vp (t + 1)) → r = 4) (h6 : okx n wh (vp (t + 1)) → 40 ≤ c → r = 6) (hn : ¬ (okx n wh (vp (t + 1)) ∧ c < 40)) : HT n (wct wh n.toNat) wh hv vt vb kp vp 3000 t0 c0 R0 w0 wr0 wk0 wv0 r :=
  h.2.2.2 r ⟨fun _ => ⟨fun y => h4 y, fun y => ⟨fun z => h6 y z, fun z => absurd ⟨y, z⟩ hn⟩⟩, fun y => absurd k y⟩
/-- what a pair's TREE has said -/
def PTR (n : Int) (wh : Int → Int) (hv vt vb : Int) (kp vp : Int → Int) (t c : Int) (R : Int → Int → Int) (u : sS) (a r : Int) : Prop := (prs c kp vp 30001 (t + 2) 0 (fun _ => 0) = none → r = 4) ∧ ∀ ff e, prs c kp vp 30001 (t + 2) 0 (fun _ => 0) = some (ff, e) → (kp t = 13 → (wct wh n.toNat ≠ n → r = 4) ∧ (wct wh n.toNat = n → ((40 ≤ c ∨ lgx n c R ff (vp (t + 1))) → r = 6) ∧ (¬ (40 ≤ c ∨ lgx n c R ff (vp (t + 1))) → r = 0 ∧ a = e ∧ RWv u n (c + 1) (upR R (c + 1) (fun j => smf ff R j c.toNat / vp (t + 1)))))) ∧ (kp t ≠ 13 → (¬ leaf n c R wh ff (kp t) hv (vp (t + 1)) vt vb → r = 4) ∧ (leaf n c R wh ff (kp t) hv (vp (t + 1)) vt vb → r = 0 ∧ a = e ∧ RWv u n c R))
theorem HS.px {u : sS} {a r : Int} (h : HS n A wh hv vt vb kp vp t0 c0 R0 w0 wr0 wk0 wv0 (F + 1) t c R w wr wk wv) (k : kp t ≠ 12) (hp : PTR n wh hv vt vb kp vp t c R u a r) (hr : r ≠ 0) : HT n (wct wh n.toNat) wh hv vt vb kp vp 3000 t0 c0 R0 w0 wr0 wk0 wv0 r :=
  h.2.2.2 r ⟨fun y => absurd y k, fun _ => ⟨hp.1, fun ff e q => ⟨fun z => ⟨((hp.2 ff e q).1 z).1, fun y => ⟨(((hp.2 ff e q).1 z).2 y).1, fun x => absurd ((((hp.2 ff e q).1 z).2 y).2 x).1 hr⟩⟩, fun z => ⟨((hp.2 ff e q).2 z).1, fun y => absurd (((hp.2 ff e q).2 z).2 y).1 hr⟩⟩⟩⟩
theorem HS.pg (h : HS n A wh hv vt vb kp vp t0 c0 R0 w0 wr0 wk0 wv0 (F + 1) t c R w wr wk wv) (k : kp t ≠ 12) {ff : Int → Int} {e : Int} (hq : prs c kp vp 30001 (t + 2) 0 (fun _ => 0) = some (ff, e)) : ∃ g x, gTr kp vp g e (if kp t = 13 then w + 1 else w + 1 - 1) = some x := by
  obtain ⟨h1, h2, ⟨f, x, h3⟩, h4⟩ := h
  have h0 := h1.1
  obtain ⟨g, _, q | q⟩ := gTr_s h3 (by omega)
  · exact absurd q.1 k
  · obtain ⟨_, _, _, y, q1, q2⟩ := q
    rw [prs_g _ _ _ _ _ _ _ q1 hq]
    exact ⟨g, x, q2⟩
theorem HS.pc {u : sS} {a : Int} (h : HS n A wh hv vt vb kp vp t0 c0 R0 w0 wr0 wk0 wv0 (F + 1) t c R w wr wk wv) (k : kp t = 13) (hp : PTR n wh hv vt vb kp vp t c R u a 0) : ∃ R2, RWv u n (c + 1) R2 ∧ HS n A wh hv vt vb kp vp t0 c0 R0 w0 wr0 wk0 wv0 F a (c + 1) R2 w wr wk wv := by
  cases e : prs c kp vp 30001 (t + 2) 0 (fun _ => 0) with
  | none => exact absurd (hp.1 e) (by decide)
  | some y =>
    obtain ⟨ff, e1⟩ := y
    have q := (hp.2 ff e1 e).1 k
    by_cases z : wct wh n.toNat = n
    · have q := q.2 z
      by_cases b : 40 ≤ c ∨ lgx n c R ff (vp (t + 1))
      · exact absurd (q.1 b) (by decide)
      · obtain ⟨_, q1, q2⟩ := q.2 b
        obtain ⟨g, x, hg⟩ := h.pg (by omega) e
        rw [if_pos k] at hg
        obtain ⟨h1, h2, _, h4⟩ := h
        have h0 := h1.1; have h10 := h1.2.1
        refine ⟨_, q2, h1.cut (by omega), upR_0 h2 (by omega), ⟨g, x, by rw [q1]; exact hg⟩, fun x hx => h4 x ⟨fun y => absurd y (by omega), fun _ => ⟨fun y => absurd (e.symm.trans y) (by intro z; cases z), fun ff2 e2 q3 => ?_⟩⟩⟩
        obtain ⟨rfl, rfl⟩ := Prod.mk.inj (Option.some.inj (e.symm.trans q3))
        exact ⟨fun _ => ⟨fun y => absurd z y, fun _ => ⟨fun y => absurd y b, fun _ => by rw [← q1]; exact hx⟩⟩, fun y => absurd k y⟩
    · exact absurd (q.1 z) (by decide)
theorem HS.pl {u : sS} {a : Int} (h : HS n A wh hv vt vb kp vp t0 c0 R0 w0 wr0 wk0 wv0 (F + 1) t c R w wr wk wv) (k : kp t ≠ 12) (k3 : kp t ≠ 13) (hp : PTR n wh hv vt vb kp vp t c R u a 0) : RWv u n c R ∧ (w = 0 → HT n (wct wh n.toNat) wh hv vt vb kp vp 3000 t0 c0 R0 w0 wr0 wk0 wv0 0) ∧ (w ≠ 0 → HS n A wh hv vt vb kp vp t0 c0 R0 w0 wr0 wk0 wv0 F a (wr (w - 1) + 1) (upR R (wr (w - 1) + 1) (limr (wk (w - 1)) (wv (w - 1)) 1)) (w - 1) wr wk wv) := by
  cases e : prs c kp vp 30001 (t + 2) 0 (fun _ => 0) with
  | none => exact absurd (hp.1 e) (by decide)
  | some y =>
    obtain ⟨ff, e1⟩ := y
    have q := (hp.2 ff e1 e).2 k3
    by_cases z : leaf n c R wh ff (kp t) hv (vp (t + 1)) vt vb
    · obtain ⟨_, q1, q2⟩ := q.2 z
      obtain ⟨g, x, hg⟩ := h.pg k e
      rw [if_neg k3] at hg
      obtain ⟨h1, h2, _, h4⟩ := h
      have go : ∀ x, ((w = 0 → x = 0) ∧ (w ≠ 0 → HT n (wct wh n.toNat) wh hv vt vb kp vp F e1 (wr (w - 1) + 1) (upR R (wr (w - 1) + 1) (limr (wk (w - 1)) (wv (w - 1)) 1)) (w - 1) wr wk wv x)) → HT n (wct wh n.toNat) wh hv vt vb kp vp 3000 t0 c0 R0 w0 wr0 wk0 wv0 x := fun x hx => h4 x ⟨fun y => absurd y k, fun _ => ⟨fun y => absurd (e.symm.trans y) (by intro z; cases z), fun ff2 e2 q3 => by
        obtain ⟨rfl, rfl⟩ := Prod.mk.inj (Option.some.inj (e.symm.trans q3))
        exact ⟨fun y => absurd y k3, fun _ => ⟨fun y => absurd z y, fun _ => hx⟩⟩⟩⟩
      have h0 := h1.1
      refine ⟨q2, fun hw => go 0 ⟨fun _ => rfl, fun y => absurd hw y⟩, fun hw => ⟨h1.sec hw, upR_0 h2 (by have := (h1.2.2.2 (w - 1) (by omega) (by omega)).1; omega), ⟨g, x, by rw [q1, show w - 1 + 1 = w + 1 - 1 by omega]; exact hg⟩, fun x hx => go x ⟨fun y => absurd y hw, fun _ => by rw [← q1]; exact hx⟩⟩⟩
    · exact absurd (q.1 z) (by decide)
theorem HS.end (h : HS n A wh hv vt vb kp vp t0 c0 R0 w0 wr0 wk0 wv0 0 t c R w wr wk wv) : HT n (wct wh n.toNat) wh hv vt vb kp vp 3000 t0 c0 R0 w0 wr0 wk0 wv0 6 := h.2.2.2 6 rfl
/-- what stands at a TREE -/
theorem HS.k (h : HS n A wh hv vt vb kp vp t0 c0 R0 w0 wr0 wk0 wv0 F t c R w wr wk wv) : (kp t = 12 ∧ kp (t + 1) = 2 ∧ kp (t + 2) = 2) ∨ ((kp t = 13 ∨ kp t = 14 ∨ kp t = 15) ∧ kp (t + 1) = 2 ∧ 0 < vp (t + 1) ∧ ∃ x, gPr kp 30001 (t + 2) = some x) := by
  obtain ⟨h1, h2, ⟨f, x, h3⟩, h4⟩ := h
  have h0 := h1.1
  obtain ⟨g, _, q | q⟩ := gTr_s h3 (by omega)
  · exact .inl ⟨q.1, q.2.1, q.2.2.1⟩
  · obtain ⟨a, b, c, y, d, _⟩ := q; exact .inr ⟨a, b, c, y, d⟩
end
set_option maxRecDepth 100000 in
set_option maxHeartbeats 4000000 in
theorem b_X1_holdTrees (l : Launch) (G : sG) (S : sS) {hv : Int} {T : Int} {kp vp : Int → Int} {o : Nat} {n mm mx : Int} {A : Int → Int → Int} {wh : Int → Int} {cc : Int} {RR : Int → Int → Int} {w : Int} {wr wk wv : Int → Int} {vt vb : Int} (hI : cX G S 0 0 0) (hhv : 0 ≤ hv ∧ hv ≤ 1) (hCR : CQ G T kp vp S) (hTT : T ≤ 30001) (hm : mdl o) (hmr : S.2.2.2 188 15 = .ref (G.2.2.1 + o)) (hMD : Hd (MDv S o n mm mx A wh)) (hR : Hd (RWv S n cc RR)) (hWT : Hd (WTv S w wr wk wv)) (hKT : Hd (KT T kp)) (hRA : Hd (∀ j, 0 ≤ j → j ≤ n → RR 0 j = A 0 j)) (hvt : bv S 209 = vt) (hvb : bv S 211 = vb) (hb9 : Hd (bs S 209)) (hb11 : Hd (bs S 211)) (h7 : S.1 209 1 ≤ 7 ∧ S.1 211 1 ≤ 7) (hwok : Hd (WOK n cc w wr wk)) (hgt : Hd (∃ f e, gTr kp vp f (S.1 189 3) (w + 1) = some e)) (hfk : S.1 188 16 = 0) : Met l yX1_holdTrees (.code yX1_holdTrees cX1_holdTrees 6 (some .boolean) :: tb) (rmk 7 0 0) (sPc G 294 S [.ref (G.2.2.1 + 188), .int (iv hv)]) (sQi G 294 (fun r u => cX G u 0 0 0 ∧ Fr S u pHT ∧ (CQ G T kp vp u ∧ (0 ≤ r ∧ r ≤ 1) ∧ Hd (HT n (wct wh n.toNat) wh hv vt vb kp vp 3000 (S.1 189 3) cc RR w wr wk wv (u.1 188 16))))) 0 0 (sF G) := by
  refine sEnter (by decide) (Nat.le_of_ble_eq_true rfl) ?_
  intro p e s m args below meth c Cx hr hlk hnm hW ls hl
  have Cx : sC G p m c cX1_holdTrees 6 s args RX1 := Cx
  obtain ⟨hx, hb, hml, hown, hts⟩ := id Cx.1
  have hL : sL G [] := sL_nil
  have hl : lv_has ls 6 [(0, .ref (G.2.2.1 + 188)), (1, .int (iv hv))] := hl
  have hW0 := hW
  have hMn := hMD.1; have hMm := hMD.2.1; have hMx := hMD.2.2.1; have hn12 : 0 ≤ S.1 o 2 ∧ S.1 o 2 ≤ 12 := hI.fi o 2 3 (mdl_k hm) hm.1; have hm16 : 0 ≤ S.1 o 3 ∧ S.1 o 3 ≤ 16 := hI.fi o 3 3 (mdl_k hm) hm.1
  have hat0 : 0 ≤ S.1 189 3 ∧ S.1 189 3 ≤ 1000000000 := hI.fi 189 3 4 (by decide) rfl
  refine lv_iconst (v := iv 1) hx hb dX1_holdTrees_0 (by decide) ?_
  refine lv_istore_n (lv' := [(2, .int (iv 1)), (0, .ref (G.2.2.1 + 188)), (1, .int (iv hv))]) hx hb dX1_holdTrees_1 rfl hl (by decide) rfl (fun ls hl => ?_)
  have loop_2 : ∀ (fuel : Nat) (S2 : sS) (tr : Int) (H : Heap) (locs : List Loc) (ls : Array Slot), (3001 - tr).toNat < fuel → (cX G S2 0 0 0) → (Fr S S2 pHT) → (Fr S S2 pHT) → (1 ≤ tr ∧ tr ≤ 3001) → (S2.1 188 16 = 0) → (S2.2.2.2 188 15 = .ref (G.2.2.1 + o)) → (Hd (∃ c R w2 wr2 wk2 wv2, RWv S2 n c R ∧ WTv S2 w2 wr2 wk2 wv2 ∧ HS n A wh hv vt vb kp vp (S.1 189 3) cc RR w wr wk wv (3001 - tr).toNat (S2.1 189 3) c R w2 wr2 wk2 wv2)) → (CQ G T kp vp S2) → sW G 294 S2 H → sL G locs → lv_has ls 6 [(2, .int (iv tr)), (0, .ref (G.2.2.1 + 188)), (1, .int (iv hv))] → W p l e (rmk 7 0 0) s m args below meth c H locs 0 0 (MQ below (sQi G 294 (fun r u => cX G u 0 0 0 ∧ Fr S u pHT ∧ (CQ G T kp vp u ∧ (0 ≤ r ∧ r ≤ 1) ∧ Hd (HT n (wct wh n.toNat) wh hv vt vb kp vp 3000 (S.1 189 3) cc RR w wr wk wv (u.1 188 16))))) args s 0 0 (sF G)) (F0 m 2 ls []) := by
    intro fuel
    induction fuel with
    | zero => intro S2 tr H locs ls hmeas hI2 hFm2 hL2_ htr hfl hmr2 hst hCR2 hW hL hl; exact absurd hmeas (Nat.not_lt_zero _)
    | succ fuel ih_2 =>
      intro S2 tr H locs ls hmeas hI2 hFm2 hL2_ htr hfl hmr2 hst hCR2 hW hL hl
      obtain ⟨c1, R1, w1, wr1, wk1, wv1, hR1, hW1, hS1⟩ := hst
      have hok := hS1.1
      have hok0 := hok.1; have hok1 := hok.2.1; have hok2 := hok.2.2.1; have hok3 : Hd _ := hok.2.2.2
      clear hok
      have hRc1 := hR1.2.1; have hRn1 := hR1.1; have hWt1 := hW1.1
      have hk1 : Hd _ := hS1.k
      have hkn0 : kp (S2.1 189 3) ≠ 0 := by rcases hk1 with z | z <;> omega
      have hT0 := (hKT _ hkn0).2
      have hkr : 12 ≤ kp (S2.1 189 3) ∧ kp (S2.1 189 3) ≤ 15 := by rcases hk1 with z | z <;> omega
      have hk11 : kp (S2.1 189 3 + 1) = 2 := by rcases hk1 with z | z; (exact z.2.1); (exact z.2.1)
      have hT1 := (hKT (S2.1 189 3 + 1) (by omega)).2
      have hat2 : 0 ≤ S2.1 189 3 ∧ S2.1 189 3 ≤ 1000000000 := hI2.fi 189 3 4 (by decide) rfl
      refine lv_iload_n hx hb dX1_holdTrees_2 rfl (lv_at hl 0 rfl) ?_
      refine lv_sipush (v := iv 3000) hx hb dX1_holdTrees_3 (by decide) ?_
      refine r_icmp_gt (tgt := 99) hx hb ⟨(by omega), (by omega)⟩ ⟨(by omega), (by omega)⟩ dX1_holdTrees_6 (by decide) (fun c_1 => ?_) (fun c_1 => ?_)
      · refine lv_aload_n hx hb dX1_holdTrees_99 rfl (lv_at hl 1 rfl) ?_
        refine lv_bipush (v := iv 6) hx hb dX1_holdTrees_100 (by decide) ?_
        refine lv_aload_n hx hb dX1_holdTrees_102 rfl (lv_at hl 1 rfl) ?_
        refine g_X1_12 Cx hW (k := 188) (by decide) rfl (v := .ref (G.2.2.1 + 189)) (rf_188_0 hI2) dX1_holdTrees_103 ?_
        have q_2 : 0 ≤ S2.1 189 3 ∧ S2.1 189 3 ≤ 1000000000 := hI2.fi 189 3 4 (by decide) rfl
        have q_3 : 0 ≤ S2.1 189 2 ∧ S2.1 189 2 ≤ 30001 := hI2.fi 189 2 4 (by decide) rfl
        refine sBi (sV (As := []) (rest := [.int (iv 6), .ref (G.2.2.1 + 188)]) (k := 189) Cx (s_X4_start l G S2  hI2) (c_X1_91 Cx rfl rfl (rmk_ok (by omega) (by decide))) hW (by decide) rfl rfl rfl hl.1 rfl (Nat.le_of_ble_eq_true rfl) dX1_holdTrees_106 ⟨Nat.le_of_ble_eq_true rfl, Nat.le_of_ble_eq_true rfl⟩) hL (fun r_6 u_4 H locs k_5 hW hL => ?_)
        obtain ⟨eu_4, xu_4⟩ := k_5
        rw [eu_4] at hW
        have q_7 : 0 ≤ S2.1 188 14 ∧ S2.1 188 14 ≤ 40 := hI2.fi 188 14 1 (by decide) rfl
        refine sBi (sV (As := [.int (iv 6), .int (iv r_6)]) (rest := []) (k := 188) Cx (b_X1_fail l G S2 (kn := 6) (wz := r_6) hI2 (by omega) (by omega)) (c_X1_95 Cx rfl rfl (rmk_ok (by omega) (by decide))) hW (by decide) rfl rfl rfl hl.1 rfl (Nat.le_of_ble_eq_true rfl) dX1_holdTrees_109 ⟨Nat.le_of_ble_eq_true rfl, Nat.le_of_ble_eq_true rfl⟩) hL (fun r_10 u_8 H locs k_9 hW hL => ?_)
        obtain ⟨iu_8, fu_8, xu_8⟩ := k_9
        have F_11 := hFm2.trans (fu_8.to (p1_sub rfl))
        have F_12 := hL2_.trans (fu_8.to (p1_sub rfl))
        have cr_13 : CQ G T kp vp u_8 := hCR2.fr fu_8 rfl rfl rfl rfl
        have q_14 : (-2147483648) ≤ u_8.1 188 16 ∧ u_8.1 188 16 ≤ 2147483647 := iu_8.fi 188 16 1 (by decide) rfl
        exact sZret Cx hr hlk hW hL (by omega) ⟨iu_8, F_11, ⟨cr_13, (by omega), (by rw [(show u_8.1 188 16 = _ from xu_8.2.1)]; have h := hS1; rw [show (3001 - tr).toNat = 0 by omega] at h; exact h.end)⟩⟩ dX1_holdTrees_112
      · obtain ⟨F1, hF1⟩ : ∃ F, (3001 - tr).toNat = F + 1 := ⟨(3000 - tr).toNat, by omega⟩
        rw [hF1] at hS1
        refine lv_aload_n hx hb dX1_holdTrees_9 rfl (lv_at hl 1 rfl) ?_
        refine g_X1_12 Cx hW (k := 188) (by decide) rfl (v := .ref (G.2.2.1 + 189)) (rf_188_0 hI2) dX1_holdTrees_10 ?_
        have q_15 : 0 ≤ S2.1 189 3 ∧ S2.1 189 3 ≤ 1000000000 := hI2.fi 189 3 4 (by decide) rfl
        have q_16 : 0 ≤ S2.1 189 2 ∧ S2.1 189 2 ≤ 30001 := hI2.fi 189 2 4 (by decide) rfl
        refine sBi (sV (As := []) (rest := []) (k := 189) Cx (s_X4_kind l G S2  hI2) (c_X1_109 Cx rfl rfl (rmk_ok (by omega) (by decide))) hW (by decide) rfl rfl rfl hl.1 rfl (Nat.le_of_ble_eq_true rfl) dX1_holdTrees_13 ⟨Nat.le_of_ble_eq_true rfl, Nat.le_of_ble_eq_true rfl⟩) hL (fun r_19 u_17 H locs k_18 hW hL => ?_)
        obtain ⟨eu_17, xu_17⟩ := k_18
        rw [eu_17] at hW
        have hkd : r_19 = kp (S2.1 189 3) := hCR2.k hat2.1 hT0 xu_17.2.1 xu_17.2.2
        refine lv_istore_n (lv' := [(3, .int (iv r_19)), (2, .int (iv tr)), (0, .ref (G.2.2.1 + 188)), (1, .int (iv hv))]) hx hb dX1_holdTrees_16 rfl hl (by decide) rfl (fun ls hl => ?_)
        refine lv_aload_n hx hb dX1_holdTrees_17 rfl (lv_at hl 2 rfl) ?_
        refine g_X1_12 Cx hW (k := 188) (by decide) rfl (v := .ref (G.2.2.1 + 189)) (rf_188_0 hI2) dX1_holdTrees_18 ?_
        refine sBi (sV (As := []) (rest := []) (k := 189) Cx (s_X4_start l G S2  hI2) (c_X1_91 Cx rfl rfl (rmk_ok (by omega) (by decide))) hW (by decide) rfl rfl rfl hl.1 rfl (Nat.le_of_ble_eq_true rfl) dX1_holdTrees_21 ⟨Nat.le_of_ble_eq_true rfl, Nat.le_of_ble_eq_true rfl⟩) hL (fun r_22 u_20 H locs k_21 hW hL => ?_)
        obtain ⟨eu_20, xu_20⟩ := k_21
        rw [eu_20] at hW
        refine lv_istore (lv' := [(4, .int (iv r_22)), (3, .int (iv r_19)), (2, .int (iv tr)), (0, .ref (G.2.2.1 + 188)), (1, .int (iv hv))]) hx hb dX1_holdTrees_24 hl (by decide) rfl (fun ls hl => ?_)
        refine lv_aload_n hx hb dX1_holdTrees_26 rfl (lv_at hl 3 rfl) ?_
        refine g_X1_12 Cx hW (k := 188) (by decide) rfl (v := .ref (G.2.2.1 + 189)) (rf_188_0 hI2) dX1_holdTrees_27 ?_
        refine sBv (sV (As := []) (rest := []) (k := 189) Cx (s_X4_advance l G S2  hI2 (by omega)) (c_X1_119 Cx rfl rfl (rmk_ok (by omega) (by decide))) hW (by decide) rfl rfl rfl hl.1 rfl (Nat.le_of_ble_eq_true rfl) dX1_holdTrees_30 ⟨Nat.le_of_ble_eq_true rfl, Nat.le_of_ble_eq_true rfl⟩) hL (fun u_23 H locs k_24 hW hL => ?_)
        obtain ⟨iu_23, fu_23, xu_23⟩ := k_24
        have F_25 := hFm2.trans (fu_23.to (p1_sub rfl))
        have F_26 := hL2_.trans (fu_23.to (p1_sub rfl))
        have at_u_23 : u_23.1 189 3 = S2.1 189 3 + 1 := by rw [xu_23]; exact uF_on
        have cr_27 : CQ G T kp vp u_23 := by rw [xu_23]; exact hCR2.F (by decide)
        refine lv_iload_n hx hb dX1_holdTrees_33 rfl (lv_at hl 1 rfl) ?_
        refine lv_bipush (v := iv 12) hx hb dX1_holdTrees_34 (by decide) ?_
        refine r_icmp_ne (tgt := 46) hx hb ⟨(by omega), (by omega)⟩ ⟨(by omega), (by omega)⟩ dX1_holdTrees_36 (by decide) (fun c_28 => ?_) (fun c_28 => ?_)
        · have hn12 : kp (S2.1 189 3) ≠ 12 := by omega
          have hpx : 0 < vp (S2.1 189 3 + 1) ∧ ∃ x, gPr kp 30001 (S2.1 189 3 + 2) = some x := by rcases hk1 with z | z; (exfalso; omega); (exact z.2.2)
          have hpx0 := hpx.1; have hpx1 : Hd _ := hpx.2; clear hpx
          refine lv_aload_n hx hb dX1_holdTrees_46 rfl (lv_at hl 3 rfl) ?_
          refine lv_iload_n hx hb dX1_holdTrees_47 rfl (lv_at hl 1 rfl) ?_
          refine lv_iload_n hx hb dX1_holdTrees_48 rfl (lv_at hl 4 rfl) ?_
          have q_29 : 0 ≤ u_23.1 189 3 ∧ u_23.1 189 3 ≤ 1000000000 := iu_23.fi 189 3 4 (by decide) rfl
          have q_30 : 0 ≤ S.1 209 1 ∧ S.1 209 1 ≤ 32 := hI.fi 209 1 0 (by decide) rfl
          have lk_31 : u_23.1 209 1 = S.1 209 1 := ((fu_23 209 rfl).1 1).trans ((hL2_ 209 rfl).1 1)
          have q_32 : 0 ≤ S.1 211 1 ∧ S.1 211 1 ≤ 32 := hI.fi 211 1 0 (by decide) rfl
          have lk_33 : u_23.1 211 1 = S.1 211 1 := ((fu_23 211 rfl).1 1).trans ((hL2_ 211 rfl).1 1)
          refine sBi (sV (As := [.int (iv r_19), .int (iv hv)]) (rest := []) (k := 188) Cx (b_X1_pairTree l G u_23 (wd := r_19) (hv := hv) (o := o) (n := n) (mm := mm) (mx := mx) (A := A) (wh := wh) (T := T) (kp := kp) (vp := vp) (cc := c1) (RR := R1) (vt := vt) (vb := vb) iu_23 (by omega) (by omega) cr_27 (by omega) hm (((fu_23 188 rfl).2.2.2 15).trans hmr2) (MDv.of hMD (show u_23.1 o 2 = S.1 o 2 from ((fu_23 o (p1_no (tau_ne hm.1 (rfl : tau 189 = .inl 4) (fun h => by cases h)))).1 2).trans ((hL2_ o (mo_pHT hm).1).1 2)) (show u_23.1 o 3 = S.1 o 3 from ((fu_23 o (p1_no (tau_ne hm.1 (rfl : tau 189 = .inl 4) (fun h => by cases h)))).1 3).trans ((hL2_ o (mo_pHT hm).1).1 3)) (show u_23.1 o 4 = S.1 o 4 from ((fu_23 o (p1_no (tau_ne hm.1 (rfl : tau 189 = .inl 4) (fun h => by cases h)))).1 4).trans ((hL2_ o (mo_pHT hm).1).1 4)) (show u_23.2.1 (o + 1) = S.2.1 (o + 1) from funext fun x => ((fu_23 (o + 1) (p1_no (tau_ne hm.2.1 (rfl : tau 189 = .inl 4) (fun h => by cases h)))).2.1 x).trans ((hL2_ (o + 1) (mo_pHT hm).2.1).2.1 x)) (show u_23.2.1 (o + 2) = S.2.1 (o + 2) from funext fun x => ((fu_23 (o + 2) (p1_no (tau_ne hm.2.2.1 (rfl : tau 189 = .inl 4) (fun h => by cases h)))).2.1 x).trans ((hL2_ (o + 2) (mo_pHT hm).2.2).2.1 x))) (RWv.of hR1 (show u_23.1 193 8 = S2.1 193 8 from (fu_23 193 rfl).1 8) (show u_23.1 193 9 = S2.1 193 9 from (fu_23 193 rfl).1 9) (show u_23.2.1 194 = S2.2.1 194 from funext fun x => (fu_23 194 rfl).2.1 x)) (by omega) hKT (hS1.2.1) (show bv u_23 209 = vt from (bv_fr fu_23 rfl rfl).trans ((bv_fr hL2_ rfl rfl).trans (hvt))) (show bv u_23 211 = vb from (bv_fr fu_23 rfl rfl).trans ((bv_fr hL2_ rfl rfl).trans (hvb))) (show Hd (bs u_23 209) from (bs_fr fu_23 rfl (bs_fr hL2_ rfl hb9))) (show Hd (bs u_23 211) from (bs_fr fu_23 rfl (bs_fr hL2_ rfl hb11))) (by omega) (by rw [show u_23.1 189 3 = S2.1 189 3 + 1 by omega]; exact ⟨⟨hk11, hT1⟩, hpx0⟩) (by rw [show u_23.1 189 3 + 1 = S2.1 189 3 + 2 by omega]; exact hpx1)) (c_X1_196 Cx rfl rfl (rmk_ok (by omega) (by decide))) hW (by decide) rfl rfl rfl hl.1 rfl (Nat.le_of_ble_eq_true rfl) dX1_holdTrees_49 ⟨Nat.le_of_ble_eq_true rfl, Nat.le_of_ble_eq_true rfl⟩) hL (fun r_36 u_34 H locs k_35 hW hL => ?_)
          obtain ⟨iu_34, fu_34, xu_34⟩ := k_35
          have F_37 := F_25.trans (fu_34.to pPT_HT)
          have F_38 := F_26.trans (fu_34.to pPT_HT)
          have hptr : Hd (PTR n wh hv vt vb kp vp (S2.1 189 3) c1 R1 u_34 (u_34.1 189 3) r_36) := by have h1 := (show _ → _ from xu_34.2.2.2.1); have h2 := (show ∀ ff e, _ → _ from xu_34.2.2.2.2); rw [show u_23.1 189 3 = S2.1 189 3 + 1 by omega, show S2.1 189 3 + 1 + 1 = S2.1 189 3 + 2 by omega] at h1 h2; rw [hkd] at h2; exact ⟨h1, h2⟩
          have cr_39 : CQ G T kp vp u_34 := xu_34.1
          refine lv_istore (lv' := [(5, .int (iv r_36)), (4, .int (iv r_22)), (3, .int (iv r_19)), (2, .int (iv tr)), (0, .ref (G.2.2.1 + 188)), (1, .int (iv hv))]) hx hb dX1_holdTrees_52 hl (by decide) rfl (fun ls hl => ?_)
          refine lv_iload hx hb dX1_holdTrees_54 (lv_at hl 0 rfl) ?_
          refine r_if_eq (tgt := 68) hx hb ⟨(by omega), (by omega)⟩ dX1_holdTrees_56 (by decide) (fun c_40 => ?_) (fun c_40 => ?_)
          · have hp0 : r_36 = 0 := by omega
            have hptr0 : Hd (PTR n wh hv vt vb kp vp (S2.1 189 3) c1 R1 u_34 (u_34.1 189 3) 0) := by have h := hptr; rw [hp0] at h; exact h
            refine lv_iload_n hx hb dX1_holdTrees_68 rfl (lv_at hl 2 rfl) ?_
            refine lv_bipush (v := iv 14) hx hb dX1_holdTrees_69 (by decide) ?_
            refine r_icmp_eq (tgt := 80) hx hb ⟨(by omega), (by omega)⟩ ⟨(by omega), (by omega)⟩ dX1_holdTrees_71 (by decide) (fun c_41 => ?_) (fun c_41 => ?_)
            · have hpl : Hd _ := hS1.pl hn12 (by omega) hptr0
              refine lv_aload_n hx hb dX1_holdTrees_80 rfl (lv_at hl 4 rfl) ?_
              have q_42 : 0 ≤ S2.1 188 14 ∧ S2.1 188 14 ≤ 40 := hI2.fi 188 14 1 (by decide) rfl
              refine g_X1_103 Cx hW (k := 188) (by decide) rfl (v := S2.1 188 14) (((fu_34 188 rfl).1 14).trans ((fu_23 188 rfl).1 14)) dX1_holdTrees_81 ?_
              refine r_if_ne (tgt := 89) hx hb ⟨(by omega), (by omega)⟩ dX1_holdTrees_84 (by decide) (fun c_43 => ?_) (fun c_43 => ?_)
              · refine lv_aload_n hx hb dX1_holdTrees_89 rfl (lv_at hl 4 rfl) ?_
                have q_44 : 0 ≤ u_34.1 189 3 ∧ u_34.1 189 3 ≤ 1000000000 := iu_34.fi 189 3 4 (by decide) rfl
                have q_45 : (-2147483648) ≤ S2.1 188 16 ∧ S2.1 188 16 ≤ 2147483647 := hI2.fi 188 16 1 (by decide) rfl
                have lk_46 : u_34.1 188 16 = S2.1 188 16 := ((fu_34 188 rfl).1 16).trans ((fu_23 188 rfl).1 16)
                refine sBv (sV (As := []) (rest := []) (k := 188) Cx (b_X1_beginSecondTree l G u_34 (o := o) (n := n) (mm := mm) (mx := mx) (A := A) (wh := wh) (T := T) (kp := kp) (vp := vp) (cc := c1) (RR := R1) (w := w1) (wr := wr1) (wk := wk1) (wv := wv1) iu_34 cr_39 hm ((((fu_34 188 rfl).2.2.2 15).trans ((fu_23 188 rfl).2.2.2 15)).trans hmr2) (MDv.of hMD (show u_34.1 o 2 = S.1 o 2 from ((fu_34 o (mo_pPT hm).1).1 2).trans (((fu_23 o (p1_no (tau_ne hm.1 (rfl : tau 189 = .inl 4) (fun h => by cases h)))).1 2).trans ((hL2_ o (mo_pHT hm).1).1 2))) (show u_34.1 o 3 = S.1 o 3 from ((fu_34 o (mo_pPT hm).1).1 3).trans (((fu_23 o (p1_no (tau_ne hm.1 (rfl : tau 189 = .inl 4) (fun h => by cases h)))).1 3).trans ((hL2_ o (mo_pHT hm).1).1 3))) (show u_34.1 o 4 = S.1 o 4 from ((fu_34 o (mo_pPT hm).1).1 4).trans (((fu_23 o (p1_no (tau_ne hm.1 (rfl : tau 189 = .inl 4) (fun h => by cases h)))).1 4).trans ((hL2_ o (mo_pHT hm).1).1 4))) (show u_34.2.1 (o + 1) = S.2.1 (o + 1) from funext fun x => ((fu_34 (o + 1) (mo_pPT hm).2.1).2.1 x).trans (((fu_23 (o + 1) (p1_no (tau_ne hm.2.1 (rfl : tau 189 = .inl 4) (fun h => by cases h)))).2.1 x).trans ((hL2_ (o + 1) (mo_pHT hm).2.1).2.1 x))) (show u_34.2.1 (o + 2) = S.2.1 (o + 2) from funext fun x => ((fu_34 (o + 2) (mo_pPT hm).2.2).2.1 x).trans (((fu_23 (o + 2) (p1_no (tau_ne hm.2.2.1 (rfl : tau 189 = .inl 4) (fun h => by cases h)))).2.1 x).trans ((hL2_ (o + 2) (mo_pHT hm).2.2).2.1 x)))) hpl.1 (WTv.of hW1 (show u_34.1 188 14 = S2.1 188 14 from ((fu_34 188 rfl).1 14).trans ((fu_23 188 rfl).1 14)) (show u_34.2.1 225 = S2.2.1 225 from funext fun x => ((fu_34 225 rfl).2.1 x).trans ((fu_23 225 rfl).2.1 x)) (show u_34.2.1 226 = S2.2.1 226 from funext fun x => ((fu_34 226 rfl).2.1 x).trans ((fu_23 226 rfl).2.1 x)) (show u_34.2.1 227 = S2.2.1 227 from funext fun x => ((fu_34 227 rfl).2.1 x).trans ((fu_23 227 rfl).2.1 x))) (by omega) (by have h := hok3 (w1 - 1) (by omega) (by omega); exact ⟨by omega, h.2.1, h.2.2.1⟩)) (c_X1_200 Cx rfl rfl (rmk_ok (by omega) (by decide))) hW (by decide) rfl rfl rfl hl.1 rfl (Nat.le_of_ble_eq_true rfl) dX1_holdTrees_90 ⟨Nat.le_of_ble_eq_true rfl, Nat.le_of_ble_eq_true rfl⟩) hL (fun u_47 H locs k_48 hW hL => ?_)
                obtain ⟨iu_47, fu_47, xu_47⟩ := k_48
                have F_49 := F_37.trans (fu_47.to pBr_HT)
                have F_50 := F_38.trans (fu_47.to pBr_HT)
                have cr_51 : CQ G T kp vp u_47 := xu_47.1
                refine lv_iinc (v := iv (tr + 1)) (lv' := [(2, .int (iv (tr + 1))), (5, .int (iv r_36)), (4, .int (iv r_22)), (3, .int (iv r_19)), (0, .ref (G.2.2.1 + 188)), (1, .int (iv hv))]) hx hb dX1_holdTrees_93 hl (k := 3) rfl ((Int32.ofInt_add _ _).symm) (by decide) rfl (fun ls hl => ?_)
                refine lv_goto (tgt := 2) hx hb dX1_holdTrees_96 (by decide) ?_
                have q_52 : (-2147483648) ≤ u_47.1 188 16 ∧ u_47.1 188 16 ≤ 2147483647 := iu_47.fi 188 16 1 (by decide) rfl
                have q_53 : 0 ≤ u_47.1 189 3 ∧ u_47.1 189 3 ≤ 1000000000 := iu_47.fi 189 3 4 (by decide) rfl
                exact ih_2 u_47 (tr + 1) _ _ _ (by omega) iu_47 F_49 F_50 (by omega) (by omega) (xu_47.2.2.1.trans ((((fu_34 188 rfl).2.2.2 15).trans ((fu_23 188 rfl).2.2.2 15)).trans hmr2)) (show ∃ c R w2 wr2 wk2 wv2, _ ∧ _ ∧ _ from ⟨_, _, _, _, _, _, xu_47.2.2.2.2.1, xu_47.2.2.2.2.2, by rw [show u_47.1 189 3 = u_34.1 189 3 by omega, ← (show F1 = (3001 - (tr + 1)).toNat by omega)]; exact hpl.2.2 (by omega)⟩) cr_51 hW hL (lv_sub hl [0, 4, 5] rfl)
              · refine lv_iconst (v := iv 1) hx hb dX1_holdTrees_87 (by decide) ?_
                have q_54 : (-2147483648) ≤ S2.1 188 16 ∧ S2.1 188 16 ≤ 2147483647 := hI2.fi 188 16 1 (by decide) rfl
                have lk_55 : u_34.1 188 16 = S2.1 188 16 := ((fu_34 188 rfl).1 16).trans ((fu_23 188 rfl).1 16)
                exact sZret Cx hr hlk hW hL (by omega) ⟨iu_34, F_37, ⟨cr_39, (by omega), (by rw [show u_34.1 188 16 = 0 by omega]; exact hpl.2.1 (by omega))⟩⟩ dX1_holdTrees_88
            · refine lv_iload_n hx hb dX1_holdTrees_74 rfl (lv_at hl 2 rfl) ?_
              refine lv_bipush (v := iv 15) hx hb dX1_holdTrees_75 (by decide) ?_
              refine r_icmp_ne (tgt := 93) hx hb ⟨(by omega), (by omega)⟩ ⟨(by omega), (by omega)⟩ dX1_holdTrees_77 (by decide) (fun c_56 => ?_) (fun c_56 => ?_)
              · refine lv_iinc (v := iv (tr + 1)) (lv' := [(2, .int (iv (tr + 1))), (5, .int (iv r_36)), (4, .int (iv r_22)), (3, .int (iv r_19)), (0, .ref (G.2.2.1 + 188)), (1, .int (iv hv))]) hx hb dX1_holdTrees_93 hl (k := 3) rfl ((Int32.ofInt_add _ _).symm) (by decide) rfl (fun ls hl => ?_)
                refine lv_goto (tgt := 2) hx hb dX1_holdTrees_96 (by decide) ?_
                have q_57 : (-2147483648) ≤ S2.1 188 16 ∧ S2.1 188 16 ≤ 2147483647 := hI2.fi 188 16 1 (by decide) rfl
                have lk_58 : u_34.1 188 16 = S2.1 188 16 := ((fu_34 188 rfl).1 16).trans ((fu_23 188 rfl).1 16)
                have q_59 : 0 ≤ u_34.1 189 3 ∧ u_34.1 189 3 ≤ 1000000000 := iu_34.fi 189 3 4 (by decide) rfl
                exact ih_2 u_34 (tr + 1) _ _ _ (by omega) iu_34 F_37 F_38 (by omega) (by omega) ((((fu_34 188 rfl).2.2.2 15).trans ((fu_23 188 rfl).2.2.2 15)).trans hmr2) (show ∃ c R w2 wr2 wk2 wv2, _ ∧ _ ∧ _ from by obtain ⟨R2, y1, y2⟩ := hS1.pc (by omega) hptr0; exact ⟨_, _, _, _, _, _, y1, (WTv.of hW1 (show u_34.1 188 14 = S2.1 188 14 from ((fu_34 188 rfl).1 14).trans ((fu_23 188 rfl).1 14)) (show u_34.2.1 225 = S2.2.1 225 from funext fun x => ((fu_34 225 rfl).2.1 x).trans ((fu_23 225 rfl).2.1 x)) (show u_34.2.1 226 = S2.2.1 226 from funext fun x => ((fu_34 226 rfl).2.1 x).trans ((fu_23 226 rfl).2.1 x)) (show u_34.2.1 227 = S2.2.1 227 from funext fun x => ((fu_34 227 rfl).2.1 x).trans ((fu_23 227 rfl).2.1 x))), by rw [← (show F1 = (3001 - (tr + 1)).toNat by omega)]; exact y2⟩) cr_39 hW hL (lv_sub hl [0, 4, 5] rfl)
              · have hpl : Hd _ := hS1.pl hn12 (by omega) hptr0
                refine lv_aload_n hx hb dX1_holdTrees_80 rfl (lv_at hl 4 rfl) ?_
                have q_60 : 0 ≤ S2.1 188 14 ∧ S2.1 188 14 ≤ 40 := hI2.fi 188 14 1 (by decide) rfl
                refine g_X1_103 Cx hW (k := 188) (by decide) rfl (v := S2.1 188 14) (((fu_34 188 rfl).1 14).trans ((fu_23 188 rfl).1 14)) dX1_holdTrees_81 ?_
                refine r_if_ne (tgt := 89) hx hb ⟨(by omega), (by omega)⟩ dX1_holdTrees_84 (by decide) (fun c_61 => ?_) (fun c_61 => ?_)
                · refine lv_aload_n hx hb dX1_holdTrees_89 rfl (lv_at hl 4 rfl) ?_
                  have q_62 : 0 ≤ u_34.1 189 3 ∧ u_34.1 189 3 ≤ 1000000000 := iu_34.fi 189 3 4 (by decide) rfl
                  have q_63 : (-2147483648) ≤ S2.1 188 16 ∧ S2.1 188 16 ≤ 2147483647 := hI2.fi 188 16 1 (by decide) rfl
                  have lk_64 : u_34.1 188 16 = S2.1 188 16 := ((fu_34 188 rfl).1 16).trans ((fu_23 188 rfl).1 16)
                  refine sBv (sV (As := []) (rest := []) (k := 188) Cx (b_X1_beginSecondTree l G u_34 (o := o) (n := n) (mm := mm) (mx := mx) (A := A) (wh := wh) (T := T) (kp := kp) (vp := vp) (cc := c1) (RR := R1) (w := w1) (wr := wr1) (wk := wk1) (wv := wv1) iu_34 cr_39 hm ((((fu_34 188 rfl).2.2.2 15).trans ((fu_23 188 rfl).2.2.2 15)).trans hmr2) (MDv.of hMD (show u_34.1 o 2 = S.1 o 2 from ((fu_34 o (mo_pPT hm).1).1 2).trans (((fu_23 o (p1_no (tau_ne hm.1 (rfl : tau 189 = .inl 4) (fun h => by cases h)))).1 2).trans ((hL2_ o (mo_pHT hm).1).1 2))) (show u_34.1 o 3 = S.1 o 3 from ((fu_34 o (mo_pPT hm).1).1 3).trans (((fu_23 o (p1_no (tau_ne hm.1 (rfl : tau 189 = .inl 4) (fun h => by cases h)))).1 3).trans ((hL2_ o (mo_pHT hm).1).1 3))) (show u_34.1 o 4 = S.1 o 4 from ((fu_34 o (mo_pPT hm).1).1 4).trans (((fu_23 o (p1_no (tau_ne hm.1 (rfl : tau 189 = .inl 4) (fun h => by cases h)))).1 4).trans ((hL2_ o (mo_pHT hm).1).1 4))) (show u_34.2.1 (o + 1) = S.2.1 (o + 1) from funext fun x => ((fu_34 (o + 1) (mo_pPT hm).2.1).2.1 x).trans (((fu_23 (o + 1) (p1_no (tau_ne hm.2.1 (rfl : tau 189 = .inl 4) (fun h => by cases h)))).2.1 x).trans ((hL2_ (o + 1) (mo_pHT hm).2.1).2.1 x))) (show u_34.2.1 (o + 2) = S.2.1 (o + 2) from funext fun x => ((fu_34 (o + 2) (mo_pPT hm).2.2).2.1 x).trans (((fu_23 (o + 2) (p1_no (tau_ne hm.2.2.1 (rfl : tau 189 = .inl 4) (fun h => by cases h)))).2.1 x).trans ((hL2_ (o + 2) (mo_pHT hm).2.2).2.1 x)))) hpl.1 (WTv.of hW1 (show u_34.1 188 14 = S2.1 188 14 from ((fu_34 188 rfl).1 14).trans ((fu_23 188 rfl).1 14)) (show u_34.2.1 225 = S2.2.1 225 from funext fun x => ((fu_34 225 rfl).2.1 x).trans ((fu_23 225 rfl).2.1 x)) (show u_34.2.1 226 = S2.2.1 226 from funext fun x => ((fu_34 226 rfl).2.1 x).trans ((fu_23 226 rfl).2.1 x)) (show u_34.2.1 227 = S2.2.1 227 from funext fun x => ((fu_34 227 rfl).2.1 x).trans ((fu_23 227 rfl).2.1 x))) (by omega) (by have h := hok3 (w1 - 1) (by omega) (by omega); exact ⟨by omega, h.2.1, h.2.2.1⟩)) (c_X1_200 Cx rfl rfl (rmk_ok (by omega) (by decide))) hW (by decide) rfl rfl rfl hl.1 rfl (Nat.le_of_ble_eq_true rfl) dX1_holdTrees_90 ⟨Nat.le_of_ble_eq_true rfl, Nat.le_of_ble_eq_true rfl⟩) hL (fun u_65 H locs k_66 hW hL => ?_)
                  obtain ⟨iu_65, fu_65, xu_65⟩ := k_66
                  have F_67 := F_37.trans (fu_65.to pBr_HT)
                  have F_68 := F_38.trans (fu_65.to pBr_HT)
                  have cr_69 : CQ G T kp vp u_65 := xu_65.1
                  refine lv_iinc (v := iv (tr + 1)) (lv' := [(2, .int (iv (tr + 1))), (5, .int (iv r_36)), (4, .int (iv r_22)), (3, .int (iv r_19)), (0, .ref (G.2.2.1 + 188)), (1, .int (iv hv))]) hx hb dX1_holdTrees_93 hl (k := 3) rfl ((Int32.ofInt_add _ _).symm) (by decide) rfl (fun ls hl => ?_)
                  refine lv_goto (tgt := 2) hx hb dX1_holdTrees_96 (by decide) ?_
                  have q_70 : (-2147483648) ≤ u_65.1 188 16 ∧ u_65.1 188 16 ≤ 2147483647 := iu_65.fi 188 16 1 (by decide) rfl
                  have q_71 : 0 ≤ u_65.1 189 3 ∧ u_65.1 189 3 ≤ 1000000000 := iu_65.fi 189 3 4 (by decide) rfl
                  exact ih_2 u_65 (tr + 1) _ _ _ (by omega) iu_65 F_67 F_68 (by omega) (by omega) (xu_65.2.2.1.trans ((((fu_34 188 rfl).2.2.2 15).trans ((fu_23 188 rfl).2.2.2 15)).trans hmr2)) (show ∃ c R w2 wr2 wk2 wv2, _ ∧ _ ∧ _ from ⟨_, _, _, _, _, _, xu_65.2.2.2.2.1, xu_65.2.2.2.2.2, by rw [show u_65.1 189 3 = u_34.1 189 3 by omega, ← (show F1 = (3001 - (tr + 1)).toNat by omega)]; exact hpl.2.2 (by omega)⟩) cr_69 hW hL (lv_sub hl [0, 4, 5] rfl)
                · refine lv_iconst (v := iv 1) hx hb dX1_holdTrees_87 (by decide) ?_
                  have q_72 : (-2147483648) ≤ S2.1 188 16 ∧ S2.1 188 16 ≤ 2147483647 := hI2.fi 188 16 1 (by decide) rfl
                  have lk_73 : u_34.1 188 16 = S2.1 188 16 := ((fu_34 188 rfl).1 16).trans ((fu_23 188 rfl).1 16)
                  exact sZret Cx hr hlk hW hL (by omega) ⟨iu_34, F_37, ⟨cr_39, (by omega), (by rw [show u_34.1 188 16 = 0 by omega]; exact hpl.2.1 (by omega))⟩⟩ dX1_holdTrees_88
          · refine lv_aload_n hx hb dX1_holdTrees_59 rfl (lv_at hl 4 rfl) ?_
            refine lv_iload hx hb dX1_holdTrees_60 (lv_at hl 0 rfl) ?_
            refine lv_iload hx hb dX1_holdTrees_62 (lv_at hl 1 rfl) ?_
            have q_74 : 0 ≤ S2.1 188 14 ∧ S2.1 188 14 ≤ 40 := hI2.fi 188 14 1 (by decide) rfl
            have lk_75 : u_34.1 188 14 = S2.1 188 14 := ((fu_34 188 rfl).1 14).trans ((fu_23 188 rfl).1 14)
            refine sBi (sV (As := [.int (iv r_36), .int (iv r_22)]) (rest := []) (k := 188) Cx (b_X1_fail l G u_34 (kn := r_36) (wz := r_22) iu_34 (by omega) (by omega)) (c_X1_95 Cx rfl rfl (rmk_ok (by omega) (by decide))) hW (by decide) rfl rfl rfl hl.1 rfl (Nat.le_of_ble_eq_true rfl) dX1_holdTrees_64 ⟨Nat.le_of_ble_eq_true rfl, Nat.le_of_ble_eq_true rfl⟩) hL (fun r_78 u_76 H locs k_77 hW hL => ?_)
            obtain ⟨iu_76, fu_76, xu_76⟩ := k_77
            have F_79 := F_37.trans (fu_76.to (p1_sub rfl))
            have F_80 := F_38.trans (fu_76.to (p1_sub rfl))
            have cr_81 : CQ G T kp vp u_76 := cr_39.fr fu_76 rfl rfl rfl rfl
            have q_82 : (-2147483648) ≤ u_76.1 188 16 ∧ u_76.1 188 16 ≤ 2147483647 := iu_76.fi 188 16 1 (by decide) rfl
            exact sZret Cx hr hlk hW hL (by omega) ⟨iu_76, F_79, ⟨cr_81, (by omega), (by rw [(show u_76.1 188 16 = _ from xu_76.2.1)]; exact hS1.px hn12 hptr (by omega))⟩⟩ dX1_holdTrees_67
        · have hk12 : kp (S2.1 189 3) = 12 := by omega
          have hk22 : kp (S2.1 189 3 + 2) = 2 := by rcases hk1 with z | z; (exact z.2.2); (exfalso; omega)
          have hT2 := (hKT (S2.1 189 3 + 2) (by omega)).2
          refine lv_aload_n hx hb dX1_holdTrees_39 rfl (lv_at hl 3 rfl) ?_
          have q_83 : 0 ≤ u_23.1 189 3 ∧ u_23.1 189 3 ≤ 1000000000 := iu_23.fi 189 3 4 (by decide) rfl
          have q_84 : (-2147483648) ≤ S2.1 188 16 ∧ S2.1 188 16 ≤ 2147483647 := hI2.fi 188 16 1 (by decide) rfl
          have lk_85 : u_23.1 188 16 = S2.1 188 16 := (fu_23 188 rfl).1 16
          refine sBi (sV (As := []) (rest := []) (k := 188) Cx (b_X1_branch l G u_23 (o := o) (n := n) (mm := mm) (mx := mx) (A := A) (wh := wh) (T := T) (kp := kp) (vp := vp) (cc := c1) (RR := R1) (w := w1) (wr := wr1) (wk := wk1) (wv := wv1) iu_23 cr_27 (by omega) hm (((fu_23 188 rfl).2.2.2 15).trans hmr2) (MDv.of hMD (show u_23.1 o 2 = S.1 o 2 from ((fu_23 o (p1_no (tau_ne hm.1 (rfl : tau 189 = .inl 4) (fun h => by cases h)))).1 2).trans ((hL2_ o (mo_pHT hm).1).1 2)) (show u_23.1 o 3 = S.1 o 3 from ((fu_23 o (p1_no (tau_ne hm.1 (rfl : tau 189 = .inl 4) (fun h => by cases h)))).1 3).trans ((hL2_ o (mo_pHT hm).1).1 3)) (show u_23.1 o 4 = S.1 o 4 from ((fu_23 o (p1_no (tau_ne hm.1 (rfl : tau 189 = .inl 4) (fun h => by cases h)))).1 4).trans ((hL2_ o (mo_pHT hm).1).1 4)) (show u_23.2.1 (o + 1) = S.2.1 (o + 1) from funext fun x => ((fu_23 (o + 1) (p1_no (tau_ne hm.2.1 (rfl : tau 189 = .inl 4) (fun h => by cases h)))).2.1 x).trans ((hL2_ (o + 1) (mo_pHT hm).2.1).2.1 x)) (show u_23.2.1 (o + 2) = S.2.1 (o + 2) from funext fun x => ((fu_23 (o + 2) (p1_no (tau_ne hm.2.2.1 (rfl : tau 189 = .inl 4) (fun h => by cases h)))).2.1 x).trans ((hL2_ (o + 2) (mo_pHT hm).2.2).2.1 x))) (RWv.of hR1 (show u_23.1 193 8 = S2.1 193 8 from (fu_23 193 rfl).1 8) (show u_23.1 193 9 = S2.1 193 9 from (fu_23 193 rfl).1 9) (show u_23.2.1 194 = S2.2.1 194 from funext fun x => (fu_23 194 rfl).2.1 x)) (WTv.of hW1 (show u_23.1 188 14 = S2.1 188 14 from (fu_23 188 rfl).1 14) (show u_23.2.1 225 = S2.2.1 225 from funext fun x => (fu_23 225 rfl).2.1 x) (show u_23.2.1 226 = S2.2.1 226 from funext fun x => (fu_23 226 rfl).2.1 x) (show u_23.2.1 227 = S2.2.1 227 from funext fun x => (fu_23 227 rfl).2.1 x)) (by omega) (by rw [show u_23.1 189 3 = S2.1 189 3 + 1 by omega, show S2.1 189 3 + 1 + 1 = S2.1 189 3 + 2 by omega]; exact ⟨⟨hk11, hk22⟩, hT2⟩)) (c_X1_193 Cx rfl rfl (rmk_ok (by omega) (by decide))) hW (by decide) rfl rfl rfl hl.1 rfl (Nat.le_of_ble_eq_true rfl) dX1_holdTrees_40 ⟨Nat.le_of_ble_eq_true rfl, Nat.le_of_ble_eq_true rfl⟩) hL (fun r_88 u_86 H locs k_87 hW hL => ?_)
          obtain ⟨iu_86, fu_86, xu_86⟩ := k_87
          have F_89 := F_25.trans (fu_86.to pBr_HT)
          have F_90 := F_26.trans (fu_86.to pBr_HT)
          have hb4 : Hd (¬ okx n wh (vp (S2.1 189 3 + 1)) → r_88 = 4) := by have h := (show _ → _ from xu_86.2.2.2.2.2.1); rw [show u_23.1 189 3 = S2.1 189 3 + 1 by omega] at h; exact h
          have hb5 : Hd (okx n wh (vp (S2.1 189 3 + 1)) → (40 ≤ c1 → r_88 = 6) ∧ (c1 < 40 → r_88 = 0 ∧ u_86.1 189 3 = S2.1 189 3 + 3 ∧ RWv u_86 n (c1 + 1) (upR R1 (c1 + 1) (limr (vp (S2.1 189 3 + 1)) (vp (S2.1 189 3 + 2)) 0)) ∧ WTv u_86 (w1 + 1) (upf wr1 w1 c1) (upf wk1 w1 (vp (S2.1 189 3 + 1))) (upf wv1 w1 (vp (S2.1 189 3 + 2))))) := by have h := (show _ → _ from xu_86.2.2.2.2.2.2); rw [show u_23.1 189 3 = S2.1 189 3 + 1 by omega, show S2.1 189 3 + 1 + 1 = S2.1 189 3 + 2 by omega, show S2.1 189 3 + 1 + 2 = S2.1 189 3 + 3 by omega] at h; exact h
          have cr_91 : CQ G T kp vp u_86 := xu_86.1
          refine lv_goto (tgt := 52) hx hb dX1_holdTrees_43 (by decide) ?_
          refine lv_istore (lv' := [(5, .int (iv r_88)), (4, .int (iv r_22)), (3, .int (iv r_19)), (2, .int (iv tr)), (0, .ref (G.2.2.1 + 188)), (1, .int (iv hv))]) hx hb dX1_holdTrees_52 hl (by decide) rfl (fun ls hl => ?_)
          refine lv_iload hx hb dX1_holdTrees_54 (lv_at hl 0 rfl) ?_
          refine r_if_eq (tgt := 68) hx hb ⟨(by omega), (by omega)⟩ dX1_holdTrees_56 (by decide) (fun c_92 => ?_) (fun c_92 => ?_)
          · have hxx : okx n wh (vp (S2.1 189 3 + 1)) ∧ c1 < 40 := by by_cases q : okx n wh (vp (S2.1 189 3 + 1)); (refine ⟨q, ?_⟩; by_cases z : c1 < 40; (exact z); (have := (hb5 q).1 (by omega); exfalso; omega)); (have := hb4 q; exfalso; omega)
            have hx2 := (hb5 hxx.1).2 hxx.2
            have hx21 := hx2.2.1; have hx22 : Hd _ := hx2.2.2; clear hx2
            have hS2 : Hd _ := hS1.br hk12 hxx.1 hxx.2
            refine lv_iload_n hx hb dX1_holdTrees_68 rfl (lv_at hl 2 rfl) ?_
            refine lv_bipush (v := iv 14) hx hb dX1_holdTrees_69 (by decide) ?_
            refine r_icmp_eq (tgt := 80) hx hb ⟨(by omega), (by omega)⟩ ⟨(by omega), (by omega)⟩ dX1_holdTrees_71 (by decide) (fun c_93 => ?_) (fun c_93 => ?_)
            · exfalso; omega
            · refine lv_iload_n hx hb dX1_holdTrees_74 rfl (lv_at hl 2 rfl) ?_
              refine lv_bipush (v := iv 15) hx hb dX1_holdTrees_75 (by decide) ?_
              refine r_icmp_ne (tgt := 93) hx hb ⟨(by omega), (by omega)⟩ ⟨(by omega), (by omega)⟩ dX1_holdTrees_77 (by decide) (fun c_94 => ?_) (fun c_94 => ?_)
              · refine lv_iinc (v := iv (tr + 1)) (lv' := [(2, .int (iv (tr + 1))), (5, .int (iv r_88)), (4, .int (iv r_22)), (3, .int (iv r_19)), (0, .ref (G.2.2.1 + 188)), (1, .int (iv hv))]) hx hb dX1_holdTrees_93 hl (k := 3) rfl ((Int32.ofInt_add _ _).symm) (by decide) rfl (fun ls hl => ?_)
                refine lv_goto (tgt := 2) hx hb dX1_holdTrees_96 (by decide) ?_
                have q_95 : (-2147483648) ≤ u_86.1 188 16 ∧ u_86.1 188 16 ≤ 2147483647 := iu_86.fi 188 16 1 (by decide) rfl
                have q_96 : 0 ≤ u_86.1 189 3 ∧ u_86.1 189 3 ≤ 1000000000 := iu_86.fi 189 3 4 (by decide) rfl
                exact ih_2 u_86 (tr + 1) _ _ _ (by omega) iu_86 F_89 F_90 (by omega) (by omega) (xu_86.2.2.2.1.trans (((fu_23 188 rfl).2.2.2 15).trans hmr2)) (show ∃ c R w2 wr2 wk2 wv2, _ ∧ _ ∧ _ from ⟨_, _, _, _, _, _, hx22.1, hx22.2, by rw [hx21, ← (show F1 = (3001 - (tr + 1)).toNat by omega)]; exact hS2⟩) cr_91 hW hL (lv_sub hl [0, 4, 5] rfl)
              · exfalso; omega
          · refine lv_aload_n hx hb dX1_holdTrees_59 rfl (lv_at hl 4 rfl) ?_
            refine lv_iload hx hb dX1_holdTrees_60 (lv_at hl 0 rfl) ?_
            refine lv_iload hx hb dX1_holdTrees_62 (lv_at hl 1 rfl) ?_
            have q_97 : 0 ≤ u_86.1 188 14 ∧ u_86.1 188 14 ≤ 40 := iu_86.fi 188 14 1 (by decide) rfl
            refine sBi (sV (As := [.int (iv r_88), .int (iv r_22)]) (rest := []) (k := 188) Cx (b_X1_fail l G u_86 (kn := r_88) (wz := r_22) iu_86 (by omega) (by omega)) (c_X1_95 Cx rfl rfl (rmk_ok (by omega) (by decide))) hW (by decide) rfl rfl rfl hl.1 rfl (Nat.le_of_ble_eq_true rfl) dX1_holdTrees_64 ⟨Nat.le_of_ble_eq_true rfl, Nat.le_of_ble_eq_true rfl⟩) hL (fun r_100 u_98 H locs k_99 hW hL => ?_)
            obtain ⟨iu_98, fu_98, xu_98⟩ := k_99
            have F_101 := F_89.trans (fu_98.to (p1_sub rfl))
            have F_102 := F_90.trans (fu_98.to (p1_sub rfl))
            have cr_103 : CQ G T kp vp u_98 := cr_91.fr fu_98 rfl rfl rfl rfl
            have q_104 : (-2147483648) ≤ u_98.1 188 16 ∧ u_98.1 188 16 ≤ 2147483647 := iu_98.fi 188 16 1 (by decide) rfl
            exact sZret Cx hr hlk hW hL (by omega) ⟨iu_98, F_101, ⟨cr_103, (by omega), (by rw [(show u_98.1 188 16 = _ from xu_98.2.1)]; exact hS1.brx hk12 hb4 (fun q z => (hb5 q).1 z) (fun q => by have := ((hb5 q.1).2 q.2).1; omega))⟩⟩ dX1_holdTrees_67
  have q_105 : (-2147483648) ≤ S.1 188 16 ∧ S.1 188 16 ≤ 2147483647 := hI.fi 188 16 1 (by decide) rfl
  have q_106 : 0 ≤ S.1 189 3 ∧ S.1 189 3 ≤ 1000000000 := hI.fi 189 3 4 (by decide) rfl
  exact loop_2 (_ + 1) S 1 _ _ _ (Nat.lt_succ_self _) hI (Fr.rf : Fr S S pHT) Fr.rf (by omega) (by omega) hmr (show ∃ c R w2 wr2 wk2 wv2, _ ∧ _ ∧ _ from ⟨_, _, _, _, _, _, hR, hWT, hwok, hRA, hgt, fun x z => z⟩) hCR hW hL (lv_sub hl [0, 1, 2] rfl)
