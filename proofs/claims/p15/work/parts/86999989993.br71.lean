/-! The reference's TREES -/
def WTq (kp vp : Int → Int) (S : sS) (w : Int) (wr wk wv : Int → Int) : Prop := ∀ i, 0 ≤ i → i < w → S.2.1 291 i = wr i ∧ S.2.1 292 i = wk i ∧ vp (S.2.1 293 i) = wv i ∧ kp (S.2.1 293 i) = 2
theorem WTq.sm {kp vp : Int → Int} {S u : sS} {w : Int} {wr wk wv : Int → Int} (h : WTq kp vp S w wr wk wv) (a291 : u.2.1 291 = S.2.1 291) (a292 : u.2.1 292 = S.2.1 292) (a293 : u.2.1 293 = S.2.1 293) : WTq kp vp u w wr wk wv := by unfold WTq; rw [a291, a292, a293]; exact h
theorem WTq.less {kp vp : Int → Int} {S : sS} {w w' : Int} {wr wk wv : Int → Int} (h : WTq kp vp S w wr wk wv) (hw : w' ≤ w) : WTq kp vp S w' wr wk wv := fun i a b => h i a (by omega)
theorem WTq.br {kp vp : Int → Int} {S u : sS} {w x y z : Int} {wr wk wv : Int → Int} (h : WTq kp vp S w wr wk wv) (h1 : ∀ i, u.2.1 291 i = if i = w then x else S.2.1 291 i) (h2 : ∀ i, u.2.1 292 i = if i = w then y else S.2.1 292 i) (h3 : ∀ i, u.2.1 293 i = if i = w then z else S.2.1 293 i) (hk : kp z = 2) {v : Int} (hv : vp z = v) : WTq kp vp u (w + 1) (upf wr w x) (upf wk w y) (upf wv w v) := fun i a b => by
  rw [h1, h2, h3]
  unfold upf
  by_cases q : i = w
  · rw [if_pos q, if_pos q, if_pos q, if_pos q, if_pos q, if_pos q]; exact ⟨rfl, rfl, hv, hk⟩
  · rw [if_neg q, if_neg q, if_neg q, if_neg q, if_neg q, if_neg q]; exact h i a (by omega)
theorem HRf.less {f : Int → Int} {c c' n : Int} {R : Int → Int → Int} (h : HRf f c R n) (hc : c' ≤ c) : HRf f c' R n := fun k j a b d e => h k j a (by omega) d e
section
variable {n : Int} {A : Int → Int → Int} {wh : Int → Int} {hv vt vb : Int} {kp vp : Int → Int} {t0 c0 : Int} {R0 : Int → Int → Int} {w0 : Int} {wr0 wk0 wv0 : Int → Int} {F : Nat} {t c : Int} {R : Int → Int → Int} {w : Int} {wr wk wv : Int → Int} {ff : Int → Int} {e : Int}
theorem HS.x4 (h : HS n A wh hv vt vb kp vp t0 c0 R0 w0 wr0 wk0 wv0 (F + 1) t c R w wr wk wv) (k : kp t ≠ 12) (hp : prs c kp vp 30001 (t + 2) 0 (fun _ => 0) = none) : HT n (wct wh n.toNat) wh hv vt vb kp vp 3000 t0 c0 R0 w0 wr0 wk0 wv0 4 :=
  h.2.2.2 4 ⟨fun y => absurd y k, fun _ => ⟨fun _ => rfl, fun ff e q => absurd (hp.symm.trans q) (by intro z; cases z)⟩⟩
theorem HS.in (h : HS n A wh hv vt vb kp vp t0 c0 R0 w0 wr0 wk0 wv0 (F + 1) t c R w wr wk wv) (k : kp t ≠ 12) (hp : prs c kp vp 30001 (t + 2) 0 (fun _ => 0) = some (ff, e)) {r : Int} (g : (kp t = 13 → (wct wh n.toNat ≠ n → r = 4) ∧ (wct wh n.toNat = n → ((40 ≤ c ∨ lgx n c R ff (vp (t + 1))) → r = 6) ∧ (¬ (40 ≤ c ∨ lgx n c R ff (vp (t + 1))) → HT n (wct wh n.toNat) wh hv vt vb kp vp F e (c + 1) (upR R (c + 1) (fun j => smf ff R j c.toNat / vp (t + 1))) w wr wk wv r))) ∧
      (kp t ≠ 13 → (¬ leaf n c R wh ff (kp t) hv (vp (t + 1)) vt vb → r = 4) ∧ (leaf n c R wh ff (kp t) hv (vp (t + 1)) vt vb → (w = 0 → r = 0) ∧ (w ≠ 0 → HT n (wct wh n.toNat) wh hv vt vb kp vp F e (wr (w - 1) + 1) (upR R (wr (w - 1) + 1) (limr (wk (w - 1)) (wv (w - 1)) 1)) (w - 1) wr wk wv r)))) : HT n (wct wh n.toNat) wh hv vt vb kp vp 3000 t0 c0 R0 w0 wr0 wk0 wv0 r :=
  h.2.2.2 r ⟨fun y => absurd y k, fun _ => ⟨fun q => absurd (hp.symm.trans q) (by intro z; cases z), fun ff2 e2 q => by
    obtain ⟨rfl, rfl⟩ := Prod.mk.inj (Option.some.inj (hp.symm.trans q)); exact g⟩⟩
theorem HS.cw (h : HS n A wh hv vt vb kp vp t0 c0 R0 w0 wr0 wk0 wv0 (F + 1) t c R w wr wk wv) (k : kp t = 13) (hp : prs c kp vp 30001 (t + 2) 0 (fun _ => 0) = some (ff, e)) (hw : wct wh n.toNat ≠ n) : HT n (wct wh n.toNat) wh hv vt vb kp vp 3000 t0 c0 R0 w0 wr0 wk0 wv0 4 :=
  h.in (by omega) hp ⟨fun _ => ⟨fun _ => rfl, fun y => absurd y hw⟩, fun y => absurd k y⟩
theorem HS.c6 (h : HS n A wh hv vt vb kp vp t0 c0 R0 w0 wr0 wk0 wv0 (F + 1) t c R w wr wk wv) (k : kp t = 13) (hp : prs c kp vp 30001 (t + 2) 0 (fun _ => 0) = some (ff, e)) (hw : wct wh n.toNat = n) (hl : 40 ≤ c ∨ lgx n c R ff (vp (t + 1))) : HT n (wct wh n.toNat) wh hv vt vb kp vp 3000 t0 c0 R0 w0 wr0 wk0 wv0 6 :=
  h.in (by omega) hp ⟨fun _ => ⟨fun y => absurd hw y, fun _ => ⟨fun _ => rfl, fun y => absurd hl y⟩⟩, fun y => absurd k y⟩
theorem HS.cc (h : HS n A wh hv vt vb kp vp t0 c0 R0 w0 wr0 wk0 wv0 (F + 1) t c R w wr wk wv) (k : kp t = 13) (hp : prs c kp vp 30001 (t + 2) 0 (fun _ => 0) = some (ff, e)) (hw : wct wh n.toNat = n) (hl : ¬ (40 ≤ c ∨ lgx n c R ff (vp (t + 1)))) : HS n A wh hv vt vb kp vp t0 c0 R0 w0 wr0 wk0 wv0 F e (c + 1) (upR R (c + 1) (fun j => smf ff R j c.toNat / vp (t + 1))) w wr wk wv := by
  obtain ⟨g, x, hg⟩ := h.pg (by omega) hp
  rw [if_pos k] at hg
  have h0 := h.1.1; have h10 := h.1.2.1
  refine ⟨h.1.cut (by omega), upR_0 h.2.1 (by omega), ⟨g, x, hg⟩, fun r hr => h.in (by omega) hp ⟨fun _ => ⟨fun y => absurd hw y, fun _ => ⟨fun y => absurd y hl, fun _ => hr⟩⟩, fun y => absurd k y⟩⟩
theorem HS.l4 (h : HS n A wh hv vt vb kp vp t0 c0 R0 w0 wr0 wk0 wv0 (F + 1) t c R w wr wk wv) (k : kp t ≠ 12) (k3 : kp t ≠ 13) (hp : prs c kp vp 30001 (t + 2) 0 (fun _ => 0) = some (ff, e)) (hl : ¬ leaf n c R wh ff (kp t) hv (vp (t + 1)) vt vb) : HT n (wct wh n.toNat) wh hv vt vb kp vp 3000 t0 c0 R0 w0 wr0 wk0 wv0 4 :=
  h.in k hp ⟨fun y => absurd y k3, fun _ => ⟨fun _ => rfl, fun y => absurd y hl⟩⟩
theorem HS.l0 (h : HS n A wh hv vt vb kp vp t0 c0 R0 w0 wr0 wk0 wv0 (F + 1) t c R w wr wk wv) (k : kp t ≠ 12) (k3 : kp t ≠ 13) (hp : prs c kp vp 30001 (t + 2) 0 (fun _ => 0) = some (ff, e)) (hl : leaf n c R wh ff (kp t) hv (vp (t + 1)) vt vb) (hw : w = 0) : HT n (wct wh n.toNat) wh hv vt vb kp vp 3000 t0 c0 R0 w0 wr0 wk0 wv0 0 :=
  h.in k hp ⟨fun y => absurd y k3, fun _ => ⟨fun y => absurd hl y, fun _ => ⟨fun _ => rfl, fun y => absurd hw y⟩⟩⟩
theorem HS.lw (h : HS n A wh hv vt vb kp vp t0 c0 R0 w0 wr0 wk0 wv0 (F + 1) t c R w wr wk wv) (k : kp t ≠ 12) (k3 : kp t ≠ 13) (hp : prs c kp vp 30001 (t + 2) 0 (fun _ => 0) = some (ff, e)) (hl : leaf n c R wh ff (kp t) hv (vp (t + 1)) vt vb) (hw : w ≠ 0) : HS n A wh hv vt vb kp vp t0 c0 R0 w0 wr0 wk0 wv0 F e (wr (w - 1) + 1) (upR R (wr (w - 1) + 1) (limr (wk (w - 1)) (wv (w - 1)) 1)) (w - 1) wr wk wv := by
  obtain ⟨g, x, hg⟩ := h.pg k hp
  rw [if_neg k3] at hg
  have h0 := h.1.1
  refine ⟨h.1.sec hw, upR_0 h.2.1 (by have := (h.1.2.2.2 (w - 1) (by omega) (by omega)).1; omega), ⟨g, x, by rw [show w - 1 + 1 = w + 1 - 1 by omega]; exact hg⟩, fun r hr => h.in k hp ⟨fun y => absurd y k3, fun _ => ⟨fun y => absurd hl y, fun _ => ⟨fun y => absurd y hw, fun _ => hr⟩⟩⟩⟩
end
set_option maxRecDepth 100000 in
set_option maxHeartbeats 4000000 in
theorem q_X12_trees (l : Launch) (G : sG) (S : sS) {K Xt Fm Wd Vt : Int → Int} {T : Int} {kp vp : Int → Int} {bb pz : Int} {n mm mx : Int} {A : Int → Int → Int} {wh : Int → Int} {vt vb : Int} (hI : dX G S) (hK : S.2.1 244 = K) (hX : S.2.1 243 = Xt) (hFm : S.2.1 245 = Fm) (hWd : S.2.1 246 = Wd) (hVt : S.2.1 247 = Vt) (hQ : Hd (∀ t, 0 ≤ t → t < T → kp t = 2 → nTk Xt Fm Wd Vt t ∧ NVr Xt Fm Wd Vt t (vp t))) (hKS : Hd (KS T kp) ∧ T ≤ 30001) (hkr : Hd (KVq K Vt T kp vp)) (hKT : Hd (KT T kp)) (hbb : 0 ≤ bb ∧ bb ≤ 1) (hm : 0 ≤ S.1 231 46 ∧ S.1 231 46 ≤ 12) (hm2 : 0 ≤ S.1 231 47 ∧ S.1 231 47 ≤ 16) (hHA : dHA S) (hUP : dUP S) (hGM : GM S) (hMD : MD S) (hMR : Hd (MDr S n mm mx A wh)) (hUV : Hd (UVr S vt vb)) (hwn : wct wh n.toNat ≤ n) (hc : S.1 231 24 = pz) (hg : Hd (∃ f e, gTr kp vp f pz (0 + 1) = some e)) (hp0 : 0 ≤ pz) (h20 : S.1 231 20 = 0) : Met l yX12_trees (.code yX12_trees cX12_trees 7 none :: tb) (rmk 7 0 0) (sPc G 294 S [.ref (G.2.2.1 + 231), .int (iv bb)]) (sQv G 294 (fun u => dX G u ∧ Fr S u (pl [231, 233, 234, 235, 237, 238, 240, 277, 283, 284, 288, 289, 291, 292, 293]) ∧ FF S u (fl [20, 21, 24, 100]) ∧ (dHA u ∧ Hd (HT n (wct wh n.toNat) wh bb vt vb kp vp 3000 pz mm A 0 (fun _ => 0) (fun _ => 0) (fun _ => 0) (u.1 231 20))))) 0 0 (sF G) := by
  refine sEnter (by decide) (Nat.le_of_ble_eq_true rfl) ?_
  intro p e s m args below meth c Cx hr hlk hnm hW ls hl
  have Cx : sC G p m c cX12_trees 7 s args RX12 := Cx
  obtain ⟨hx, hb, hml, hown, hts⟩ := id Cx.1
  have hL : sL G [] := sL_nil
  have hl : lv_has ls 7 [(0, .ref (G.2.2.1 + 231)), (1, .int (iv bb))] := hl
  have hW0 := hW
  have hMn := hMR.1; have hMm := hMR.2.1; have hMx := hMR.2.2.1; have hMw := hMR.2.2.2.1
  have hT3 := hKS.2
  refine lv_iconst (v := iv 1) hx hb dX12_trees_0 (by decide) ?_
  refine lv_istore_n (lv' := [(2, .int (iv 1)), (0, .ref (G.2.2.1 + 231)), (1, .int (iv bb))]) hx hb dX12_trees_1 rfl hl (by decide) rfl (fun ls hl => ?_)
  have loop_2 : ∀ (fuel : Nat) (S2 : sS) (i : Int) (H : Heap) (locs : List Loc) (ls : Array Slot), (S.1 231 47 + 1 - i).toNat < fuel → (dX G S2) → (Fr S S2 (pl [231, 233, 234, 235, 237, 238, 240, 277, 283, 284, 288, 289, 291, 292, 293])) → (Fr S S2 (pl [283])) → (FF S S2 (fl [20, 21, 24, 100])) → (FF S S2 (fl [])) → (1 ≤ i ∧ i ≤ S.1 231 47 + 1) → (dHA S2) → (HRf (S2.2.1 283) (i - 1) A n) → sW G 294 S2 H → sL G locs → lv_has ls 7 [(2, .int (iv i)), (0, .ref (G.2.2.1 + 231)), (1, .int (iv bb))] → W p l e (rmk 7 0 0) s m args below meth c H locs 0 0 (MQ below (sQv G 294 (fun u => dX G u ∧ Fr S u (pl [231, 233, 234, 235, 237, 238, 240, 277, 283, 284, 288, 289, 291, 292, 293]) ∧ FF S u (fl [20, 21, 24, 100]) ∧ (dHA u ∧ Hd (HT n (wct wh n.toNat) wh bb vt vb kp vp 3000 pz mm A 0 (fun _ => 0) (fun _ => 0) (fun _ => 0) (u.1 231 20))))) args s 0 0 (sF G)) (F0 m 2 ls []) := by
    intro fuel
    induction fuel with
    | zero => intro S2 i H locs ls hmeas hI2 hFm2 hL2_ hGm2 gL2_ hi hA2 hV2 hW hL hl; exact absurd hmeas (Nat.not_lt_zero _)
    | succ fuel ih_2 =>
      intro S2 i H locs ls hmeas hI2 hFm2 hL2_ hGm2 gL2_ hi hA2 hV2 hW hL hl
      refine lv_iload_n hx hb dX12_trees_2 rfl (lv_at hl 0 rfl) ?_
      refine lv_aload_n hx hb dX12_trees_3 rfl (lv_at hl 1 rfl) ?_
      have q_1 : (-2147483648) ≤ S.1 231 47 ∧ S.1 231 47 ≤ 2147483647 := hI.fi 47
      refine g_X12_468 Cx hW (k := 231) (by decide) rfl (v := S.1 231 47) (gL2_ 47 rfl) dX12_trees_4 ?_
      refine r_icmp_gt (tgt := 56) hx hb ⟨(by omega), (by omega)⟩ ⟨(by omega), (by omega)⟩ dX12_trees_7 (by decide) (fun c_2 => ?_) (fun c_2 => ?_)
      · refine lv_aload_n hx hb dX12_trees_56 rfl (lv_at hl 1 rfl) ?_
        refine lv_aload_n hx hb dX12_trees_57 rfl (lv_at hl 1 rfl) ?_
        refine g_X12_468 Cx hW (k := 231) (by decide) rfl (v := S.1 231 47) (gL2_ 47 rfl) dX12_trees_58 ?_
        refine p_X12_738 Cx hW hL (k := 231) (by decide) rfl dX12_trees_61 (fun H locs hW hL => ?_)
        have F_3 : Fr S (uF S2 231 100 (S.1 231 47)) (pl [231, 233, 234, 235, 237, 238, 240, 277, 283, 284, 288, 289, 291, 292, 293]) := hFm2.F rfl
        have g_4 : FF S (uF S2 231 100 (S.1 231 47)) (fl [20, 21, 24, 100]) := FF.F hGm2 rfl
        have i_5 : dX G (uF S2 231 100 (S.1 231 47)) := hI2.F (i := 100) (show (-2147483648) ≤ S.1 231 47 ∧ S.1 231 47 ≤ 2147483647 from ⟨by omega, by omega⟩)
        refine lv_iconst (v := iv 0) hx hb dX12_trees_64 (by decide) ?_
        refine lv_istore_n (lv' := [(2, .int (iv 0)), (0, .ref (G.2.2.1 + 231)), (1, .int (iv bb))]) hx hb dX12_trees_65 rfl hl (by decide) rfl (fun ls hl => ?_)
        refine lv_iconst (v := iv 0) hx hb dX12_trees_66 (by decide) ?_
        refine lv_istore_n (lv' := [(3, .int (iv 0)), (2, .int (iv 0)), (0, .ref (G.2.2.1 + 231)), (1, .int (iv bb))]) hx hb dX12_trees_67 rfl hl (by decide) rfl (fun ls hl => ?_)
        have loop_68 : ∀ (fuel : Nat) (S68 : sS) (it : Int) (wt : Int) (H : Heap) (locs : List Loc) (ls : Array Slot), (3000 - it).toNat < fuel → (dX G S68) → (Fr S S68 (pl [231, 233, 234, 235, 237, 238, 240, 277, 283, 284, 288, 289, 291, 292, 293])) → (Fr ((uF S2 231 100 (S.1 231 47))) S68 (pl [231, 233, 234, 235, 237, 238, 240, 277, 283, 284, 288, 289, 291, 292, 293])) → (FF S S68 (fl [20, 21, 24, 100])) → (FF ((uF S2 231 100 (S.1 231 47))) S68 (fl [20, 21, 24, 100])) → (0 ≤ wt ∧ wt ≤ it ∧ it ≤ 3000 ∧ 0 ≤ S68.1 231 100 ∧ S68.1 231 100 ≤ 40) → (dHA S68) → (Hd (S68.1 231 20 = 0 → 0 ≤ S68.1 231 24)) → (Hd (S68.1 231 20 = 0 → ∃ c R wr wk wv, HRr S68 c R n ∧ WTq kp vp S68 wt wr wk wv ∧ HS n A wh bb vt vb kp vp pz mm A 0 (fun _ => 0) (fun _ => 0) (fun _ => 0) (3000 - it).toNat (S68.1 231 24) c R wt wr wk wv)) → (Hd (S68.1 231 20 ≠ 0 → HT n (wct wh n.toNat) wh bb vt vb kp vp 3000 pz mm A 0 (fun _ => 0) (fun _ => 0) (fun _ => 0) (S68.1 231 20))) → sW G 294 S68 H → sL G locs → lv_has ls 7 [(3, .int (iv it)), (2, .int (iv wt)), (0, .ref (G.2.2.1 + 231)), (1, .int (iv bb))] → W p l e (rmk 7 0 0) s m args below meth c H locs 0 0 (MQ below (sQv G 294 (fun u => dX G u ∧ Fr S u (pl [231, 233, 234, 235, 237, 238, 240, 277, 283, 284, 288, 289, 291, 292, 293]) ∧ FF S u (fl [20, 21, 24, 100]) ∧ (dHA u ∧ Hd (HT n (wct wh n.toNat) wh bb vt vb kp vp 3000 pz mm A 0 (fun _ => 0) (fun _ => 0) (fun _ => 0) (u.1 231 20))))) args s 0 0 (sF G)) (F0 m 68 ls []) := by
          intro fuel
          induction fuel with
          | zero => intro S68 it wt H locs ls hmeas hI68 hFm68 hL68_ hGm68 gL68_ hwt hA68 hc68 hst68 hfin68 hW hL hl; exact absurd hmeas (Nat.not_lt_zero _)
          | succ fuel ih_68 =>
            intro S68 it wt H locs ls hmeas hI68 hFm68 hL68_ hGm68 gL68_ hwt hA68 hc68 hst68 hfin68 hW hL hl
            refine lv_aload_n hx hb dX12_trees_68 rfl (lv_at hl 2 rfl) ?_
            have q_6 : (-2147483648) ≤ S68.1 231 20 ∧ S68.1 231 20 ≤ 2147483647 := hI68.fi 20
            refine g_X12_270 Cx hW (k := 231) (by decide) rfl (v := S68.1 231 20) rfl dX12_trees_69 ?_
            refine r_if_ne (tgt := 423) hx hb ⟨(by omega), (by omega)⟩ dX12_trees_72 (by decide) (fun c_7 => ?_) (fun c_7 => ?_)
            · exact sVret Cx hr hlk hW hL ⟨hI68, hFm68, hGm68, ⟨hA68, hfin68 (by omega)⟩⟩ dX12_trees_423
            · have hc8 := hc68 (by omega)
              obtain ⟨c1, R1, wr1, wk1, wv1, hR1, hW1, hS1⟩ := hst68 (by omega)
              have hR1 : Hd _ := hR1; have hW1 : Hd _ := hW1
              have hok := hS1.1
              have hok0 := hok.1; have hok1 := hok.2.1; have hok2 := hok.2.2.1; have hok3 : Hd _ := hok.2.2.2
              clear hok
              have hRc1 := hR1.1
              have hk1 : Hd _ := hS1.k
              have hkn0 : kp (S68.1 231 24) ≠ 0 := by rcases hk1 with z | z <;> omega
              have hT0 := hKT _ hkn0
              have hkr1 : 12 ≤ kp (S68.1 231 24) ∧ kp (S68.1 231 24) ≤ 15 := by rcases hk1 with z | z <;> omega
              have hk11 : kp (S68.1 231 24 + 1) = 2 := by rcases hk1 with z | z; (exact z.2.1); (exact z.2.1)
              have hT1 := hKS.1 (S68.1 231 24 + 1) (by omega) (by omega)
              have hkq : krq (K (S68.1 231 24)) (Vt (S68.1 231 24)) (kp (S68.1 231 24)) := hkr.1 (S68.1 231 24) hT0.1 hT0.2
              unfold krq at hkq
              have hS1 : Hd _ := hS1
              refine lv_aload_n hx hb dX12_trees_75 rfl (lv_at hl 2 rfl) ?_
              have q_8 : (-2147483648) ≤ S68.1 231 24 ∧ S68.1 231 24 ≤ 2147483647 := hI68.fi 24
              refine g_X12_315 Cx hW (k := 231) (by decide) rfl (v := S68.1 231 24) rfl dX12_trees_76 ?_
              refine lv_istore (lv' := [(4, .int (iv (S68.1 231 24))), (3, .int (iv it)), (2, .int (iv wt)), (0, .ref (G.2.2.1 + 231)), (1, .int (iv bb))]) hx hb dX12_trees_79 hl (by decide) rfl (fun ls hl => ?_)
              refine lv_aload_n hx hb dX12_trees_81 rfl (lv_at hl 3 rfl) ?_
              refine g_X12_56 Cx hW (k := 231) (by decide) rfl (v := .ref (G.2.2.1 + 247)) (rd_18 hI68) dX12_trees_82 ?_
              refine lv_iload hx hb dX12_trees_85 (lv_at hl 0 rfl) ?_
              refine rIald Cx hW (k := 247) (by decide) rfl (by decide) (by omega) (by omega) dX12_trees_87 ?_
              have q_9 : (-2147483648) ≤ S.2.1 247 (S68.1 231 24) ∧ S.2.1 247 (S68.1 231 24) ≤ 2147483647 := hI.ai 247 (S68.1 231 24)
              refine r_i (b := S.2.1 247 (S68.1 231 24)) (((hL68_ 247 rfl).2.1 (S68.1 231 24)).trans ((uF_a).trans ((hL2_ 247 rfl).2.1 (S68.1 231 24)))) ?_
              have hr2 : Vt (S68.1 231 24) = S.2.1 247 (S68.1 231 24) := by rw [← hVt]
              refine lv_istore (lv' := [(5, .int (iv (S.2.1 247 (S68.1 231 24)))), (4, .int (iv (S68.1 231 24))), (3, .int (iv it)), (2, .int (iv wt)), (0, .ref (G.2.2.1 + 231)), (1, .int (iv bb))]) hx hb dX12_trees_88 hl (by decide) rfl (fun ls hl => ?_)
              refine lv_iinc (v := iv (it + 1)) (lv' := [(3, .int (iv (it + 1))), (5, .int (iv (S.2.1 247 (S68.1 231 24)))), (4, .int (iv (S68.1 231 24))), (2, .int (iv wt)), (0, .ref (G.2.2.1 + 231)), (1, .int (iv bb))]) hx hb dX12_trees_90 hl (k := 2) rfl ((Int32.ofInt_add _ _).symm) (by decide) rfl (fun ls hl => ?_)
              refine lv_iload_n hx hb dX12_trees_93 rfl (lv_at hl 0 rfl) ?_
              refine lv_sipush (v := iv 3000) hx hb dX12_trees_94 (by decide) ?_
              refine r_icmp_le (tgt := 109) hx hb ⟨(by omega), (by omega)⟩ ⟨(by omega), (by omega)⟩ dX12_trees_97 (by decide) (fun c_10 => ?_) (fun c_10 => ?_)
              · obtain ⟨F1, hF1⟩ : ∃ F, (3000 - it).toNat = F + 1 := ⟨(2999 - it).toNat, by omega⟩
                have hS2 := hS1; rw [hF1] at hS2
                have hS2 : Hd _ := hS2
                refine lv_iload hx hb dX12_trees_109 (lv_at hl 1 rfl) ?_
                refine lv_iconst (v := iv 5) hx hb dX12_trees_111 (by decide) ?_
                refine r_icmp_ne (tgt := 232) hx hb ⟨(by omega), (by omega)⟩ ⟨(by omega), (by omega)⟩ dX12_trees_112 (by decide) (fun c_11 => ?_) (fun c_11 => ?_)
                · have hn12 : kp (S68.1 231 24) ≠ 12 := by omega
                  have hpx : 0 < vp (S68.1 231 24 + 1) ∧ ∃ x, gPr kp 30001 (S68.1 231 24 + 2) = some x := by rcases hk1 with z | z; (exfalso; omega); (exact z.2.2)
                  have hpx0 := hpx.1; have hpx1 : Hd _ := hpx.2; clear hpx
                  have hq_12b := hKS.1 (S68.1 231 24 + 1) (by rw [hk11]; decide) (by rw [hk11]; decide)
                  have hq_12 : Hd _ := hQ (S68.1 231 24 + 1) hq_12b.1 (by omega) hk11
                  refine lv_aload_n hx hb dX12_trees_232 rfl (lv_at hl 4 rfl) ?_
                  refine lv_iload hx hb dX12_trees_233 (lv_at hl 2 rfl) ?_
                  refine lv_iconst (v := iv 1) hx hb dX12_trees_235 (by decide) ?_
                  refine r_iadd hx hb dX12_trees_236 ?_
                  refine lv_aload_n hx hb dX12_trees_237 rfl (lv_at hl 4 rfl) ?_
                  refine g_X12_184 Cx hW (k := 231) (by decide) rfl (v := .ref (G.2.2.1 + 288)) (rd_98 hI68) dX12_trees_238 ?_
                  refine lv_iconst (v := iv 0) hx hb dX12_trees_241 (by decide) ?_
                  refine sBv (sV (As := [.int (iv ((S68.1 231 24) + 1)), .ref (G.2.2.1 + 288), .int (iv 0)]) (rest := []) (k := 231) Cx (q_X12_numberAt l G S68 (tk := (S68.1 231 24) + 1) (ka := 288) (po := 0) (Nka := 10) (Xt := Xt) (Fm := Fm) (Wd := Wd) (Vt := Vt) (xx := vp (S68.1 231 24 + 1)) hI68 ⟨rfl, by decide, by decide, by decide, rfl⟩ (show (288 : Nat) ≠ 243 by decide) (show (288 : Nat) ≠ 245 by decide) (show (288 : Nat) ≠ 246 by decide) (show (288 : Nat) ≠ 247 by decide) ((funext fun j => ((hL68_ 243 rfl).2.1 j).trans ((uF_a).trans ((hL2_ 243 rfl).2.1 j)) : S68.2.1 243 = S.2.1 243).trans hX) ((funext fun j => ((hL68_ 245 rfl).2.1 j).trans ((uF_a).trans ((hL2_ 245 rfl).2.1 j)) : S68.2.1 245 = S.2.1 245).trans hFm) ((funext fun j => ((hL68_ 246 rfl).2.1 j).trans ((uF_a).trans ((hL2_ 246 rfl).2.1 j)) : S68.2.1 246 = S.2.1 246).trans hWd) ((funext fun j => ((hL68_ 247 rfl).2.1 j).trans ((uF_a).trans ((hL2_ 247 rfl).2.1 j)) : S68.2.1 247 = S.2.1 247).trans hVt) hq_12.1 hq_12.2 (by omega) (by omega)) (c_X12_703 Cx rfl rfl (rmk_ok (by omega) (by decide))) hW (by decide) rfl rfl rfl hl.1 rfl (Nat.le_of_ble_eq_true rfl) dX12_trees_242 ⟨Nat.le_of_ble_eq_true rfl, Nat.le_of_ble_eq_true rfl⟩) hL (fun u_13 H locs k_14 hW hL => ?_)
                  obtain ⟨iu_13, fu_13, gu_13, xu_13⟩ := k_14
                  have F_15 := hFm68.trans (fu_13.to (pl_sub (by decide)))
                  have F_16 := hL68_.trans (fu_13.to (pl_sub (by decide)))
                  have g_17 : FF S u_13 (fl [20, 21, 24, 100]) := FF.trans hGm68 (FF.to gu_13 (fl_sub (by decide)))
                  have g_18 : FF ((uF S2 231 100 (S.1 231 47))) u_13 (fl [20, 21, 24, 100]) := FF.trans gL68_ (FF.to gu_13 (fl_sub (by decide)))
                  have nv_19 : nv (u_13.2.1 288) 0 = vp (S68.1 231 24 + 1) := xu_13.2.1
                  refine lv_aload_n hx hb dX12_trees_245 rfl (lv_at hl 4 rfl) ?_
                  refine lv_iload hx hb dX12_trees_246 (lv_at hl 2 rfl) ?_
                  refine lv_iconst (v := iv 2) hx hb dX12_trees_248 (by decide) ?_
                  refine r_iadd hx hb dX12_trees_249 ?_
                  refine p_X12_315 Cx hW hL (k := 231) (by decide) rfl dX12_trees_250 (fun H locs hW hL => ?_)
                  have F_20 : Fr S (uF u_13 231 24 ((S68.1 231 24) + 2)) (pl [231, 233, 234, 235, 237, 238, 240, 277, 283, 284, 288, 289, 291, 292, 293]) := F_15.F rfl
                  have F_21 : Fr ((uF S2 231 100 (S.1 231 47))) (uF u_13 231 24 ((S68.1 231 24) + 2)) (pl [231, 233, 234, 235, 237, 238, 240, 277, 283, 284, 288, 289, 291, 292, 293]) := F_16.F rfl
                  have g_22 : FF S (uF u_13 231 24 ((S68.1 231 24) + 2)) (fl [20, 21, 24, 100]) := FF.F g_17 rfl
                  have g_23 : FF ((uF S2 231 100 (S.1 231 47))) (uF u_13 231 24 ((S68.1 231 24) + 2)) (fl [20, 21, 24, 100]) := FF.F g_18 rfl
                  have i_24 : dX G (uF u_13 231 24 ((S68.1 231 24) + 2)) := iu_13.F (i := 24) (show (-2147483648) ≤ (S68.1 231 24) + 2 ∧ (S68.1 231 24) + 2 ≤ 2147483647 from ⟨by omega, by omega⟩)
                  refine lv_aload_n hx hb dX12_trees_253 rfl (lv_at hl 4 rfl) ?_
                  have q_25 : (-2147483648) ≤ S.1 231 46 ∧ S.1 231 46 ≤ 2147483647 := hI.fi 46
                  have lk_26 : (uF u_13 231 24 ((S68.1 231 24) + 2)).1 231 46 = S.1 231 46 := (uF_ne (fun h => absurd h.2 (by decide))).trans ((gu_13 46 rfl).trans ((gL68_ 46 rfl).trans ((uF_ne (fun h => absurd h.2 (by decide))).trans (gL2_ 46 rfl))))
                  have q_27 : (-2147483648) ≤ S68.1 231 100 ∧ S68.1 231 100 ≤ 2147483647 := hI68.fi 100
                  have lk_28 : (uF u_13 231 24 ((S68.1 231 24) + 2)).1 231 100 = S68.1 231 100 := (uF_ne (fun h => absurd h.2 (by decide))).trans (gu_13 100 rfl)
                  have lk_29 : (uF u_13 231 24 ((S68.1 231 24) + 2)).1 231 24 = (S68.1 231 24) + 2 := uF_on
                  refine sBi (sV (As := []) (rest := []) (k := 231) Cx (q_X12_pairs l G (uF u_13 231 24 ((S68.1 231 24) + 2)) (Xt := Xt) (Fm := Fm) (Wd := Wd) (Vt := Vt) (T := T) (kp := kp) (vp := vp) (K := K) (n := n) (cc := c1) (RR := R1) (pz := (S68.1 231 24) + 2) i_24 ((funext fun j => (uF_a).trans (((fu_13 244 rfl).2.1 j).trans (((hL68_ 244 rfl).2.1 j).trans ((uF_a).trans ((hL2_ 244 rfl).2.1 j)))) : (uF u_13 231 24 ((S68.1 231 24) + 2)).2.1 244 = S.2.1 244).trans hK) ((funext fun j => (uF_a).trans (((fu_13 243 rfl).2.1 j).trans (((hL68_ 243 rfl).2.1 j).trans ((uF_a).trans ((hL2_ 243 rfl).2.1 j)))) : (uF u_13 231 24 ((S68.1 231 24) + 2)).2.1 243 = S.2.1 243).trans hX) ((funext fun j => (uF_a).trans (((fu_13 245 rfl).2.1 j).trans (((hL68_ 245 rfl).2.1 j).trans ((uF_a).trans ((hL2_ 245 rfl).2.1 j)))) : (uF u_13 231 24 ((S68.1 231 24) + 2)).2.1 245 = S.2.1 245).trans hFm) ((funext fun j => (uF_a).trans (((fu_13 246 rfl).2.1 j).trans (((hL68_ 246 rfl).2.1 j).trans ((uF_a).trans ((hL2_ 246 rfl).2.1 j)))) : (uF u_13 231 24 ((S68.1 231 24) + 2)).2.1 246 = S.2.1 246).trans hWd) ((funext fun j => (uF_a).trans (((fu_13 247 rfl).2.1 j).trans (((hL68_ 247 rfl).2.1 j).trans ((uF_a).trans ((hL2_ 247 rfl).2.1 j)))) : (uF u_13 231 24 ((S68.1 231 24) + 2)).2.1 247 = S.2.1 247).trans hVt) (by omega) (by omega) (by omega) (dHA.sm (S := S68) (u := (uF u_13 231 24 ((S68.1 231 24) + 2))) hA68 (funext fun j => (uF_a).trans ((fu_13 283 rfl).2.1 j))) (HRr.sm (S := S68) (u := (uF u_13 231 24 ((S68.1 231 24) + 2))) hR1 ((uF_ne (fun h => absurd h.2 (by decide))).trans (gu_13 100 rfl)) (funext fun j => (uF_a).trans ((fu_13 283 rfl).2.1 j))) (by omega) hpx1 hQ hKS hkr hKT (by omega)) (c_X12_748 Cx rfl rfl (rmk_ok (by omega) (by decide))) hW (by decide) rfl rfl rfl hl.1 rfl (Nat.le_of_ble_eq_true rfl) dX12_trees_254 ⟨Nat.le_of_ble_eq_true rfl, Nat.le_of_ble_eq_true rfl⟩) hL (fun okp u_30 H locs k_31 hW hL => ?_)
                  obtain ⟨iu_30, fu_30, gu_30, xu_30⟩ := k_31
                  have F_32 := F_20.trans (fu_30.to (pl_sub (by decide)))
                  have F_33 := F_21.trans (fu_30.to (pl_sub (by decide)))
                  have g_34 : FF S u_30 (fl [20, 21, 24, 100]) := FF.trans g_22 (FF.to gu_30 (fl_sub (by decide)))
                  have g_35 : FF ((uF S2 231 100 (S.1 231 47))) u_30 (fl [20, 21, 24, 100]) := FF.trans g_23 (FF.to gu_30 (fl_sub (by decide)))
                  have hpa4 : Hd (okp = 0 → prs c1 kp vp 30001 (S68.1 231 24 + 2) 0 (fun _ => 0) = none) := xu_30.2.2.2.1
                  have hpa5 : Hd (okp = 1 → ∃ ff, prs c1 kp vp 30001 (S68.1 231 24 + 2) 0 (fun _ => 0) = some (ff, u_30.1 231 24) ∧ SMr u_30 (fun j => smf ff R1 j c1.toNat) n) := xu_30.2.2.2.2
                  have hcu9 : 0 ≤ u_30.1 231 24 := by have y := gPr_le _ _ _ xu_30.2.1; omega
                  refine lv_istore (lv' := [(6, .int (iv okp)), (3, .int (iv (it + 1))), (5, .int (iv (S.2.1 247 (S68.1 231 24)))), (4, .int (iv (S68.1 231 24))), (2, .int (iv wt)), (0, .ref (G.2.2.1 + 231)), (1, .int (iv bb))]) hx hb dX12_trees_257 hl (by decide) rfl (fun ls hl => ?_)
                  refine lv_iload hx hb dX12_trees_259 (lv_at hl 2 rfl) ?_
                  refine lv_bipush (v := iv 6) hx hb dX12_trees_261 (by decide) ?_
                  refine r_icmp_ne (tgt := 338) hx hb ⟨(by omega), (by omega)⟩ ⟨(by omega), (by omega)⟩ dX12_trees_263 (by decide) (fun c_36 => ?_) (fun c_36 => ?_)
                  · refine lv_iload hx hb dX12_trees_338 (lv_at hl 0 rfl) ?_
                    refine r_if_eq (tgt := 371) hx hb ⟨(by omega), (by omega)⟩ dX12_trees_340 (by decide) (fun c_37 => ?_) (fun c_37 => ?_)
                    · refine lv_aload_n hx hb dX12_trees_371 rfl (lv_at hl 5 rfl) ?_
                      refine lv_iconst (v := iv 4) hx hb dX12_trees_372 (by decide) ?_
                      refine lv_iload hx hb dX12_trees_373 (lv_at hl 3 rfl) ?_
                      have lk_38 : u_30.1 231 20 = S68.1 231 20 := (gu_30 20 rfl).trans ((uF_ne (fun h => absurd h.2 (by decide))).trans (gu_13 20 rfl))
                      refine sBv (sV (As := [.int (iv 4), .int (iv (S68.1 231 24))]) (rest := []) (k := 231) Cx (q_X12_wrong l G u_30 (cd := 4) (tk := S68.1 231 24) iu_30 (by omega) (by omega)) (c_X12_321 Cx rfl rfl (rmk_ok (by omega) (by decide))) hW (by decide) rfl rfl rfl hl.1 rfl (Nat.le_of_ble_eq_true rfl) dX12_trees_375 ⟨Nat.le_of_ble_eq_true rfl, Nat.le_of_ble_eq_true rfl⟩) hL (fun u_39 H locs k_40 hW hL => ?_)
                      obtain ⟨iu_39, fu_39, gu_39, xu_39⟩ := k_40
                      have F_41 := F_32.trans (fu_39.to (pl_sub (by decide)))
                      have F_42 := F_33.trans (fu_39.to (pl_sub (by decide)))
                      have g_43 : FF S u_39 (fl [20, 21, 24, 100]) := FF.trans g_34 (FF.to gu_39 (fl_sub (by decide)))
                      have g_44 : FF ((uF S2 231 100 (S.1 231 47))) u_39 (fl [20, 21, 24, 100]) := FF.trans g_35 (FF.to gu_39 (fl_sub (by decide)))
                      refine lv_iload_n hx hb dX12_trees_378 rfl (lv_at hl 4 rfl) ?_
                      refine r_if_eq (tgt := 389) hx hb ⟨(by omega), (by omega)⟩ dX12_trees_379 (by decide) (fun c_45 => ?_) (fun c_45 => ?_)
                      · have q_46 : (-2147483648) ≤ u_39.1 231 20 ∧ u_39.1 231 20 ≤ 2147483647 := iu_39.fi 20
                        exact sVret Cx hr hlk hW hL ⟨iu_39, F_41, g_43, ⟨(dHA.sm (S := S68) (u := u_39) hA68 (funext fun j => ((fu_39 283 rfl).2.1 j).trans (((fu_30 283 rfl).2.1 j).trans ((uF_a).trans ((fu_13 283 rfl).2.1 j))))), (by rw [(show u_39.1 231 20 = 4 by have y := (show u_39.1 231 20 = u_39.1 231 20 from rfl); have y2 := xu_39.1; omega)]; exact (HS.x4 hS2 hn12 (hpa4 (by omega))))⟩⟩ dX12_trees_389
                      · refine lv_aload_n hx hb dX12_trees_382 rfl (lv_at hl 5 rfl) ?_
                        have q_47 : (-2147483648) ≤ u_39.1 231 20 ∧ u_39.1 231 20 ≤ 2147483647 := iu_39.fi 20
                        refine g_X12_270 Cx hW (k := 231) (by decide) rfl (v := u_39.1 231 20) rfl dX12_trees_383 ?_
                        refine r_if_eq (tgt := 390) hx hb ⟨(by omega), (by omega)⟩ dX12_trees_386 (by decide) (fun c => absurd c (by omega)) (fun _ => ?_)
                        exact sVret Cx hr hlk hW hL ⟨iu_39, F_41, g_43, ⟨(dHA.sm (S := S68) (u := u_39) hA68 (funext fun j => ((fu_39 283 rfl).2.1 j).trans (((fu_30 283 rfl).2.1 j).trans ((uF_a).trans ((fu_13 283 rfl).2.1 j))))), (by rw [(show u_39.1 231 20 = 4 by have y := (show u_39.1 231 20 = u_39.1 231 20 from rfl); have y2 := xu_39.1; omega)]; exact (HS.x4 hS2 hn12 (hpa4 (by omega))))⟩⟩ dX12_trees_389
                    · obtain ⟨ff, hprs, hSM5⟩ := hpa5 (by omega)
                      have hprs : Hd _ := hprs; have hSM5 : Hd _ := hSM5
                      refine lv_iload hx hb dX12_trees_343 (lv_at hl 2 rfl) ?_
                      refine lv_bipush (v := iv 7) hx hb dX12_trees_345 (by decide) ?_
                      refine r_icmp_ne (tgt := 364) hx hb ⟨(by omega), (by omega)⟩ ⟨(by omega), (by omega)⟩ dX12_trees_347 (by decide) (fun c_48 => ?_) (fun c_48 => ?_)
                      · refine lv_aload_n hx hb dX12_trees_364 rfl (lv_at hl 5 rfl) ?_
                        have lk_49 : u_30.1 231 46 = S.1 231 46 := (gu_30 46 rfl).trans ((uF_ne (fun h => absurd h.2 (by decide))).trans ((gu_13 46 rfl).trans ((gL68_ 46 rfl).trans ((uF_ne (fun h => absurd h.2 (by decide))).trans (gL2_ 46 rfl)))))
                        refine sBi (sV (As := []) (rest := []) (k := 231) Cx (q_X12_isFarkas l G u_30 (n := n) (ss := (fun j => smf ff R1 j c1.toNat)) iu_30 (by omega) (by omega) xu_30.2.2.1 hSM5) (c_X12_757 Cx rfl rfl (rmk_ok (by omega) (by decide))) hW (by decide) rfl rfl rfl hl.1 rfl (Nat.le_of_ble_eq_true rfl) dX12_trees_365 ⟨Nat.le_of_ble_eq_true rfl, Nat.le_of_ble_eq_true rfl⟩) hL (fun r_52 u_50 H locs k_51 hW hL => ?_)
                        obtain ⟨eu_50, xu_50⟩ := k_51
                        rw [eu_50] at hW
                        have hfk := (show _ ↔ _ from xu_50.2)
                        have hfk : Hd _ := hfk
                        refine r_if_ne (tgt := 378) hx hb ⟨(by omega), (by omega)⟩ dX12_trees_368 (by decide) (fun c_53 => ?_) (fun c_53 => ?_)
                        · refine lv_iload_n hx hb dX12_trees_378 rfl (lv_at hl 4 rfl) ?_
                          refine r_if_eq (tgt := 389) hx hb ⟨(by omega), (by omega)⟩ dX12_trees_379 (by decide) (fun c_54 => ?_) (fun c_54 => ?_)
                          · have lk_55 : u_30.1 231 20 = S68.1 231 20 := (gu_30 20 rfl).trans ((uF_ne (fun h => absurd h.2 (by decide))).trans (gu_13 20 rfl))
                            exact sVret Cx hr hlk hW hL ⟨iu_30, F_32, g_34, ⟨(dHA.sm (S := S68) (u := u_30) hA68 (funext fun j => ((fu_30 283 rfl).2.1 j).trans ((uF_a).trans ((fu_13 283 rfl).2.1 j)))), (by rw [(show u_30.1 231 20 = 0 by have y := (show u_30.1 231 20 = S68.1 231 20 from (gu_30 20 rfl).trans ((uF_ne (fun h => absurd h.2 (by decide))).trans (gu_13 20 rfl))); omega)]; exact HS.l0 hS2 hn12 (by omega) hprs (.inl ⟨by omega, hfk.mp (by omega)⟩) (by omega))⟩⟩ dX12_trees_389
                          · refine lv_aload_n hx hb dX12_trees_382 rfl (lv_at hl 5 rfl) ?_
                            refine g_X12_270 Cx hW (k := 231) (by decide) rfl (v := S68.1 231 20) ((gu_30 20 rfl).trans ((uF_ne (fun h => absurd h.2 (by decide))).trans (gu_13 20 rfl))) dX12_trees_383 ?_
                            refine r_if_eq (tgt := 390) hx hb ⟨(by omega), (by omega)⟩ dX12_trees_386 (by decide) (fun _ => ?_) (fun c => absurd (by omega) c)
                            have hlw := HS.lw hS2 hn12 (by omega) hprs (.inl ⟨by omega, hfk.mp (by omega)⟩) (by omega)
                            rw [show wt - 1 = wt + (-1) by omega] at hlw
                            have hlw : Hd _ := hlw
                            have hww := hW1 (wt + (-1)) (by omega) (by omega)
                            have hok9 := hok3 (wt + (-1)) (by omega) (by omega)
                            have hok91 := hok9.1; have hok92 := hok9.2.1; have hok93 := hok9.2.2.1; clear hok9
                            have hww1 := hww.1; have hww2 := hww.2.1; have hww3 := hww.2.2.1; have hww4 := hww.2.2.2; clear hww
                            refine lv_iinc (v := iv (wt + (-1))) (lv' := [(2, .int (iv (wt + (-1)))), (6, .int (iv okp)), (3, .int (iv (it + 1))), (5, .int (iv (S.2.1 247 (S68.1 231 24)))), (4, .int (iv (S68.1 231 24))), (0, .ref (G.2.2.1 + 231)), (1, .int (iv bb))]) hx hb dX12_trees_390 hl (k := 4) rfl ((Int32.ofInt_add _ _).symm) (by decide) rfl (fun ls hl => ?_)
                            refine lv_aload_n hx hb dX12_trees_393 rfl (lv_at hl 5 rfl) ?_
                            refine lv_aload_n hx hb dX12_trees_394 rfl (lv_at hl 5 rfl) ?_
                            refine g_X12_193 Cx hW (k := 231) (by decide) rfl (v := .ref (G.2.2.1 + 291)) (rd_102 iu_30) dX12_trees_395 ?_
                            refine lv_iload_n hx hb dX12_trees_398 rfl (lv_at hl 0 rfl) ?_
                            refine rIald Cx hW (k := 291) (by decide) rfl (by decide) (by omega) (by omega) dX12_trees_399 ?_
                            have q_56 : (-2147483648) ≤ S68.2.1 291 (wt + (-1)) ∧ S68.2.1 291 (wt + (-1)) ≤ 2147483647 := hI68.ai 291 (wt + (-1))
                            refine r_i (b := S68.2.1 291 (wt + (-1))) (((fu_30 291 rfl).2.1 (wt + (-1))).trans ((uF_a).trans ((fu_13 291 rfl).2.1 (wt + (-1))))) ?_
                            refine p_X12_738 Cx hW hL (k := 231) (by decide) rfl dX12_trees_400 (fun H locs hW hL => ?_)
                            have F_57 : Fr S (uF u_30 231 100 (S68.2.1 291 (wt + (-1)))) (pl [231, 233, 234, 235, 237, 238, 240, 277, 283, 284, 288, 289, 291, 292, 293]) := F_32.F rfl
                            have F_58 : Fr ((uF S2 231 100 (S.1 231 47))) (uF u_30 231 100 (S68.2.1 291 (wt + (-1)))) (pl [231, 233, 234, 235, 237, 238, 240, 277, 283, 284, 288, 289, 291, 292, 293]) := F_33.F rfl
                            have g_59 : FF S (uF u_30 231 100 (S68.2.1 291 (wt + (-1)))) (fl [20, 21, 24, 100]) := FF.F g_34 rfl
                            have g_60 : FF ((uF S2 231 100 (S.1 231 47))) (uF u_30 231 100 (S68.2.1 291 (wt + (-1)))) (fl [20, 21, 24, 100]) := FF.F g_35 rfl
                            have i_61 : dX G (uF u_30 231 100 (S68.2.1 291 (wt + (-1)))) := iu_30.F (i := 100) (show (-2147483648) ≤ S68.2.1 291 (wt + (-1)) ∧ S68.2.1 291 (wt + (-1)) ≤ 2147483647 from ⟨by omega, by omega⟩)
                            refine lv_aload_n hx hb dX12_trees_403 rfl (lv_at hl 5 rfl) ?_
                            refine lv_aload_n hx hb dX12_trees_404 rfl (lv_at hl 5 rfl) ?_
                            refine g_X12_196 Cx hW (k := 231) (by decide) rfl (v := .ref (G.2.2.1 + 292)) (rd_103 i_61) dX12_trees_405 ?_
                            refine lv_iload_n hx hb dX12_trees_408 rfl (lv_at hl 0 rfl) ?_
                            refine rIald Cx hW (k := 292) (by decide) rfl (by decide) (by omega) (by omega) dX12_trees_409 ?_
                            have q_62 : (-2147483648) ≤ S68.2.1 292 (wt + (-1)) ∧ S68.2.1 292 (wt + (-1)) ≤ 2147483647 := hI68.ai 292 (wt + (-1))
                            refine r_i (b := S68.2.1 292 (wt + (-1))) ((uF_a).trans (((fu_30 292 rfl).2.1 (wt + (-1))).trans ((uF_a).trans ((fu_13 292 rfl).2.1 (wt + (-1)))))) ?_
                            have hT9 := hKS.1 (S68.2.1 293 (wt + (-1))) (by omega) (by omega)
                            refine lv_aload_n hx hb dX12_trees_410 rfl (lv_at hl 5 rfl) ?_
                            refine g_X12_199 Cx hW (k := 231) (by decide) rfl (v := .ref (G.2.2.1 + 293)) (rd_104 i_61) dX12_trees_411 ?_
                            refine lv_iload_n hx hb dX12_trees_414 rfl (lv_at hl 0 rfl) ?_
                            refine rIald Cx hW (k := 293) (by decide) rfl (by decide) (by omega) (by omega) dX12_trees_415 ?_
                            have q_63 : (-2147483648) ≤ S68.2.1 293 (wt + (-1)) ∧ S68.2.1 293 (wt + (-1)) ≤ 2147483647 := hI68.ai 293 (wt + (-1))
                            refine r_i (b := S68.2.1 293 (wt + (-1))) ((uF_a).trans (((fu_30 293 rfl).2.1 (wt + (-1))).trans ((uF_a).trans ((fu_13 293 rfl).2.1 (wt + (-1)))))) ?_
                            refine lv_iconst (v := iv 1) hx hb dX12_trees_416 (by decide) ?_
                            have lk_64 : (uF u_30 231 100 (S68.2.1 291 (wt + (-1)))).1 231 46 = S.1 231 46 := (uF_ne (fun h => absurd h.2 (by decide))).trans ((gu_30 46 rfl).trans ((uF_ne (fun h => absurd h.2 (by decide))).trans ((gu_13 46 rfl).trans ((gL68_ 46 rfl).trans ((uF_ne (fun h => absurd h.2 (by decide))).trans (gL2_ 46 rfl))))))
                            have lk_65 : (uF u_30 231 100 (S68.2.1 291 (wt + (-1)))).1 231 100 = S68.2.1 291 (wt + (-1)) := uF_on
                            refine sBv (sV (As := [.int (iv (S68.2.1 292 (wt + (-1)))), .int (iv (S68.2.1 293 (wt + (-1)))), .int (iv 1)]) (rest := []) (k := 231) Cx (q_X12_branchRow l G (uF u_30 231 100 (S68.2.1 291 (wt + (-1)))) (k := S68.2.1 292 (wt + (-1))) (tk := S68.2.1 293 (wt + (-1))) (bb := 1) (Xt := Xt) (Fm := Fm) (Wd := Wd) (Vt := Vt) (T := T) (kp := kp) (vp := vp) (n := n) (cc := (wr1 (wt + (-1)))) (RR := R1) i_61 ((funext fun j => (uF_a).trans (((fu_30 243 rfl).2.1 j).trans ((uF_a).trans (((fu_13 243 rfl).2.1 j).trans (((hL68_ 243 rfl).2.1 j).trans ((uF_a).trans ((hL2_ 243 rfl).2.1 j)))))) : (uF u_30 231 100 (S68.2.1 291 (wt + (-1)))).2.1 243 = S.2.1 243).trans hX) ((funext fun j => (uF_a).trans (((fu_30 245 rfl).2.1 j).trans ((uF_a).trans (((fu_13 245 rfl).2.1 j).trans (((hL68_ 245 rfl).2.1 j).trans ((uF_a).trans ((hL2_ 245 rfl).2.1 j)))))) : (uF u_30 231 100 (S68.2.1 291 (wt + (-1)))).2.1 245 = S.2.1 245).trans hFm) ((funext fun j => (uF_a).trans (((fu_30 246 rfl).2.1 j).trans ((uF_a).trans (((fu_13 246 rfl).2.1 j).trans (((hL68_ 246 rfl).2.1 j).trans ((uF_a).trans ((hL2_ 246 rfl).2.1 j)))))) : (uF u_30 231 100 (S68.2.1 291 (wt + (-1)))).2.1 246 = S.2.1 246).trans hWd) ((funext fun j => (uF_a).trans (((fu_30 247 rfl).2.1 j).trans ((uF_a).trans (((fu_13 247 rfl).2.1 j).trans (((hL68_ 247 rfl).2.1 j).trans ((uF_a).trans ((hL2_ 247 rfl).2.1 j)))))) : (uF u_30 231 100 (S68.2.1 291 (wt + (-1)))).2.1 247 = S.2.1 247).trans hVt) hww4 (by omega) (by omega) (by omega) (by omega) (by omega) (by omega) (dHA.sm (S := S68) (u := (uF u_30 231 100 (S68.2.1 291 (wt + (-1))))) hA68 (funext fun j => (uF_a).trans (((fu_30 283 rfl).2.1 j).trans ((uF_a).trans ((fu_13 283 rfl).2.1 j))))) ⟨(by have y := (show (uF u_30 231 100 (S68.2.1 291 (wt + (-1)))).1 231 100 = S68.2.1 291 (wt + (-1)) from uF_on); omega), (show HRf _ _ _ _ from (by rw [show (uF u_30 231 100 (S68.2.1 291 (wt + (-1)))).2.1 283 = S68.2.1 283 from (funext fun j => (uF_a).trans (((fu_30 283 rfl).2.1 j).trans ((uF_a).trans ((fu_13 283 rfl).2.1 j))))]; exact HRf.less hR1.2 (by omega)))⟩ hQ hKS) (c_X12_744 Cx rfl rfl (rmk_ok (by omega) (by decide))) hW (by decide) rfl rfl rfl hl.1 rfl (Nat.le_of_ble_eq_true rfl) dX12_trees_417 ⟨Nat.le_of_ble_eq_true rfl, Nat.le_of_ble_eq_true rfl⟩) hL (fun u_66 H locs k_67 hW hL => ?_)
                            obtain ⟨iu_66, fu_66, gu_66, xu_66⟩ := k_67
                            have F_68 := F_57.trans (fu_66.to (pl_sub (by decide)))
                            have F_69 := F_58.trans (fu_66.to (pl_sub (by decide)))
                            have g_70 : FF S u_66 (fl [20, 21, 24, 100]) := FF.trans g_59 (FF.to gu_66 (fl_sub (by decide)))
                            have g_71 : FF ((uF S2 231 100 (S.1 231 47))) u_66 (fl [20, 21, 24, 100]) := FF.trans g_60 (FF.to gu_66 (fl_sub (by decide)))
                            have hbr9 : Hd (HRr u_66 (wr1 (wt + (-1)) + 1) (upR R1 (wr1 (wt + (-1)) + 1) (limr (wk1 (wt + (-1))) (wv1 (wt + (-1))) 1)) n) := by have h := xu_66.2.2; rw [hww2, hww3] at h; exact h
                            refine lv_goto (tgt := 68) hx hb dX12_trees_420 (by decide) ?_
                            have q_72 : (-2147483648) ≤ u_66.1 231 100 ∧ u_66.1 231 100 ≤ 2147483647 := iu_66.fi 100
                            have lk_73 : u_66.1 231 20 = S68.1 231 20 := (gu_66 20 rfl).trans ((uF_ne (fun h => absurd h.2 (by decide))).trans ((gu_30 20 rfl).trans ((uF_ne (fun h => absurd h.2 (by decide))).trans (gu_13 20 rfl))))
                            have q_74 : (-2147483648) ≤ u_30.1 231 24 ∧ u_30.1 231 24 ≤ 2147483647 := iu_30.fi 24
                            have lk_75 : u_66.1 231 24 = u_30.1 231 24 := (gu_66 24 rfl).trans (uF_ne (fun h => absurd h.2 (by decide)))
                            exact ih_68 u_66 (it + 1) (wt + (-1)) _ _ _ (by omega) iu_66 F_68 F_69 g_70 g_71 (by omega) xu_66.2.1 (fun _ => by have y := (show u_66.1 231 24 = u_30.1 231 24 from (gu_66 24 rfl).trans (uF_ne (fun h => absurd h.2 (by decide)))); omega) (fun _ => ⟨_, _, _, _, _, hbr9, (show WTq _ _ _ _ _ _ _ from (WTq.sm (S := S68) (u := u_66) (WTq.less hW1 (w' := wt + (-1)) (by omega)) (funext fun j => ((fu_66 291 rfl).2.1 j).trans ((uF_a).trans (((fu_30 291 rfl).2.1 j).trans ((uF_a).trans ((fu_13 291 rfl).2.1 j))))) (funext fun j => ((fu_66 292 rfl).2.1 j).trans ((uF_a).trans (((fu_30 292 rfl).2.1 j).trans ((uF_a).trans ((fu_13 292 rfl).2.1 j))))) (funext fun j => ((fu_66 293 rfl).2.1 j).trans ((uF_a).trans (((fu_30 293 rfl).2.1 j).trans ((uF_a).trans ((fu_13 293 rfl).2.1 j))))))), (by rw [(show u_66.1 231 24 = u_30.1 231 24 from (gu_66 24 rfl).trans (uF_ne (fun h => absurd h.2 (by decide)))), ← (show F1 = (3000 - (it + 1)).toNat by omega)]; exact hlw)⟩) (fun h => absurd (by have y := (show u_66.1 231 20 = S68.1 231 20 from (gu_66 20 rfl).trans ((uF_ne (fun h => absurd h.2 (by decide))).trans ((gu_30 20 rfl).trans ((uF_ne (fun h => absurd h.2 (by decide))).trans (gu_13 20 rfl))))); omega) h) hW hL (lv_sub hl [2, 0, 5, 6] rfl)
                        · refine lv_aload_n hx hb dX12_trees_371 rfl (lv_at hl 5 rfl) ?_
                          refine lv_iconst (v := iv 4) hx hb dX12_trees_372 (by decide) ?_
                          refine lv_iload hx hb dX12_trees_373 (lv_at hl 3 rfl) ?_
                          have lk_76 : u_30.1 231 20 = S68.1 231 20 := (gu_30 20 rfl).trans ((uF_ne (fun h => absurd h.2 (by decide))).trans (gu_13 20 rfl))
                          refine sBv (sV (As := [.int (iv 4), .int (iv (S68.1 231 24))]) (rest := []) (k := 231) Cx (q_X12_wrong l G u_30 (cd := 4) (tk := S68.1 231 24) iu_30 (by omega) (by omega)) (c_X12_321 Cx rfl rfl (rmk_ok (by omega) (by decide))) hW (by decide) rfl rfl rfl hl.1 rfl (Nat.le_of_ble_eq_true rfl) dX12_trees_375 ⟨Nat.le_of_ble_eq_true rfl, Nat.le_of_ble_eq_true rfl⟩) hL (fun u_77 H locs k_78 hW hL => ?_)
                          obtain ⟨iu_77, fu_77, gu_77, xu_77⟩ := k_78
                          have F_79 := F_32.trans (fu_77.to (pl_sub (by decide)))
                          have F_80 := F_33.trans (fu_77.to (pl_sub (by decide)))
                          have g_81 : FF S u_77 (fl [20, 21, 24, 100]) := FF.trans g_34 (FF.to gu_77 (fl_sub (by decide)))
                          have g_82 : FF ((uF S2 231 100 (S.1 231 47))) u_77 (fl [20, 21, 24, 100]) := FF.trans g_35 (FF.to gu_77 (fl_sub (by decide)))
                          refine lv_iload_n hx hb dX12_trees_378 rfl (lv_at hl 4 rfl) ?_
                          refine r_if_eq (tgt := 389) hx hb ⟨(by omega), (by omega)⟩ dX12_trees_379 (by decide) (fun c_83 => ?_) (fun c_83 => ?_)
                          · have q_84 : (-2147483648) ≤ u_77.1 231 20 ∧ u_77.1 231 20 ≤ 2147483647 := iu_77.fi 20
                            exact sVret Cx hr hlk hW hL ⟨iu_77, F_79, g_81, ⟨(dHA.sm (S := S68) (u := u_77) hA68 (funext fun j => ((fu_77 283 rfl).2.1 j).trans (((fu_30 283 rfl).2.1 j).trans ((uF_a).trans ((fu_13 283 rfl).2.1 j))))), (by rw [(show u_77.1 231 20 = 4 by have y := (show u_77.1 231 20 = u_77.1 231 20 from rfl); have y2 := xu_77.1; omega)]; exact (HS.l4 hS2 hn12 (by omega) hprs (by rintro (y | y); (exact absurd (hfk.mpr y.2) (by omega)); (exact absurd (by omega) y.1))))⟩⟩ dX12_trees_389
                          · refine lv_aload_n hx hb dX12_trees_382 rfl (lv_at hl 5 rfl) ?_
                            have q_85 : (-2147483648) ≤ u_77.1 231 20 ∧ u_77.1 231 20 ≤ 2147483647 := iu_77.fi 20
                            refine g_X12_270 Cx hW (k := 231) (by decide) rfl (v := u_77.1 231 20) rfl dX12_trees_383 ?_
                            refine r_if_eq (tgt := 390) hx hb ⟨(by omega), (by omega)⟩ dX12_trees_386 (by decide) (fun c => absurd c (by omega)) (fun _ => ?_)
                            exact sVret Cx hr hlk hW hL ⟨iu_77, F_79, g_81, ⟨(dHA.sm (S := S68) (u := u_77) hA68 (funext fun j => ((fu_77 283 rfl).2.1 j).trans (((fu_30 283 rfl).2.1 j).trans ((uF_a).trans ((fu_13 283 rfl).2.1 j))))), (by rw [(show u_77.1 231 20 = 4 by have y := (show u_77.1 231 20 = u_77.1 231 20 from rfl); have y2 := xu_77.1; omega)]; exact (HS.l4 hS2 hn12 (by omega) hprs (by rintro (y | y); (exact absurd (hfk.mpr y.2) (by omega)); (exact absurd (by omega) y.1))))⟩⟩ dX12_trees_389
                      · refine lv_iload_n hx hb dX12_trees_350 rfl (lv_at hl 6 rfl) ?_
                        refine r_if_eq (tgt := 371) hx hb ⟨(by omega), (by omega)⟩ dX12_trees_351 (by decide) (fun c_86 => ?_) (fun c_86 => ?_)
                        · refine lv_aload_n hx hb dX12_trees_371 rfl (lv_at hl 5 rfl) ?_
                          refine lv_iconst (v := iv 4) hx hb dX12_trees_372 (by decide) ?_
                          refine lv_iload hx hb dX12_trees_373 (lv_at hl 3 rfl) ?_
                          have lk_87 : u_30.1 231 20 = S68.1 231 20 := (gu_30 20 rfl).trans ((uF_ne (fun h => absurd h.2 (by decide))).trans (gu_13 20 rfl))
                          refine sBv (sV (As := [.int (iv 4), .int (iv (S68.1 231 24))]) (rest := []) (k := 231) Cx (q_X12_wrong l G u_30 (cd := 4) (tk := S68.1 231 24) iu_30 (by omega) (by omega)) (c_X12_321 Cx rfl rfl (rmk_ok (by omega) (by decide))) hW (by decide) rfl rfl rfl hl.1 rfl (Nat.le_of_ble_eq_true rfl) dX12_trees_375 ⟨Nat.le_of_ble_eq_true rfl, Nat.le_of_ble_eq_true rfl⟩) hL (fun u_88 H locs k_89 hW hL => ?_)
                          obtain ⟨iu_88, fu_88, gu_88, xu_88⟩ := k_89
                          have F_90 := F_32.trans (fu_88.to (pl_sub (by decide)))
                          have F_91 := F_33.trans (fu_88.to (pl_sub (by decide)))
                          have g_92 : FF S u_88 (fl [20, 21, 24, 100]) := FF.trans g_34 (FF.to gu_88 (fl_sub (by decide)))
                          have g_93 : FF ((uF S2 231 100 (S.1 231 47))) u_88 (fl [20, 21, 24, 100]) := FF.trans g_35 (FF.to gu_88 (fl_sub (by decide)))
                          refine lv_iload_n hx hb dX12_trees_378 rfl (lv_at hl 4 rfl) ?_
                          refine r_if_eq (tgt := 389) hx hb ⟨(by omega), (by omega)⟩ dX12_trees_379 (by decide) (fun c_94 => ?_) (fun c_94 => ?_)
                          · have q_95 : (-2147483648) ≤ u_88.1 231 20 ∧ u_88.1 231 20 ≤ 2147483647 := iu_88.fi 20
                            exact sVret Cx hr hlk hW hL ⟨iu_88, F_90, g_92, ⟨(dHA.sm (S := S68) (u := u_88) hA68 (funext fun j => ((fu_88 283 rfl).2.1 j).trans (((fu_30 283 rfl).2.1 j).trans ((uF_a).trans ((fu_13 283 rfl).2.1 j))))), (by rw [(show u_88.1 231 20 = 4 by have y := (show u_88.1 231 20 = u_88.1 231 20 from rfl); have y2 := xu_88.1; omega)]; exact (HS.l4 hS2 hn12 (by omega) hprs (by rintro (y | y); (exact absurd y.1 (by omega)); (exact absurd y.2.1 (by omega)))))⟩⟩ dX12_trees_389
                          · refine lv_aload_n hx hb dX12_trees_382 rfl (lv_at hl 5 rfl) ?_
                            have q_96 : (-2147483648) ≤ u_88.1 231 20 ∧ u_88.1 231 20 ≤ 2147483647 := iu_88.fi 20
                            refine g_X12_270 Cx hW (k := 231) (by decide) rfl (v := u_88.1 231 20) rfl dX12_trees_383 ?_
                            refine r_if_eq (tgt := 390) hx hb ⟨(by omega), (by omega)⟩ dX12_trees_386 (by decide) (fun c => absurd c (by omega)) (fun _ => ?_)
                            exact sVret Cx hr hlk hW hL ⟨iu_88, F_90, g_92, ⟨(dHA.sm (S := S68) (u := u_88) hA68 (funext fun j => ((fu_88 283 rfl).2.1 j).trans (((fu_30 283 rfl).2.1 j).trans ((uF_a).trans ((fu_13 283 rfl).2.1 j))))), (by rw [(show u_88.1 231 20 = 4 by have y := (show u_88.1 231 20 = u_88.1 231 20 from rfl); have y2 := xu_88.1; omega)]; exact (HS.l4 hS2 hn12 (by omega) hprs (by rintro (y | y); (exact absurd y.1 (by omega)); (exact absurd y.2.1 (by omega)))))⟩⟩ dX12_trees_389
                        · refine lv_aload_n hx hb dX12_trees_354 rfl (lv_at hl 5 rfl) ?_
                          have lk_97 : u_30.1 231 46 = S.1 231 46 := (gu_30 46 rfl).trans ((uF_ne (fun h => absurd h.2 (by decide))).trans ((gu_13 46 rfl).trans ((gL68_ 46 rfl).trans ((uF_ne (fun h => absurd h.2 (by decide))).trans (gL2_ 46 rfl)))))
                          refine sBi (sV (As := []) (rest := []) (k := 231) Cx (q_X12_isBound l G u_30 (n := n) (mm := mm) (mx := mx) (A := A) (wh := wh) (ss := (fun j => smf ff R1 j c1.toNat)) (qq := (vp (S68.1 231 24 + 1))) (vt := vt) (vb := vb) iu_30 (by omega) xu_30.2.2.1 (dDV.sm (S := u_13) (u := u_30) (show dDV u_13 from ⟨xu_13.1, by rw [xu_13.2.1]; exact hpx0⟩) (funext fun j => ((fu_30 288 rfl).2.1 j).trans (uF_a))) (dUP.sm (S := S) (u := u_30) hUP (funext fun j => ((fu_30 286 rfl).2.1 j).trans ((uF_a).trans (((fu_13 286 rfl).2.1 j).trans (((hL68_ 286 rfl).2.1 j).trans ((uF_a).trans ((hL2_ 286 rfl).2.1 j)))))) (funext fun j => ((fu_30 287 rfl).2.1 j).trans ((uF_a).trans (((fu_13 287 rfl).2.1 j).trans (((hL68_ 287 rfl).2.1 j).trans ((uF_a).trans ((hL2_ 287 rfl).2.1 j))))))) (GM.sm (S := S) (u := u_30) hGM (funext fun j => ((fu_30 260 rfl).2.2.1 j).trans ((uF_l).trans (((fu_13 260 rfl).2.2.1 j).trans (((hL68_ 260 rfl).2.2.1 j).trans ((uF_l).trans ((hL2_ 260 rfl).2.2.1 j)))))) (funext fun j => ((fu_30 290 rfl).2.2.1 j).trans ((uF_l).trans (((fu_13 290 rfl).2.2.1 j).trans (((hL68_ 290 rfl).2.2.1 j).trans ((uF_l).trans ((hL2_ 290 rfl).2.2.1 j))))))) (MD.sm (S := S) (u := u_30) hMD ((gu_30 46 rfl).trans ((uF_ne (fun h => absurd h.2 (by decide))).trans ((gu_13 46 rfl).trans ((gL68_ 46 rfl).trans ((uF_ne (fun h => absurd h.2 (by decide))).trans (gL2_ 46 rfl)))))) ((gu_30 47 rfl).trans ((uF_ne (fun h => absurd h.2 (by decide))).trans ((gu_13 47 rfl).trans ((gL68_ 47 rfl).trans ((uF_ne (fun h => absurd h.2 (by decide))).trans (gL2_ 47 rfl)))))) ((gu_30 63 rfl).trans ((uF_ne (fun h => absurd h.2 (by decide))).trans ((gu_13 63 rfl).trans ((gL68_ 63 rfl).trans ((uF_ne (fun h => absurd h.2 (by decide))).trans (gL2_ 63 rfl))))))) (MDr.sm (S := S) (u := u_30) hMR ((gu_30 46 rfl).trans ((uF_ne (fun h => absurd h.2 (by decide))).trans ((gu_13 46 rfl).trans ((gL68_ 46 rfl).trans ((uF_ne (fun h => absurd h.2 (by decide))).trans (gL2_ 46 rfl)))))) ((gu_30 47 rfl).trans ((uF_ne (fun h => absurd h.2 (by decide))).trans ((gu_13 47 rfl).trans ((gL68_ 47 rfl).trans ((uF_ne (fun h => absurd h.2 (by decide))).trans (gL2_ 47 rfl)))))) ((gu_30 48 rfl).trans ((uF_ne (fun h => absurd h.2 (by decide))).trans ((gu_13 48 rfl).trans ((gL68_ 48 rfl).trans ((uF_ne (fun h => absurd h.2 (by decide))).trans (gL2_ 48 rfl)))))) ((gu_30 49 rfl).trans ((uF_ne (fun h => absurd h.2 (by decide))).trans ((gu_13 49 rfl).trans ((gL68_ 49 rfl).trans ((uF_ne (fun h => absurd h.2 (by decide))).trans (gL2_ 49 rfl)))))) (funext fun j => ((fu_30 259 rfl).2.1 j).trans ((uF_a).trans (((fu_13 259 rfl).2.1 j).trans (((hL68_ 259 rfl).2.1 j).trans ((uF_a).trans ((hL2_ 259 rfl).2.1 j)))))) (funext fun j => ((fu_30 260 rfl).2.2.1 j).trans ((uF_l).trans (((fu_13 260 rfl).2.2.1 j).trans (((hL68_ 260 rfl).2.2.1 j).trans ((uF_l).trans ((hL2_ 260 rfl).2.2.1 j)))))) (funext fun j => ((fu_30 290 rfl).2.2.1 j).trans ((uF_l).trans (((fu_13 290 rfl).2.2.1 j).trans (((hL68_ 290 rfl).2.2.1 j).trans ((uF_l).trans ((hL2_ 290 rfl).2.2.1 j))))))) hSM5 (DVr.sm (S := u_13) (u := u_30) (show DVr u_13 _ from xu_13.2.1) (funext fun j => ((fu_30 288 rfl).2.1 j).trans (uF_a))) (UVr.sm (S := S) (u := u_30) hUV (funext fun j => ((fu_30 286 rfl).2.1 j).trans ((uF_a).trans (((fu_13 286 rfl).2.1 j).trans (((hL68_ 286 rfl).2.1 j).trans ((uF_a).trans ((hL2_ 286 rfl).2.1 j)))))) (funext fun j => ((fu_30 287 rfl).2.1 j).trans ((uF_a).trans (((fu_13 287 rfl).2.1 j).trans (((hL68_ 287 rfl).2.1 j).trans ((uF_a).trans ((hL2_ 287 rfl).2.1 j)))))))) (c_X12_754 Cx rfl rfl (rmk_ok (by omega) (by decide))) hW (by decide) rfl rfl rfl hl.1 rfl (Nat.le_of_ble_eq_true rfl) dX12_trees_355 ⟨Nat.le_of_ble_eq_true rfl, Nat.le_of_ble_eq_true rfl⟩) hL (fun r_100 u_98 H locs k_99 hW hL => ?_)
                          obtain ⟨iu_98, fu_98, gu_98, xu_98⟩ := k_99
                          have F_101 := F_32.trans (fu_98.to (pl_sub (by decide)))
                          have F_102 := F_33.trans (fu_98.to (pl_sub (by decide)))
                          have g_103 : FF S u_98 (fl [20, 21, 24, 100]) := FF.trans g_34 (FF.to gu_98 (fl_sub (by decide)))
                          have g_104 : FF ((uF S2 231 100 (S.1 231 47))) u_98 (fl [20, 21, 24, 100]) := FF.trans g_35 (FF.to gu_98 (fl_sub (by decide)))
                          have hbd := (show _ ↔ _ from xu_98.2)
                          have hbd : Hd _ := hbd
                          refine r_if_ne (tgt := 378) hx hb ⟨(by omega), (by omega)⟩ dX12_trees_358 (by decide) (fun c_105 => ?_) (fun c_105 => ?_)
                          · refine lv_iload_n hx hb dX12_trees_378 rfl (lv_at hl 4 rfl) ?_
                            refine r_if_eq (tgt := 389) hx hb ⟨(by omega), (by omega)⟩ dX12_trees_379 (by decide) (fun c_106 => ?_) (fun c_106 => ?_)
                            · have lk_107 : u_98.1 231 20 = S68.1 231 20 := (gu_98 20 rfl).trans ((gu_30 20 rfl).trans ((uF_ne (fun h => absurd h.2 (by decide))).trans (gu_13 20 rfl)))
                              exact sVret Cx hr hlk hW hL ⟨iu_98, F_101, g_103, ⟨(dHA.sm (S := S68) (u := u_98) hA68 (funext fun j => ((fu_98 283 rfl).2.1 j).trans (((fu_30 283 rfl).2.1 j).trans ((uF_a).trans ((fu_13 283 rfl).2.1 j))))), (by rw [(show u_98.1 231 20 = 0 by have y := (show u_98.1 231 20 = S68.1 231 20 from (gu_98 20 rfl).trans ((gu_30 20 rfl).trans ((uF_ne (fun h => absurd h.2 (by decide))).trans (gu_13 20 rfl)))); omega)]; exact HS.l0 hS2 hn12 (by omega) hprs (.inr ⟨by omega, by omega, (okBs.i (by omega) hS2.2.1 (fun j _ _ => rfl)).mp (hbd.mp (by omega))⟩) (by omega))⟩⟩ dX12_trees_389
                            · refine lv_aload_n hx hb dX12_trees_382 rfl (lv_at hl 5 rfl) ?_
                              refine g_X12_270 Cx hW (k := 231) (by decide) rfl (v := S68.1 231 20) ((gu_98 20 rfl).trans ((gu_30 20 rfl).trans ((uF_ne (fun h => absurd h.2 (by decide))).trans (gu_13 20 rfl)))) dX12_trees_383 ?_
                              refine r_if_eq (tgt := 390) hx hb ⟨(by omega), (by omega)⟩ dX12_trees_386 (by decide) (fun _ => ?_) (fun c => absurd (by omega) c)
                              have hlw := HS.lw hS2 hn12 (by omega) hprs (.inr ⟨by omega, by omega, (okBs.i (by omega) hS2.2.1 (fun j _ _ => rfl)).mp (hbd.mp (by omega))⟩) (by omega)
                              rw [show wt - 1 = wt + (-1) by omega] at hlw
                              have hlw : Hd _ := hlw
                              have hww := hW1 (wt + (-1)) (by omega) (by omega)
                              have hok9 := hok3 (wt + (-1)) (by omega) (by omega)
                              have hok91 := hok9.1; have hok92 := hok9.2.1; have hok93 := hok9.2.2.1; clear hok9
                              have hww1 := hww.1; have hww2 := hww.2.1; have hww3 := hww.2.2.1; have hww4 := hww.2.2.2; clear hww
                              refine lv_iinc (v := iv (wt + (-1))) (lv' := [(2, .int (iv (wt + (-1)))), (6, .int (iv okp)), (3, .int (iv (it + 1))), (5, .int (iv (S.2.1 247 (S68.1 231 24)))), (4, .int (iv (S68.1 231 24))), (0, .ref (G.2.2.1 + 231)), (1, .int (iv bb))]) hx hb dX12_trees_390 hl (k := 4) rfl ((Int32.ofInt_add _ _).symm) (by decide) rfl (fun ls hl => ?_)
                              refine lv_aload_n hx hb dX12_trees_393 rfl (lv_at hl 5 rfl) ?_
                              refine lv_aload_n hx hb dX12_trees_394 rfl (lv_at hl 5 rfl) ?_
                              refine g_X12_193 Cx hW (k := 231) (by decide) rfl (v := .ref (G.2.2.1 + 291)) (rd_102 iu_98) dX12_trees_395 ?_
                              refine lv_iload_n hx hb dX12_trees_398 rfl (lv_at hl 0 rfl) ?_
                              refine rIald Cx hW (k := 291) (by decide) rfl (by decide) (by omega) (by omega) dX12_trees_399 ?_
                              have q_108 : (-2147483648) ≤ S68.2.1 291 (wt + (-1)) ∧ S68.2.1 291 (wt + (-1)) ≤ 2147483647 := hI68.ai 291 (wt + (-1))
                              refine r_i (b := S68.2.1 291 (wt + (-1))) (((fu_98 291 rfl).2.1 (wt + (-1))).trans (((fu_30 291 rfl).2.1 (wt + (-1))).trans ((uF_a).trans ((fu_13 291 rfl).2.1 (wt + (-1)))))) ?_
                              refine p_X12_738 Cx hW hL (k := 231) (by decide) rfl dX12_trees_400 (fun H locs hW hL => ?_)
                              have F_109 : Fr S (uF u_98 231 100 (S68.2.1 291 (wt + (-1)))) (pl [231, 233, 234, 235, 237, 238, 240, 277, 283, 284, 288, 289, 291, 292, 293]) := F_101.F rfl
                              have F_110 : Fr ((uF S2 231 100 (S.1 231 47))) (uF u_98 231 100 (S68.2.1 291 (wt + (-1)))) (pl [231, 233, 234, 235, 237, 238, 240, 277, 283, 284, 288, 289, 291, 292, 293]) := F_102.F rfl
                              have g_111 : FF S (uF u_98 231 100 (S68.2.1 291 (wt + (-1)))) (fl [20, 21, 24, 100]) := FF.F g_103 rfl
                              have g_112 : FF ((uF S2 231 100 (S.1 231 47))) (uF u_98 231 100 (S68.2.1 291 (wt + (-1)))) (fl [20, 21, 24, 100]) := FF.F g_104 rfl
                              have i_113 : dX G (uF u_98 231 100 (S68.2.1 291 (wt + (-1)))) := iu_98.F (i := 100) (show (-2147483648) ≤ S68.2.1 291 (wt + (-1)) ∧ S68.2.1 291 (wt + (-1)) ≤ 2147483647 from ⟨by omega, by omega⟩)
                              refine lv_aload_n hx hb dX12_trees_403 rfl (lv_at hl 5 rfl) ?_
                              refine lv_aload_n hx hb dX12_trees_404 rfl (lv_at hl 5 rfl) ?_
                              refine g_X12_196 Cx hW (k := 231) (by decide) rfl (v := .ref (G.2.2.1 + 292)) (rd_103 i_113) dX12_trees_405 ?_
                              refine lv_iload_n hx hb dX12_trees_408 rfl (lv_at hl 0 rfl) ?_
                              refine rIald Cx hW (k := 292) (by decide) rfl (by decide) (by omega) (by omega) dX12_trees_409 ?_
                              have q_114 : (-2147483648) ≤ S68.2.1 292 (wt + (-1)) ∧ S68.2.1 292 (wt + (-1)) ≤ 2147483647 := hI68.ai 292 (wt + (-1))
                              refine r_i (b := S68.2.1 292 (wt + (-1))) ((uF_a).trans (((fu_98 292 rfl).2.1 (wt + (-1))).trans (((fu_30 292 rfl).2.1 (wt + (-1))).trans ((uF_a).trans ((fu_13 292 rfl).2.1 (wt + (-1))))))) ?_
                              have hT9 := hKS.1 (S68.2.1 293 (wt + (-1))) (by omega) (by omega)
                              refine lv_aload_n hx hb dX12_trees_410 rfl (lv_at hl 5 rfl) ?_
                              refine g_X12_199 Cx hW (k := 231) (by decide) rfl (v := .ref (G.2.2.1 + 293)) (rd_104 i_113) dX12_trees_411 ?_
                              refine lv_iload_n hx hb dX12_trees_414 rfl (lv_at hl 0 rfl) ?_
                              refine rIald Cx hW (k := 293) (by decide) rfl (by decide) (by omega) (by omega) dX12_trees_415 ?_
                              have q_115 : (-2147483648) ≤ S68.2.1 293 (wt + (-1)) ∧ S68.2.1 293 (wt + (-1)) ≤ 2147483647 := hI68.ai 293 (wt + (-1))
                              refine r_i (b := S68.2.1 293 (wt + (-1))) ((uF_a).trans (((fu_98 293 rfl).2.1 (wt + (-1))).trans (((fu_30 293 rfl).2.1 (wt + (-1))).trans ((uF_a).trans ((fu_13 293 rfl).2.1 (wt + (-1))))))) ?_
                              refine lv_iconst (v := iv 1) hx hb dX12_trees_416 (by decide) ?_
                              have lk_116 : (uF u_98 231 100 (S68.2.1 291 (wt + (-1)))).1 231 46 = S.1 231 46 := (uF_ne (fun h => absurd h.2 (by decide))).trans ((gu_98 46 rfl).trans ((gu_30 46 rfl).trans ((uF_ne (fun h => absurd h.2 (by decide))).trans ((gu_13 46 rfl).trans ((gL68_ 46 rfl).trans ((uF_ne (fun h => absurd h.2 (by decide))).trans (gL2_ 46 rfl)))))))
                              have lk_117 : (uF u_98 231 100 (S68.2.1 291 (wt + (-1)))).1 231 100 = S68.2.1 291 (wt + (-1)) := uF_on
                              refine sBv (sV (As := [.int (iv (S68.2.1 292 (wt + (-1)))), .int (iv (S68.2.1 293 (wt + (-1)))), .int (iv 1)]) (rest := []) (k := 231) Cx (q_X12_branchRow l G (uF u_98 231 100 (S68.2.1 291 (wt + (-1)))) (k := S68.2.1 292 (wt + (-1))) (tk := S68.2.1 293 (wt + (-1))) (bb := 1) (Xt := Xt) (Fm := Fm) (Wd := Wd) (Vt := Vt) (T := T) (kp := kp) (vp := vp) (n := n) (cc := (wr1 (wt + (-1)))) (RR := R1) i_113 ((funext fun j => (uF_a).trans (((fu_98 243 rfl).2.1 j).trans (((fu_30 243 rfl).2.1 j).trans ((uF_a).trans (((fu_13 243 rfl).2.1 j).trans (((hL68_ 243 rfl).2.1 j).trans ((uF_a).trans ((hL2_ 243 rfl).2.1 j))))))) : (uF u_98 231 100 (S68.2.1 291 (wt + (-1)))).2.1 243 = S.2.1 243).trans hX) ((funext fun j => (uF_a).trans (((fu_98 245 rfl).2.1 j).trans (((fu_30 245 rfl).2.1 j).trans ((uF_a).trans (((fu_13 245 rfl).2.1 j).trans (((hL68_ 245 rfl).2.1 j).trans ((uF_a).trans ((hL2_ 245 rfl).2.1 j))))))) : (uF u_98 231 100 (S68.2.1 291 (wt + (-1)))).2.1 245 = S.2.1 245).trans hFm) ((funext fun j => (uF_a).trans (((fu_98 246 rfl).2.1 j).trans (((fu_30 246 rfl).2.1 j).trans ((uF_a).trans (((fu_13 246 rfl).2.1 j).trans (((hL68_ 246 rfl).2.1 j).trans ((uF_a).trans ((hL2_ 246 rfl).2.1 j))))))) : (uF u_98 231 100 (S68.2.1 291 (wt + (-1)))).2.1 246 = S.2.1 246).trans hWd) ((funext fun j => (uF_a).trans (((fu_98 247 rfl).2.1 j).trans (((fu_30 247 rfl).2.1 j).trans ((uF_a).trans (((fu_13 247 rfl).2.1 j).trans (((hL68_ 247 rfl).2.1 j).trans ((uF_a).trans ((hL2_ 247 rfl).2.1 j))))))) : (uF u_98 231 100 (S68.2.1 291 (wt + (-1)))).2.1 247 = S.2.1 247).trans hVt) hww4 (by omega) (by omega) (by omega) (by omega) (by omega) (by omega) (dHA.sm (S := S68) (u := (uF u_98 231 100 (S68.2.1 291 (wt + (-1))))) hA68 (funext fun j => (uF_a).trans (((fu_98 283 rfl).2.1 j).trans (((fu_30 283 rfl).2.1 j).trans ((uF_a).trans ((fu_13 283 rfl).2.1 j)))))) ⟨(by have y := (show (uF u_98 231 100 (S68.2.1 291 (wt + (-1)))).1 231 100 = S68.2.1 291 (wt + (-1)) from uF_on); omega), (show HRf _ _ _ _ from (by rw [show (uF u_98 231 100 (S68.2.1 291 (wt + (-1)))).2.1 283 = S68.2.1 283 from (funext fun j => (uF_a).trans (((fu_98 283 rfl).2.1 j).trans (((fu_30 283 rfl).2.1 j).trans ((uF_a).trans ((fu_13 283 rfl).2.1 j)))))]; exact HRf.less hR1.2 (by omega)))⟩ hQ hKS) (c_X12_744 Cx rfl rfl (rmk_ok (by omega) (by decide))) hW (by decide) rfl rfl rfl hl.1 rfl (Nat.le_of_ble_eq_true rfl) dX12_trees_417 ⟨Nat.le_of_ble_eq_true rfl, Nat.le_of_ble_eq_true rfl⟩) hL (fun u_118 H locs k_119 hW hL => ?_)
                              obtain ⟨iu_118, fu_118, gu_118, xu_118⟩ := k_119
                              have F_120 := F_109.trans (fu_118.to (pl_sub (by decide)))
                              have F_121 := F_110.trans (fu_118.to (pl_sub (by decide)))
                              have g_122 : FF S u_118 (fl [20, 21, 24, 100]) := FF.trans g_111 (FF.to gu_118 (fl_sub (by decide)))
                              have g_123 : FF ((uF S2 231 100 (S.1 231 47))) u_118 (fl [20, 21, 24, 100]) := FF.trans g_112 (FF.to gu_118 (fl_sub (by decide)))
                              have hbr9 : Hd (HRr u_118 (wr1 (wt + (-1)) + 1) (upR R1 (wr1 (wt + (-1)) + 1) (limr (wk1 (wt + (-1))) (wv1 (wt + (-1))) 1)) n) := by have h := xu_118.2.2; rw [hww2, hww3] at h; exact h
                              refine lv_goto (tgt := 68) hx hb dX12_trees_420 (by decide) ?_
                              have q_124 : (-2147483648) ≤ u_118.1 231 100 ∧ u_118.1 231 100 ≤ 2147483647 := iu_118.fi 100
                              have lk_125 : u_118.1 231 20 = S68.1 231 20 := (gu_118 20 rfl).trans ((uF_ne (fun h => absurd h.2 (by decide))).trans ((gu_98 20 rfl).trans ((gu_30 20 rfl).trans ((uF_ne (fun h => absurd h.2 (by decide))).trans (gu_13 20 rfl)))))
                              have q_126 : (-2147483648) ≤ u_30.1 231 24 ∧ u_30.1 231 24 ≤ 2147483647 := iu_30.fi 24
                              have lk_127 : u_118.1 231 24 = u_30.1 231 24 := (gu_118 24 rfl).trans ((uF_ne (fun h => absurd h.2 (by decide))).trans (gu_98 24 rfl))
                              exact ih_68 u_118 (it + 1) (wt + (-1)) _ _ _ (by omega) iu_118 F_120 F_121 g_122 g_123 (by omega) xu_118.2.1 (fun _ => by have y := (show u_118.1 231 24 = u_30.1 231 24 from (gu_118 24 rfl).trans ((uF_ne (fun h => absurd h.2 (by decide))).trans (gu_98 24 rfl))); omega) (fun _ => ⟨_, _, _, _, _, hbr9, (show WTq _ _ _ _ _ _ _ from (WTq.sm (S := S68) (u := u_118) (WTq.less hW1 (w' := wt + (-1)) (by omega)) (funext fun j => ((fu_118 291 rfl).2.1 j).trans ((uF_a).trans (((fu_98 291 rfl).2.1 j).trans (((fu_30 291 rfl).2.1 j).trans ((uF_a).trans ((fu_13 291 rfl).2.1 j)))))) (funext fun j => ((fu_118 292 rfl).2.1 j).trans ((uF_a).trans (((fu_98 292 rfl).2.1 j).trans (((fu_30 292 rfl).2.1 j).trans ((uF_a).trans ((fu_13 292 rfl).2.1 j)))))) (funext fun j => ((fu_118 293 rfl).2.1 j).trans ((uF_a).trans (((fu_98 293 rfl).2.1 j).trans (((fu_30 293 rfl).2.1 j).trans ((uF_a).trans ((fu_13 293 rfl).2.1 j)))))))), (by rw [(show u_118.1 231 24 = u_30.1 231 24 from (gu_118 24 rfl).trans ((uF_ne (fun h => absurd h.2 (by decide))).trans (gu_98 24 rfl))), ← (show F1 = (3000 - (it + 1)).toNat by omega)]; exact hlw)⟩) (fun h => absurd (by have y := (show u_118.1 231 20 = S68.1 231 20 from (gu_118 20 rfl).trans ((uF_ne (fun h => absurd h.2 (by decide))).trans ((gu_98 20 rfl).trans ((gu_30 20 rfl).trans ((uF_ne (fun h => absurd h.2 (by decide))).trans (gu_13 20 rfl)))))); omega) h) hW hL (lv_sub hl [2, 0, 5, 6] rfl)
                          · refine lv_goto (tgt := 371) hx hb dX12_trees_361 (by decide) ?_
                            refine lv_aload_n hx hb dX12_trees_371 rfl (lv_at hl 5 rfl) ?_
                            refine lv_iconst (v := iv 4) hx hb dX12_trees_372 (by decide) ?_
                            refine lv_iload hx hb dX12_trees_373 (lv_at hl 3 rfl) ?_
                            have lk_128 : u_98.1 231 20 = S68.1 231 20 := (gu_98 20 rfl).trans ((gu_30 20 rfl).trans ((uF_ne (fun h => absurd h.2 (by decide))).trans (gu_13 20 rfl)))
                            refine sBv (sV (As := [.int (iv 4), .int (iv (S68.1 231 24))]) (rest := []) (k := 231) Cx (q_X12_wrong l G u_98 (cd := 4) (tk := S68.1 231 24) iu_98 (by omega) (by omega)) (c_X12_321 Cx rfl rfl (rmk_ok (by omega) (by decide))) hW (by decide) rfl rfl rfl hl.1 rfl (Nat.le_of_ble_eq_true rfl) dX12_trees_375 ⟨Nat.le_of_ble_eq_true rfl, Nat.le_of_ble_eq_true rfl⟩) hL (fun u_129 H locs k_130 hW hL => ?_)
                            obtain ⟨iu_129, fu_129, gu_129, xu_129⟩ := k_130
                            have F_131 := F_101.trans (fu_129.to (pl_sub (by decide)))
                            have F_132 := F_102.trans (fu_129.to (pl_sub (by decide)))
                            have g_133 : FF S u_129 (fl [20, 21, 24, 100]) := FF.trans g_103 (FF.to gu_129 (fl_sub (by decide)))
                            have g_134 : FF ((uF S2 231 100 (S.1 231 47))) u_129 (fl [20, 21, 24, 100]) := FF.trans g_104 (FF.to gu_129 (fl_sub (by decide)))
                            refine lv_iload_n hx hb dX12_trees_378 rfl (lv_at hl 4 rfl) ?_
                            refine r_if_eq (tgt := 389) hx hb ⟨(by omega), (by omega)⟩ dX12_trees_379 (by decide) (fun c_135 => ?_) (fun c_135 => ?_)
                            · have q_136 : (-2147483648) ≤ u_129.1 231 20 ∧ u_129.1 231 20 ≤ 2147483647 := iu_129.fi 20
                              exact sVret Cx hr hlk hW hL ⟨iu_129, F_131, g_133, ⟨(dHA.sm (S := S68) (u := u_129) hA68 (funext fun j => ((fu_129 283 rfl).2.1 j).trans (((fu_98 283 rfl).2.1 j).trans (((fu_30 283 rfl).2.1 j).trans ((uF_a).trans ((fu_13 283 rfl).2.1 j)))))), (by rw [(show u_129.1 231 20 = 4 by have y := (show u_129.1 231 20 = u_129.1 231 20 from rfl); have y2 := xu_129.1; omega)]; exact (HS.l4 hS2 hn12 (by omega) hprs (by rintro (y | y); (exact absurd y.1 (by omega)); (exact absurd (hbd.mpr ((okBs.i (by omega) hS2.2.1 (fun j _ _ => rfl)).mpr y.2.2)) (by omega)))))⟩⟩ dX12_trees_389
                            · refine lv_aload_n hx hb dX12_trees_382 rfl (lv_at hl 5 rfl) ?_
                              have q_137 : (-2147483648) ≤ u_129.1 231 20 ∧ u_129.1 231 20 ≤ 2147483647 := iu_129.fi 20
                              refine g_X12_270 Cx hW (k := 231) (by decide) rfl (v := u_129.1 231 20) rfl dX12_trees_383 ?_
                              refine r_if_eq (tgt := 390) hx hb ⟨(by omega), (by omega)⟩ dX12_trees_386 (by decide) (fun c => absurd c (by omega)) (fun _ => ?_)
                              exact sVret Cx hr hlk hW hL ⟨iu_129, F_131, g_133, ⟨(dHA.sm (S := S68) (u := u_129) hA68 (funext fun j => ((fu_129 283 rfl).2.1 j).trans (((fu_98 283 rfl).2.1 j).trans (((fu_30 283 rfl).2.1 j).trans ((uF_a).trans ((fu_13 283 rfl).2.1 j)))))), (by rw [(show u_129.1 231 20 = 4 by have y := (show u_129.1 231 20 = u_129.1 231 20 from rfl); have y2 := xu_129.1; omega)]; exact (HS.l4 hS2 hn12 (by omega) hprs (by rintro (y | y); (exact absurd y.1 (by omega)); (exact absurd (hbd.mpr ((okBs.i (by omega) hS2.2.1 (fun j _ _ => rfl)).mpr y.2.2)) (by omega)))))⟩⟩ dX12_trees_389
                  · refine lv_iload hx hb dX12_trees_266 (lv_at hl 0 rfl) ?_
                    refine r_if_eq (tgt := 282) hx hb ⟨(by omega), (by omega)⟩ dX12_trees_268 (by decide) (fun c_138 => ?_) (fun c_138 => ?_)
                    · refine lv_aload_n hx hb dX12_trees_282 rfl (lv_at hl 5 rfl) ?_
                      refine lv_iconst (v := iv 4) hx hb dX12_trees_283 (by decide) ?_
                      refine lv_iload hx hb dX12_trees_284 (lv_at hl 3 rfl) ?_
                      have lk_139 : u_30.1 231 20 = S68.1 231 20 := (gu_30 20 rfl).trans ((uF_ne (fun h => absurd h.2 (by decide))).trans (gu_13 20 rfl))
                      refine sBv (sV (As := [.int (iv 4), .int (iv (S68.1 231 24))]) (rest := []) (k := 231) Cx (q_X12_wrong l G u_30 (cd := 4) (tk := S68.1 231 24) iu_30 (by omega) (by omega)) (c_X12_321 Cx rfl rfl (rmk_ok (by omega) (by decide))) hW (by decide) rfl rfl rfl hl.1 rfl (Nat.le_of_ble_eq_true rfl) dX12_trees_286 ⟨Nat.le_of_ble_eq_true rfl, Nat.le_of_ble_eq_true rfl⟩) hL (fun u_140 H locs k_141 hW hL => ?_)
                      obtain ⟨iu_140, fu_140, gu_140, xu_140⟩ := k_141
                      have F_142 := F_32.trans (fu_140.to (pl_sub (by decide)))
                      have F_143 := F_33.trans (fu_140.to (pl_sub (by decide)))
                      have g_144 : FF S u_140 (fl [20, 21, 24, 100]) := FF.trans g_34 (FF.to gu_140 (fl_sub (by decide)))
                      have g_145 : FF ((uF S2 231 100 (S.1 231 47))) u_140 (fl [20, 21, 24, 100]) := FF.trans g_35 (FF.to gu_140 (fl_sub (by decide)))
                      refine lv_aload_n hx hb dX12_trees_289 rfl (lv_at hl 5 rfl) ?_
                      have q_146 : (-2147483648) ≤ u_140.1 231 20 ∧ u_140.1 231 20 ≤ 2147483647 := iu_140.fi 20
                      refine g_X12_270 Cx hW (k := 231) (by decide) rfl (v := u_140.1 231 20) rfl dX12_trees_290 ?_
                      refine r_if_ne (tgt := 313) hx hb ⟨(by omega), (by omega)⟩ dX12_trees_293 (by decide) (fun _ => ?_) (fun c => absurd c (by omega))
                      refine lv_aload_n hx hb dX12_trees_313 rfl (lv_at hl 5 rfl) ?_
                      refine g_X12_270 Cx hW (k := 231) (by decide) rfl (v := u_140.1 231 20) rfl dX12_trees_314 ?_
                      refine r_if_ne (tgt := 68) hx hb ⟨(by omega), (by omega)⟩ dX12_trees_317 (by decide) (fun _ => ?_) (fun c => absurd c (by omega))
                      have lk_147 : u_140.1 231 100 = S68.1 231 100 := (gu_140 100 rfl).trans ((gu_30 100 rfl).trans ((uF_ne (fun h => absurd h.2 (by decide))).trans (gu_13 100 rfl)))
                      have q_148 : (-2147483648) ≤ u_30.1 231 24 ∧ u_30.1 231 24 ≤ 2147483647 := iu_30.fi 24
                      have lk_149 : u_140.1 231 24 = u_30.1 231 24 := gu_140 24 rfl
                      exact ih_68 u_140 (it + 1) wt _ _ _ (by omega) iu_140 F_142 F_143 g_144 g_145 (by omega) (dHA.sm (S := S68) (u := u_140) hA68 (funext fun j => ((fu_140 283 rfl).2.1 j).trans (((fu_30 283 rfl).2.1 j).trans ((uF_a).trans ((fu_13 283 rfl).2.1 j))))) (fun h => absurd h (by have y := (show u_140.1 231 20 = u_140.1 231 20 from rfl); have y2 := xu_140.2.2; omega)) (fun h => absurd h (by have y := (show u_140.1 231 20 = u_140.1 231 20 from rfl); have y2 := xu_140.2.2; omega)) (fun _ => (by rw [(show u_140.1 231 20 = 4 by have y := (show u_140.1 231 20 = u_140.1 231 20 from rfl); have y2 := xu_140.1; omega)]; exact (HS.x4 hS2 hn12 (hpa4 (by omega))))) hW hL (lv_sub hl [1, 4, 5, 6] rfl)
                    · obtain ⟨ff, hprs, hSM5⟩ := hpa5 (by omega)
                      have hprs : Hd _ := hprs; have hSM5 : Hd _ := hSM5
                      refine lv_aload_n hx hb dX12_trees_271 rfl (lv_at hl 5 rfl) ?_
                      have q_150 : (-2147483648) ≤ S.1 231 48 ∧ S.1 231 48 ≤ 2147483647 := hI.fi 48
                      refine g_X12_471 Cx hW (k := 231) (by decide) rfl (v := S.1 231 48) ((gu_30 48 rfl).trans ((uF_ne (fun h => absurd h.2 (by decide))).trans ((gu_13 48 rfl).trans ((gL68_ 48 rfl).trans ((uF_ne (fun h => absurd h.2 (by decide))).trans (gL2_ 48 rfl)))))) dX12_trees_272 ?_
                      refine lv_aload_n hx hb dX12_trees_275 rfl (lv_at hl 5 rfl) ?_
                      refine g_X12_465 Cx hW (k := 231) (by decide) rfl (v := S.1 231 46) ((gu_30 46 rfl).trans ((uF_ne (fun h => absurd h.2 (by decide))).trans ((gu_13 46 rfl).trans ((gL68_ 46 rfl).trans ((uF_ne (fun h => absurd h.2 (by decide))).trans (gL2_ 46 rfl)))))) dX12_trees_276 ?_
                      refine r_icmp_ge (tgt := 289) hx hb ⟨(by omega), (by omega)⟩ ⟨(by omega), (by omega)⟩ dX12_trees_279 (by decide) (fun c_151 => ?_) (fun c_151 => ?_)
                      · refine lv_aload_n hx hb dX12_trees_289 rfl (lv_at hl 5 rfl) ?_
                        refine g_X12_270 Cx hW (k := 231) (by decide) rfl (v := S68.1 231 20) ((gu_30 20 rfl).trans ((uF_ne (fun h => absurd h.2 (by decide))).trans (gu_13 20 rfl))) dX12_trees_290 ?_
                        refine r_if_ne (tgt := 313) hx hb ⟨(by omega), (by omega)⟩ dX12_trees_293 (by decide) (fun c => absurd (by omega) c) (fun _ => ?_)
                        refine lv_aload_n hx hb dX12_trees_296 rfl (lv_at hl 5 rfl) ?_
                        refine g_X12_738 Cx hW (k := 231) (by decide) rfl (v := S68.1 231 100) ((gu_30 100 rfl).trans ((uF_ne (fun h => absurd h.2 (by decide))).trans (gu_13 100 rfl))) dX12_trees_297 ?_
                        refine lv_bipush (v := iv 40) hx hb dX12_trees_300 (by decide) ?_
                        refine r_icmp_ne (tgt := 313) hx hb ⟨(by omega), (by omega)⟩ ⟨(by omega), (by omega)⟩ dX12_trees_302 (by decide) (fun c_152 => ?_) (fun c_152 => ?_)
                        · refine lv_aload_n hx hb dX12_trees_313 rfl (lv_at hl 5 rfl) ?_
                          refine g_X12_270 Cx hW (k := 231) (by decide) rfl (v := S68.1 231 20) ((gu_30 20 rfl).trans ((uF_ne (fun h => absurd h.2 (by decide))).trans (gu_13 20 rfl))) dX12_trees_314 ?_
                          refine r_if_ne (tgt := 68) hx hb ⟨(by omega), (by omega)⟩ dX12_trees_317 (by decide) (fun c => absurd (by omega) c) (fun _ => ?_)
                          refine lv_aload_n hx hb dX12_trees_320 rfl (lv_at hl 5 rfl) ?_
                          have lk_153 : u_30.1 231 46 = S.1 231 46 := (gu_30 46 rfl).trans ((uF_ne (fun h => absurd h.2 (by decide))).trans ((gu_13 46 rfl).trans ((gL68_ 46 rfl).trans ((uF_ne (fun h => absurd h.2 (by decide))).trans (gL2_ 46 rfl)))))
                          have lk_154 : u_30.1 231 100 = S68.1 231 100 := (gu_30 100 rfl).trans ((uF_ne (fun h => absurd h.2 (by decide))).trans (gu_13 100 rfl))
                          refine sBi (sV (As := []) (rest := []) (k := 231) Cx (q_X12_cutRow l G u_30 (n := n) (cc := c1) (RR := R1) (ss := (fun j => smf ff R1 j c1.toNat)) (qq := (vp (S68.1 231 24 + 1))) iu_30 (by omega) (by omega) (by omega) xu_30.2.2.1 (dDV.sm (S := u_13) (u := u_30) (show dDV u_13 from ⟨xu_13.1, by rw [xu_13.2.1]; exact hpx0⟩) (funext fun j => ((fu_30 288 rfl).2.1 j).trans (uF_a))) (dHA.sm (S := S68) (u := u_30) hA68 (funext fun j => ((fu_30 283 rfl).2.1 j).trans ((uF_a).trans ((fu_13 283 rfl).2.1 j)))) (HRr.sm (S := S68) (u := u_30) hR1 ((gu_30 100 rfl).trans ((uF_ne (fun h => absurd h.2 (by decide))).trans (gu_13 100 rfl))) (funext fun j => ((fu_30 283 rfl).2.1 j).trans ((uF_a).trans ((fu_13 283 rfl).2.1 j)))) hSM5 (DVr.sm (S := u_13) (u := u_30) (show DVr u_13 _ from xu_13.2.1) (funext fun j => ((fu_30 288 rfl).2.1 j).trans (uF_a)))) (c_X12_751 Cx rfl rfl (rmk_ok (by omega) (by decide))) hW (by decide) rfl rfl rfl hl.1 rfl (Nat.le_of_ble_eq_true rfl) dX12_trees_321 ⟨Nat.le_of_ble_eq_true rfl, Nat.le_of_ble_eq_true rfl⟩) hL (fun r_157 u_155 H locs k_156 hW hL => ?_)
                          obtain ⟨iu_155, fu_155, gu_155, xu_155⟩ := k_156
                          have F_158 := F_32.trans (fu_155.to (pl_sub (by decide)))
                          have F_159 := F_33.trans (fu_155.to (pl_sub (by decide)))
                          have g_160 : FF S u_155 (fl [20, 21, 24, 100]) := FF.trans g_34 (FF.to gu_155 (fl_sub (by decide)))
                          have g_161 : FF ((uF S2 231 100 (S.1 231 47))) u_155 (fl [20, 21, 24, 100]) := FF.trans g_35 (FF.to gu_155 (fl_sub (by decide)))
                          have hcut1 : Hd _ := xu_155.2.2.2.2.1; have hcut0 : Hd _ := xu_155.2.2.2.2.2
                          refine r_if_ne (tgt := 68) hx hb ⟨(by omega), (by omega)⟩ dX12_trees_324 (by decide) (fun c_162 => ?_) (fun c_162 => ?_)
                          · have q_163 : (-2147483648) ≤ u_155.1 231 100 ∧ u_155.1 231 100 ≤ 2147483647 := iu_155.fi 100
                            have lk_164 : u_155.1 231 20 = S68.1 231 20 := (gu_155 20 rfl).trans ((gu_30 20 rfl).trans ((uF_ne (fun h => absurd h.2 (by decide))).trans (gu_13 20 rfl)))
                            have q_165 : (-2147483648) ≤ u_30.1 231 24 ∧ u_30.1 231 24 ≤ 2147483647 := iu_30.fi 24
                            have lk_166 : u_155.1 231 24 = u_30.1 231 24 := gu_155 24 rfl
                            exact ih_68 u_155 (it + 1) wt _ _ _ (by omega) iu_155 F_158 F_159 g_160 g_161 (by omega) xu_155.2.2.2.1 (fun _ => by have y := (show u_155.1 231 24 = u_30.1 231 24 from gu_155 24 rfl); omega) (fun _ => ⟨c1 + 1, _, _, _, _, (hcut1 (by omega)).1, (WTq.sm (S := S68) (u := u_155) hW1 (funext fun j => ((fu_155 291 rfl).2.1 j).trans (((fu_30 291 rfl).2.1 j).trans ((uF_a).trans ((fu_13 291 rfl).2.1 j)))) (funext fun j => ((fu_155 292 rfl).2.1 j).trans (((fu_30 292 rfl).2.1 j).trans ((uF_a).trans ((fu_13 292 rfl).2.1 j)))) (funext fun j => ((fu_155 293 rfl).2.1 j).trans (((fu_30 293 rfl).2.1 j).trans ((uF_a).trans ((fu_13 293 rfl).2.1 j))))), (by rw [(show u_155.1 231 24 = u_30.1 231 24 from gu_155 24 rfl), ← (show F1 = (3000 - (it + 1)).toNat by omega)]; exact HS.cc hS2 (by omega) hprs (by omega) (by rintro (y | ⟨j, y1, y2, y3⟩); (omega); (exact (hcut1 (by omega)).2 j y1 y2 y3)))⟩) (fun h => absurd (by have y := (show u_155.1 231 20 = S68.1 231 20 from (gu_155 20 rfl).trans ((gu_30 20 rfl).trans ((uF_ne (fun h => absurd h.2 (by decide))).trans (gu_13 20 rfl)))); omega) h) hW hL (lv_sub hl [1, 4, 5, 6] rfl)
                          · have hlgx : lgx n c1 R1 ff (vp (S68.1 231 24 + 1)) := hcut0 (by omega)
                            refine lv_aload_n hx hb dX12_trees_327 rfl (lv_at hl 5 rfl) ?_
                            refine lv_bipush (v := iv 6) hx hb dX12_trees_328 (by decide) ?_
                            refine lv_iload hx hb dX12_trees_330 (lv_at hl 3 rfl) ?_
                            have lk_167 : u_155.1 231 20 = S68.1 231 20 := (gu_155 20 rfl).trans ((gu_30 20 rfl).trans ((uF_ne (fun h => absurd h.2 (by decide))).trans (gu_13 20 rfl)))
                            refine sBv (sV (As := [.int (iv 6), .int (iv (S68.1 231 24))]) (rest := []) (k := 231) Cx (q_X12_wrong l G u_155 (cd := 6) (tk := S68.1 231 24) iu_155 (by omega) (by omega)) (c_X12_321 Cx rfl rfl (rmk_ok (by omega) (by decide))) hW (by decide) rfl rfl rfl hl.1 rfl (Nat.le_of_ble_eq_true rfl) dX12_trees_332 ⟨Nat.le_of_ble_eq_true rfl, Nat.le_of_ble_eq_true rfl⟩) hL (fun u_168 H locs k_169 hW hL => ?_)
                            obtain ⟨iu_168, fu_168, gu_168, xu_168⟩ := k_169
                            have F_170 := F_158.trans (fu_168.to (pl_sub (by decide)))
                            have F_171 := F_159.trans (fu_168.to (pl_sub (by decide)))
                            have g_172 : FF S u_168 (fl [20, 21, 24, 100]) := FF.trans g_160 (FF.to gu_168 (fl_sub (by decide)))
                            have g_173 : FF ((uF S2 231 100 (S.1 231 47))) u_168 (fl [20, 21, 24, 100]) := FF.trans g_161 (FF.to gu_168 (fl_sub (by decide)))
                            refine lv_goto (tgt := 68) hx hb dX12_trees_335 (by decide) ?_
                            have q_174 : (-2147483648) ≤ u_155.1 231 100 ∧ u_155.1 231 100 ≤ 2147483647 := iu_155.fi 100
                            have lk_175 : u_168.1 231 100 = u_155.1 231 100 := gu_168 100 rfl
                            have q_176 : (-2147483648) ≤ u_168.1 231 20 ∧ u_168.1 231 20 ≤ 2147483647 := iu_168.fi 20
                            have q_177 : (-2147483648) ≤ u_30.1 231 24 ∧ u_30.1 231 24 ≤ 2147483647 := iu_30.fi 24
                            have lk_178 : u_168.1 231 24 = u_30.1 231 24 := (gu_168 24 rfl).trans (gu_155 24 rfl)
                            exact ih_68 u_168 (it + 1) wt _ _ _ (by omega) iu_168 F_170 F_171 g_172 g_173 (by omega) (dHA.sm (S := u_155) (u := u_168) xu_155.2.2.2.1 (funext fun j => (fu_168 283 rfl).2.1 j)) (fun h => absurd h (by have y := (show u_168.1 231 20 = u_168.1 231 20 from rfl); have y2 := xu_168.2.2; omega)) (fun h => absurd h (by have y := (show u_168.1 231 20 = u_168.1 231 20 from rfl); have y2 := xu_168.2.2; omega)) (fun _ => (by rw [(show u_168.1 231 20 = 6 by have y := (show u_168.1 231 20 = u_168.1 231 20 from rfl); have y2 := xu_168.1; omega)]; exact (HS.c6 hS2 (by omega) hprs (by omega) (.inr hlgx)))) hW hL (lv_sub hl [1, 4, 5, 6] rfl)
                        · refine lv_aload_n hx hb dX12_trees_305 rfl (lv_at hl 5 rfl) ?_
                          refine lv_bipush (v := iv 6) hx hb dX12_trees_306 (by decide) ?_
                          refine lv_iload hx hb dX12_trees_308 (lv_at hl 3 rfl) ?_
                          have lk_179 : u_30.1 231 20 = S68.1 231 20 := (gu_30 20 rfl).trans ((uF_ne (fun h => absurd h.2 (by decide))).trans (gu_13 20 rfl))
                          refine sBv (sV (As := [.int (iv 6), .int (iv (S68.1 231 24))]) (rest := []) (k := 231) Cx (q_X12_wrong l G u_30 (cd := 6) (tk := S68.1 231 24) iu_30 (by omega) (by omega)) (c_X12_321 Cx rfl rfl (rmk_ok (by omega) (by decide))) hW (by decide) rfl rfl rfl hl.1 rfl (Nat.le_of_ble_eq_true rfl) dX12_trees_310 ⟨Nat.le_of_ble_eq_true rfl, Nat.le_of_ble_eq_true rfl⟩) hL (fun u_180 H locs k_181 hW hL => ?_)
                          obtain ⟨iu_180, fu_180, gu_180, xu_180⟩ := k_181
                          have F_182 := F_32.trans (fu_180.to (pl_sub (by decide)))
                          have F_183 := F_33.trans (fu_180.to (pl_sub (by decide)))
                          have g_184 : FF S u_180 (fl [20, 21, 24, 100]) := FF.trans g_34 (FF.to gu_180 (fl_sub (by decide)))
                          have g_185 : FF ((uF S2 231 100 (S.1 231 47))) u_180 (fl [20, 21, 24, 100]) := FF.trans g_35 (FF.to gu_180 (fl_sub (by decide)))
                          refine lv_aload_n hx hb dX12_trees_313 rfl (lv_at hl 5 rfl) ?_
                          have q_186 : (-2147483648) ≤ u_180.1 231 20 ∧ u_180.1 231 20 ≤ 2147483647 := iu_180.fi 20
                          refine g_X12_270 Cx hW (k := 231) (by decide) rfl (v := u_180.1 231 20) rfl dX12_trees_314 ?_
                          refine r_if_ne (tgt := 68) hx hb ⟨(by omega), (by omega)⟩ dX12_trees_317 (by decide) (fun _ => ?_) (fun c => absurd c (by omega))
                          have lk_187 : u_180.1 231 100 = S68.1 231 100 := (gu_180 100 rfl).trans ((gu_30 100 rfl).trans ((uF_ne (fun h => absurd h.2 (by decide))).trans (gu_13 100 rfl)))
                          have q_188 : (-2147483648) ≤ u_30.1 231 24 ∧ u_30.1 231 24 ≤ 2147483647 := iu_30.fi 24
                          have lk_189 : u_180.1 231 24 = u_30.1 231 24 := gu_180 24 rfl
                          exact ih_68 u_180 (it + 1) wt _ _ _ (by omega) iu_180 F_182 F_183 g_184 g_185 (by omega) (dHA.sm (S := S68) (u := u_180) hA68 (funext fun j => ((fu_180 283 rfl).2.1 j).trans (((fu_30 283 rfl).2.1 j).trans ((uF_a).trans ((fu_13 283 rfl).2.1 j))))) (fun h => absurd h (by have y := (show u_180.1 231 20 = u_180.1 231 20 from rfl); have y2 := xu_180.2.2; omega)) (fun h => absurd h (by have y := (show u_180.1 231 20 = u_180.1 231 20 from rfl); have y2 := xu_180.2.2; omega)) (fun _ => (by rw [(show u_180.1 231 20 = 6 by have y := (show u_180.1 231 20 = u_180.1 231 20 from rfl); have y2 := xu_180.1; omega)]; exact (HS.c6 hS2 (by omega) hprs (by omega) (.inl (by omega))))) hW hL (lv_sub hl [1, 4, 5, 6] rfl)
                      · refine lv_aload_n hx hb dX12_trees_282 rfl (lv_at hl 5 rfl) ?_
                        refine lv_iconst (v := iv 4) hx hb dX12_trees_283 (by decide) ?_
                        refine lv_iload hx hb dX12_trees_284 (lv_at hl 3 rfl) ?_
                        have lk_190 : u_30.1 231 20 = S68.1 231 20 := (gu_30 20 rfl).trans ((uF_ne (fun h => absurd h.2 (by decide))).trans (gu_13 20 rfl))
                        refine sBv (sV (As := [.int (iv 4), .int (iv (S68.1 231 24))]) (rest := []) (k := 231) Cx (q_X12_wrong l G u_30 (cd := 4) (tk := S68.1 231 24) iu_30 (by omega) (by omega)) (c_X12_321 Cx rfl rfl (rmk_ok (by omega) (by decide))) hW (by decide) rfl rfl rfl hl.1 rfl (Nat.le_of_ble_eq_true rfl) dX12_trees_286 ⟨Nat.le_of_ble_eq_true rfl, Nat.le_of_ble_eq_true rfl⟩) hL (fun u_191 H locs k_192 hW hL => ?_)
                        obtain ⟨iu_191, fu_191, gu_191, xu_191⟩ := k_192
                        have F_193 := F_32.trans (fu_191.to (pl_sub (by decide)))
                        have F_194 := F_33.trans (fu_191.to (pl_sub (by decide)))
                        have g_195 : FF S u_191 (fl [20, 21, 24, 100]) := FF.trans g_34 (FF.to gu_191 (fl_sub (by decide)))
                        have g_196 : FF ((uF S2 231 100 (S.1 231 47))) u_191 (fl [20, 21, 24, 100]) := FF.trans g_35 (FF.to gu_191 (fl_sub (by decide)))
                        refine lv_aload_n hx hb dX12_trees_289 rfl (lv_at hl 5 rfl) ?_
                        have q_197 : (-2147483648) ≤ u_191.1 231 20 ∧ u_191.1 231 20 ≤ 2147483647 := iu_191.fi 20
                        refine g_X12_270 Cx hW (k := 231) (by decide) rfl (v := u_191.1 231 20) rfl dX12_trees_290 ?_
                        refine r_if_ne (tgt := 313) hx hb ⟨(by omega), (by omega)⟩ dX12_trees_293 (by decide) (fun _ => ?_) (fun c => absurd c (by omega))
                        refine lv_aload_n hx hb dX12_trees_313 rfl (lv_at hl 5 rfl) ?_
                        refine g_X12_270 Cx hW (k := 231) (by decide) rfl (v := u_191.1 231 20) rfl dX12_trees_314 ?_
                        refine r_if_ne (tgt := 68) hx hb ⟨(by omega), (by omega)⟩ dX12_trees_317 (by decide) (fun _ => ?_) (fun c => absurd c (by omega))
                        have lk_198 : u_191.1 231 100 = S68.1 231 100 := (gu_191 100 rfl).trans ((gu_30 100 rfl).trans ((uF_ne (fun h => absurd h.2 (by decide))).trans (gu_13 100 rfl)))
                        have q_199 : (-2147483648) ≤ u_30.1 231 24 ∧ u_30.1 231 24 ≤ 2147483647 := iu_30.fi 24
                        have lk_200 : u_191.1 231 24 = u_30.1 231 24 := gu_191 24 rfl
                        exact ih_68 u_191 (it + 1) wt _ _ _ (by omega) iu_191 F_193 F_194 g_195 g_196 (by omega) (dHA.sm (S := S68) (u := u_191) hA68 (funext fun j => ((fu_191 283 rfl).2.1 j).trans (((fu_30 283 rfl).2.1 j).trans ((uF_a).trans ((fu_13 283 rfl).2.1 j))))) (fun h => absurd h (by have y := (show u_191.1 231 20 = u_191.1 231 20 from rfl); have y2 := xu_191.2.2; omega)) (fun h => absurd h (by have y := (show u_191.1 231 20 = u_191.1 231 20 from rfl); have y2 := xu_191.2.2; omega)) (fun _ => (by rw [(show u_191.1 231 20 = 4 by have y := (show u_191.1 231 20 = u_191.1 231 20 from rfl); have y2 := xu_191.1; omega)]; exact (HS.cw hS2 (by omega) hprs (by omega)))) hW hL (lv_sub hl [1, 4, 5, 6] rfl)
                · have hk12 : kp (S68.1 231 24) = 12 := by omega
                  have hk22 : kp (S68.1 231 24 + 2) = 2 := by rcases hk1 with z | z; (exact z.2.2); (exfalso; omega)
                  have hT2 := hKS.1 (S68.1 231 24 + 2) (by omega) (by omega)
                  refine lv_aload_n hx hb dX12_trees_115 rfl (lv_at hl 4 rfl) ?_
                  refine lv_iload hx hb dX12_trees_116 (lv_at hl 2 rfl) ?_
                  refine lv_iconst (v := iv 1) hx hb dX12_trees_118 (by decide) ?_
                  refine r_iadd hx hb dX12_trees_119 ?_
                  have q_201 : (-2147483648) ≤ S.1 231 46 ∧ S.1 231 46 ≤ 2147483647 := hI.fi 46
                  have lk_202 : S68.1 231 46 = S.1 231 46 := (gL68_ 46 rfl).trans ((uF_ne (fun h => absurd h.2 (by decide))).trans (gL2_ 46 rfl))
                  refine sBi (sV (As := [.int (iv ((S68.1 231 24) + 1))]) (rest := []) (k := 231) Cx (q_X12_variableAt l G S68 (tk := (S68.1 231 24) + 1) (Xt := Xt) (Fm := Fm) (Wd := Wd) (Vt := Vt) (T := T) (kp := kp) (vp := vp) (n := n) hI68 ((funext fun j => ((hL68_ 243 rfl).2.1 j).trans ((uF_a).trans ((hL2_ 243 rfl).2.1 j)) : S68.2.1 243 = S.2.1 243).trans hX) ((funext fun j => ((hL68_ 245 rfl).2.1 j).trans ((uF_a).trans ((hL2_ 245 rfl).2.1 j)) : S68.2.1 245 = S.2.1 245).trans hFm) ((funext fun j => ((hL68_ 246 rfl).2.1 j).trans ((uF_a).trans ((hL2_ 246 rfl).2.1 j)) : S68.2.1 246 = S.2.1 246).trans hWd) ((funext fun j => ((hL68_ 247 rfl).2.1 j).trans ((uF_a).trans ((hL2_ 247 rfl).2.1 j)) : S68.2.1 247 = S.2.1 247).trans hVt) hk11 (by omega) (by omega) (by omega) hQ hKS) (c_X12_741 Cx rfl rfl (rmk_ok (by omega) (by decide))) hW (by decide) rfl rfl rfl hl.1 rfl (Nat.le_of_ble_eq_true rfl) dX12_trees_120 ⟨Nat.le_of_ble_eq_true rfl, Nat.le_of_ble_eq_true rfl⟩) hL (fun r_205 u_203 H locs k_204 hW hL => ?_)
                  obtain ⟨iu_203, fu_203, gu_203, xu_203⟩ := k_204
                  have F_206 := hFm68.trans (fu_203.to (pl_sub (by decide)))
                  have F_207 := hL68_.trans (fu_203.to (pl_sub (by decide)))
                  have g_208 : FF S u_203 (fl [20, 21, 24, 100]) := FF.trans hGm68 (FF.to gu_203 (fl_sub (by decide)))
                  have g_209 : FF ((uF S2 231 100 (S.1 231 47))) u_203 (fl [20, 21, 24, 100]) := FF.trans gL68_ (FF.to gu_203 (fl_sub (by decide)))
                  have hx4 := xu_203.2
                  refine lv_istore (lv' := [(6, .int (iv r_205)), (3, .int (iv (it + 1))), (5, .int (iv (S.2.1 247 (S68.1 231 24)))), (4, .int (iv (S68.1 231 24))), (2, .int (iv wt)), (0, .ref (G.2.2.1 + 231)), (1, .int (iv bb))]) hx hb dX12_trees_123 hl (by decide) rfl (fun ls hl => ?_)
                  refine lv_iload hx hb dX12_trees_125 (lv_at hl 0 rfl) ?_
                  refine r_if_eq (tgt := 140) hx hb ⟨(by omega), (by omega)⟩ dX12_trees_127 (by decide) (fun c_210 => ?_) (fun c_210 => ?_)
                  · have hnx : ¬ okx n wh (vp (S68.1 231 24 + 1)) := by unfold okx; omega
                    refine lv_aload_n hx hb dX12_trees_140 rfl (lv_at hl 5 rfl) ?_
                    refine lv_iconst (v := iv 4) hx hb dX12_trees_141 (by decide) ?_
                    refine lv_iload hx hb dX12_trees_142 (lv_at hl 3 rfl) ?_
                    have lk_211 : u_203.1 231 20 = S68.1 231 20 := gu_203 20 rfl
                    refine sBv (sV (As := [.int (iv 4), .int (iv (S68.1 231 24))]) (rest := []) (k := 231) Cx (q_X12_wrong l G u_203 (cd := 4) (tk := S68.1 231 24) iu_203 (by omega) (by omega)) (c_X12_321 Cx rfl rfl (rmk_ok (by omega) (by decide))) hW (by decide) rfl rfl rfl hl.1 rfl (Nat.le_of_ble_eq_true rfl) dX12_trees_144 ⟨Nat.le_of_ble_eq_true rfl, Nat.le_of_ble_eq_true rfl⟩) hL (fun u_212 H locs k_213 hW hL => ?_)
                    obtain ⟨iu_212, fu_212, gu_212, xu_212⟩ := k_213
                    have F_214 := F_206.trans (fu_212.to (pl_sub (by decide)))
                    have F_215 := F_207.trans (fu_212.to (pl_sub (by decide)))
                    have g_216 : FF S u_212 (fl [20, 21, 24, 100]) := FF.trans g_208 (FF.to gu_212 (fl_sub (by decide)))
                    have g_217 : FF ((uF S2 231 100 (S.1 231 47))) u_212 (fl [20, 21, 24, 100]) := FF.trans g_209 (FF.to gu_212 (fl_sub (by decide)))
                    refine lv_aload_n hx hb dX12_trees_147 rfl (lv_at hl 5 rfl) ?_
                    have q_218 : (-2147483648) ≤ u_212.1 231 20 ∧ u_212.1 231 20 ≤ 2147483647 := iu_212.fi 20
                    refine g_X12_270 Cx hW (k := 231) (by decide) rfl (v := u_212.1 231 20) rfl dX12_trees_148 ?_
                    refine r_if_ne (tgt := 171) hx hb ⟨(by omega), (by omega)⟩ dX12_trees_151 (by decide) (fun _ => ?_) (fun c => absurd c (by omega))
                    refine lv_aload_n hx hb dX12_trees_171 rfl (lv_at hl 5 rfl) ?_
                    refine g_X12_270 Cx hW (k := 231) (by decide) rfl (v := u_212.1 231 20) rfl dX12_trees_172 ?_
                    refine r_if_eq (tgt := 179) hx hb ⟨(by omega), (by omega)⟩ dX12_trees_175 (by decide) (fun c => absurd c (by omega)) (fun _ => ?_)
                    exact sVret Cx hr hlk hW hL ⟨iu_212, F_214, g_216, ⟨(dHA.sm (S := S68) (u := u_212) hA68 (funext fun j => ((fu_212 283 rfl).2.1 j).trans ((fu_203 283 rfl).2.1 j))), (by rw [(show u_212.1 231 20 = 4 by have y := (show u_212.1 231 20 = u_212.1 231 20 from rfl); have y2 := xu_212.1; omega)]; exact HS.brx hS2 hk12 (fun _ => rfl) (fun y => absurd y hnx) (fun y => hnx y.1))⟩⟩ dX12_trees_178
                  · have hwk := hMR.2.2.2.2.2.2 r_205 (by omega) (by omega)
                    have hkx : r_205 = vp (S68.1 231 24 + 1) := by omega
                    refine lv_aload_n hx hb dX12_trees_130 rfl (lv_at hl 5 rfl) ?_
                    refine g_X12_94 Cx hW (k := 231) (by decide) rfl (v := .ref (G.2.2.1 + 259)) (rd_50 iu_203) dX12_trees_131 ?_
                    refine lv_iload hx hb dX12_trees_134 (lv_at hl 0 rfl) ?_
                    refine rZald Cx hW (k := 259) (by decide) rfl (by decide) (by omega) (by omega) dX12_trees_136 ?_
                    have q_219 : 0 ≤ S.2.1 259 r_205 ∧ S.2.1 259 r_205 ≤ 1 := hI.ai 259 r_205
                    refine r_i (b := S.2.1 259 r_205) (((fu_203 259 rfl).2.1 r_205).trans (((hL68_ 259 rfl).2.1 r_205).trans ((uF_a).trans ((hL2_ 259 rfl).2.1 r_205)))) ?_
                    refine r_if_ne (tgt := 147) hx hb ⟨(by omega), (by omega)⟩ dX12_trees_137 (by decide) (fun c_220 => ?_) (fun c_220 => ?_)
                    · refine lv_aload_n hx hb dX12_trees_147 rfl (lv_at hl 5 rfl) ?_
                      refine g_X12_270 Cx hW (k := 231) (by decide) rfl (v := S68.1 231 20) (gu_203 20 rfl) dX12_trees_148 ?_
                      refine r_if_ne (tgt := 171) hx hb ⟨(by omega), (by omega)⟩ dX12_trees_151 (by decide) (fun c => absurd (by omega) c) (fun _ => ?_)
                      refine lv_aload_n hx hb dX12_trees_154 rfl (lv_at hl 5 rfl) ?_
                      have q_221 : (-2147483648) ≤ S68.1 231 100 ∧ S68.1 231 100 ≤ 2147483647 := hI68.fi 100
                      refine g_X12_738 Cx hW (k := 231) (by decide) rfl (v := S68.1 231 100) (gu_203 100 rfl) dX12_trees_155 ?_
                      refine lv_bipush (v := iv 40) hx hb dX12_trees_158 (by decide) ?_
                      refine r_icmp_ne (tgt := 171) hx hb ⟨(by omega), (by omega)⟩ ⟨(by omega), (by omega)⟩ dX12_trees_160 (by decide) (fun c_222 => ?_) (fun c_222 => ?_)
                      · refine lv_aload_n hx hb dX12_trees_171 rfl (lv_at hl 5 rfl) ?_
                        refine g_X12_270 Cx hW (k := 231) (by decide) rfl (v := S68.1 231 20) (gu_203 20 rfl) dX12_trees_172 ?_
                        refine r_if_eq (tgt := 179) hx hb ⟨(by omega), (by omega)⟩ dX12_trees_175 (by decide) (fun _ => ?_) (fun c => absurd (by omega) c)
                        have hyx : okx n wh (vp (S68.1 231 24 + 1)) := ⟨by omega, by omega, by rw [← hkx]; omega⟩
                        refine lv_aload_n hx hb dX12_trees_179 rfl (lv_at hl 5 rfl) ?_
                        refine g_X12_193 Cx hW (k := 231) (by decide) rfl (v := .ref (G.2.2.1 + 291)) (rd_102 iu_203) dX12_trees_180 ?_
                        refine lv_iload_n hx hb dX12_trees_183 rfl (lv_at hl 4 rfl) ?_
                        refine lv_aload_n hx hb dX12_trees_184 rfl (lv_at hl 5 rfl) ?_
                        refine g_X12_738 Cx hW (k := 231) (by decide) rfl (v := S68.1 231 100) (gu_203 100 rfl) dX12_trees_185 ?_
                        refine rIast Cx hW hL (k := 291) (by decide) rfl (by decide) (by omega) (by omega) dX12_trees_188 (fun H locs hW hL => ?_)
                        have F_223 : Fr S (uA u_203 291 wt (S68.1 231 100)) (pl [231, 233, 234, 235, 237, 238, 240, 277, 283, 284, 288, 289, 291, 292, 293]) := F_206.A rfl
                        have F_224 : Fr ((uF S2 231 100 (S.1 231 47))) (uA u_203 291 wt (S68.1 231 100)) (pl [231, 233, 234, 235, 237, 238, 240, 277, 283, 284, 288, 289, 291, 292, 293]) := F_207.A rfl
                        have i_225 : dX G (uA u_203 291 wt (S68.1 231 100)) := iu_203.A (k := 291) (show (-2147483648) ≤ S68.1 231 100 ∧ S68.1 231 100 ≤ 2147483647 from ⟨by omega, by omega⟩)
                        refine lv_aload_n hx hb dX12_trees_189 rfl (lv_at hl 5 rfl) ?_
                        refine g_X12_196 Cx hW (k := 231) (by decide) rfl (v := .ref (G.2.2.1 + 292)) (rd_103 i_225) dX12_trees_190 ?_
                        refine lv_iload_n hx hb dX12_trees_193 rfl (lv_at hl 4 rfl) ?_
                        refine lv_iload hx hb dX12_trees_194 (lv_at hl 0 rfl) ?_
                        refine rIast Cx hW hL (k := 292) (by decide) rfl (by decide) (by omega) (by omega) dX12_trees_196 (fun H locs hW hL => ?_)
                        have F_226 : Fr S (uA (uA u_203 291 wt (S68.1 231 100)) 292 wt r_205) (pl [231, 233, 234, 235, 237, 238, 240, 277, 283, 284, 288, 289, 291, 292, 293]) := F_223.A rfl
                        have F_227 : Fr ((uF S2 231 100 (S.1 231 47))) (uA (uA u_203 291 wt (S68.1 231 100)) 292 wt r_205) (pl [231, 233, 234, 235, 237, 238, 240, 277, 283, 284, 288, 289, 291, 292, 293]) := F_224.A rfl
                        have i_228 : dX G (uA (uA u_203 291 wt (S68.1 231 100)) 292 wt r_205) := i_225.A (k := 292) (show (-2147483648) ≤ r_205 ∧ r_205 ≤ 2147483647 from ⟨by omega, by omega⟩)
                        refine lv_aload_n hx hb dX12_trees_197 rfl (lv_at hl 5 rfl) ?_
                        refine g_X12_199 Cx hW (k := 231) (by decide) rfl (v := .ref (G.2.2.1 + 293)) (rd_104 i_228) dX12_trees_198 ?_
                        refine lv_iload_n hx hb dX12_trees_201 rfl (lv_at hl 4 rfl) ?_
                        refine lv_iload hx hb dX12_trees_202 (lv_at hl 3 rfl) ?_
                        refine lv_iconst (v := iv 2) hx hb dX12_trees_204 (by decide) ?_
                        refine r_iadd hx hb dX12_trees_205 ?_
                        refine rIast Cx hW hL (k := 293) (by decide) rfl (by decide) (by omega) (by omega) dX12_trees_206 (fun H locs hW hL => ?_)
                        have F_229 : Fr S (uA (uA (uA u_203 291 wt (S68.1 231 100)) 292 wt r_205) 293 wt ((S68.1 231 24) + 2)) (pl [231, 233, 234, 235, 237, 238, 240, 277, 283, 284, 288, 289, 291, 292, 293]) := F_226.A rfl
                        have F_230 : Fr ((uF S2 231 100 (S.1 231 47))) (uA (uA (uA u_203 291 wt (S68.1 231 100)) 292 wt r_205) 293 wt ((S68.1 231 24) + 2)) (pl [231, 233, 234, 235, 237, 238, 240, 277, 283, 284, 288, 289, 291, 292, 293]) := F_227.A rfl
                        have i_231 : dX G (uA (uA (uA u_203 291 wt (S68.1 231 100)) 292 wt r_205) 293 wt ((S68.1 231 24) + 2)) := i_228.A (k := 293) (show (-2147483648) ≤ (S68.1 231 24) + 2 ∧ (S68.1 231 24) + 2 ≤ 2147483647 from ⟨by omega, by omega⟩)
                        refine lv_iinc (v := iv (wt + 1)) (lv' := [(2, .int (iv (wt + 1))), (6, .int (iv r_205)), (3, .int (iv (it + 1))), (5, .int (iv (S.2.1 247 (S68.1 231 24)))), (4, .int (iv (S68.1 231 24))), (0, .ref (G.2.2.1 + 231)), (1, .int (iv bb))]) hx hb dX12_trees_207 hl (k := 4) rfl ((Int32.ofInt_add _ _).symm) (by decide) rfl (fun ls hl => ?_)
                        refine lv_aload_n hx hb dX12_trees_210 rfl (lv_at hl 5 rfl) ?_
                        refine lv_iload hx hb dX12_trees_211 (lv_at hl 1 rfl) ?_
                        refine lv_iload hx hb dX12_trees_213 (lv_at hl 4 rfl) ?_
                        refine lv_iconst (v := iv 2) hx hb dX12_trees_215 (by decide) ?_
                        refine r_iadd hx hb dX12_trees_216 ?_
                        refine lv_iconst (v := iv 0) hx hb dX12_trees_217 (by decide) ?_
                        have lk_232 : (uA (uA (uA u_203 291 wt (S68.1 231 100)) 292 wt r_205) 293 wt ((S68.1 231 24) + 2)).1 231 46 = S.1 231 46 := (uA_f).trans ((uA_f).trans ((uA_f).trans ((gu_203 46 rfl).trans ((gL68_ 46 rfl).trans ((uF_ne (fun h => absurd h.2 (by decide))).trans (gL2_ 46 rfl))))))
                        have lk_233 : (uA (uA (uA u_203 291 wt (S68.1 231 100)) 292 wt r_205) 293 wt ((S68.1 231 24) + 2)).1 231 100 = S68.1 231 100 := (uA_f).trans ((uA_f).trans ((uA_f).trans (gu_203 100 rfl)))
                        refine sBv (sV (As := [.int (iv r_205), .int (iv ((S68.1 231 24) + 2)), .int (iv 0)]) (rest := []) (k := 231) Cx (q_X12_branchRow l G (uA (uA (uA u_203 291 wt (S68.1 231 100)) 292 wt r_205) 293 wt ((S68.1 231 24) + 2)) (k := r_205) (tk := (S68.1 231 24) + 2) (bb := 0) (Xt := Xt) (Fm := Fm) (Wd := Wd) (Vt := Vt) (T := T) (kp := kp) (vp := vp) (n := n) (cc := c1) (RR := R1) i_231 ((funext fun j => (uA_ne (fun h => absurd h.1 (by decide))).trans ((uA_ne (fun h => absurd h.1 (by decide))).trans ((uA_ne (fun h => absurd h.1 (by decide))).trans (((fu_203 243 rfl).2.1 j).trans (((hL68_ 243 rfl).2.1 j).trans ((uF_a).trans ((hL2_ 243 rfl).2.1 j)))))) : (uA (uA (uA u_203 291 wt (S68.1 231 100)) 292 wt r_205) 293 wt ((S68.1 231 24) + 2)).2.1 243 = S.2.1 243).trans hX) ((funext fun j => (uA_ne (fun h => absurd h.1 (by decide))).trans ((uA_ne (fun h => absurd h.1 (by decide))).trans ((uA_ne (fun h => absurd h.1 (by decide))).trans (((fu_203 245 rfl).2.1 j).trans (((hL68_ 245 rfl).2.1 j).trans ((uF_a).trans ((hL2_ 245 rfl).2.1 j)))))) : (uA (uA (uA u_203 291 wt (S68.1 231 100)) 292 wt r_205) 293 wt ((S68.1 231 24) + 2)).2.1 245 = S.2.1 245).trans hFm) ((funext fun j => (uA_ne (fun h => absurd h.1 (by decide))).trans ((uA_ne (fun h => absurd h.1 (by decide))).trans ((uA_ne (fun h => absurd h.1 (by decide))).trans (((fu_203 246 rfl).2.1 j).trans (((hL68_ 246 rfl).2.1 j).trans ((uF_a).trans ((hL2_ 246 rfl).2.1 j)))))) : (uA (uA (uA u_203 291 wt (S68.1 231 100)) 292 wt r_205) 293 wt ((S68.1 231 24) + 2)).2.1 246 = S.2.1 246).trans hWd) ((funext fun j => (uA_ne (fun h => absurd h.1 (by decide))).trans ((uA_ne (fun h => absurd h.1 (by decide))).trans ((uA_ne (fun h => absurd h.1 (by decide))).trans (((fu_203 247 rfl).2.1 j).trans (((hL68_ 247 rfl).2.1 j).trans ((uF_a).trans ((hL2_ 247 rfl).2.1 j)))))) : (uA (uA (uA u_203 291 wt (S68.1 231 100)) 292 wt r_205) 293 wt ((S68.1 231 24) + 2)).2.1 247 = S.2.1 247).trans hVt) hk22 (by omega) (by omega) (by omega) (by omega) (by omega) (by omega) (dHA.sm (S := S68) (u := (uA (uA (uA u_203 291 wt (S68.1 231 100)) 292 wt r_205) 293 wt ((S68.1 231 24) + 2))) hA68 (funext fun j => (uA_ne (fun h => absurd h.1 (by decide))).trans ((uA_ne (fun h => absurd h.1 (by decide))).trans ((uA_ne (fun h => absurd h.1 (by decide))).trans ((fu_203 283 rfl).2.1 j))))) (HRr.sm (S := S68) (u := (uA (uA (uA u_203 291 wt (S68.1 231 100)) 292 wt r_205) 293 wt ((S68.1 231 24) + 2))) hR1 ((uA_f).trans ((uA_f).trans ((uA_f).trans (gu_203 100 rfl)))) (funext fun j => (uA_ne (fun h => absurd h.1 (by decide))).trans ((uA_ne (fun h => absurd h.1 (by decide))).trans ((uA_ne (fun h => absurd h.1 (by decide))).trans ((fu_203 283 rfl).2.1 j))))) hQ hKS) (c_X12_744 Cx rfl rfl (rmk_ok (by omega) (by decide))) hW (by decide) rfl rfl rfl hl.1 rfl (Nat.le_of_ble_eq_true rfl) dX12_trees_218 ⟨Nat.le_of_ble_eq_true rfl, Nat.le_of_ble_eq_true rfl⟩) hL (fun u_234 H locs k_235 hW hL => ?_)
                        obtain ⟨iu_234, fu_234, gu_234, xu_234⟩ := k_235
                        have F_236 := F_229.trans (fu_234.to (pl_sub (by decide)))
                        have F_237 := F_230.trans (fu_234.to (pl_sub (by decide)))
                        have g_238 : FF S u_234 (fl [20, 21, 24, 100]) := FF.trans g_208 (FF.to gu_234 (fl_sub (by decide)))
                        have g_239 : FF ((uF S2 231 100 (S.1 231 47))) u_234 (fl [20, 21, 24, 100]) := FF.trans g_209 (FF.to gu_234 (fl_sub (by decide)))
                        refine lv_aload_n hx hb dX12_trees_221 rfl (lv_at hl 5 rfl) ?_
                        refine lv_iload hx hb dX12_trees_222 (lv_at hl 4 rfl) ?_
                        refine lv_iconst (v := iv 3) hx hb dX12_trees_224 (by decide) ?_
                        refine r_iadd hx hb dX12_trees_225 ?_
                        refine p_X12_315 Cx hW hL (k := 231) (by decide) rfl dX12_trees_226 (fun H locs hW hL => ?_)
                        have F_240 : Fr S (uF u_234 231 24 ((S68.1 231 24) + 3)) (pl [231, 233, 234, 235, 237, 238, 240, 277, 283, 284, 288, 289, 291, 292, 293]) := F_236.F rfl
                        have F_241 : Fr ((uF S2 231 100 (S.1 231 47))) (uF u_234 231 24 ((S68.1 231 24) + 3)) (pl [231, 233, 234, 235, 237, 238, 240, 277, 283, 284, 288, 289, 291, 292, 293]) := F_237.F rfl
                        have g_242 : FF S (uF u_234 231 24 ((S68.1 231 24) + 3)) (fl [20, 21, 24, 100]) := FF.F g_238 rfl
                        have g_243 : FF ((uF S2 231 100 (S.1 231 47))) (uF u_234 231 24 ((S68.1 231 24) + 3)) (fl [20, 21, 24, 100]) := FF.F g_239 rfl
                        have i_244 : dX G (uF u_234 231 24 ((S68.1 231 24) + 3)) := iu_234.F (i := 24) (show (-2147483648) ≤ (S68.1 231 24) + 3 ∧ (S68.1 231 24) + 3 ≤ 2147483647 from ⟨by omega, by omega⟩)
                        refine lv_goto (tgt := 68) hx hb dX12_trees_229 (by decide) ?_
                        have q_245 : (-2147483648) ≤ u_234.1 231 100 ∧ u_234.1 231 100 ≤ 2147483647 := iu_234.fi 100
                        have lk_246 : (uF u_234 231 24 ((S68.1 231 24) + 3)).1 231 100 = u_234.1 231 100 := uF_ne (fun h => absurd h.2 (by decide))
                        have lk_247 : (uF u_234 231 24 ((S68.1 231 24) + 3)).1 231 20 = S68.1 231 20 := (uF_ne (fun h => absurd h.2 (by decide))).trans ((gu_234 20 rfl).trans ((uA_f).trans ((uA_f).trans ((uA_f).trans (gu_203 20 rfl)))))
                        have lk_248 : (uF u_234 231 24 ((S68.1 231 24) + 3)).1 231 24 = (S68.1 231 24) + 3 := uF_on
                        exact ih_68 (uF u_234 231 24 ((S68.1 231 24) + 3)) (it + 1) (wt + 1) _ _ _ (by omega) i_244 F_240 F_241 g_242 g_243 (by omega) (dHA.sm (S := u_234) (u := (uF u_234 231 24 ((S68.1 231 24) + 3))) xu_234.2.1 (funext fun j => uF_a)) (fun _ => by have y := (show (uF u_234 231 24 ((S68.1 231 24) + 3)).1 231 24 = (S68.1 231 24) + 3 from uF_on); omega) (fun _ => ⟨c1 + 1, _, _, _, _, (HRr.sm (S := u_234) (u := (uF u_234 231 24 ((S68.1 231 24) + 3))) xu_234.2.2 (uF_ne (fun h => absurd h.2 (by decide))) (funext fun j => uF_a)), WTq.br hW1 (fun i => ((uF_a).trans (((fu_234 291 rfl).2.1 i).trans ((uA_ne (fun h => absurd h.1 (by decide))).trans (uA_ne (fun h => absurd h.1 (by decide))))) : (uF u_234 231 24 ((S68.1 231 24) + 3)).2.1 291 i = _).trans (by rw [uA_get]; by_cases z : i = wt; (rw [if_pos ⟨rfl, z⟩, if_pos z]); (rw [if_neg (fun h => z h.2), if_neg z]; exact ((fu_203 291 rfl).2.1 i)))) (fun i => ((uF_a).trans (((fu_234 292 rfl).2.1 i).trans (uA_ne (fun h => absurd h.1 (by decide)))) : (uF u_234 231 24 ((S68.1 231 24) + 3)).2.1 292 i = _).trans (by rw [uA_get]; by_cases z : i = wt; (rw [if_pos ⟨rfl, z⟩, if_pos z]); (rw [if_neg (fun h => z h.2), if_neg z]; exact ((uA_ne (fun h => absurd h.1 (by decide))).trans ((fu_203 292 rfl).2.1 i))))) (fun i => ((uF_a).trans ((fu_234 293 rfl).2.1 i) : (uF u_234 231 24 ((S68.1 231 24) + 3)).2.1 293 i = _).trans (by rw [uA_get]; by_cases z : i = wt; (rw [if_pos ⟨rfl, z⟩, if_pos z]); (rw [if_neg (fun h => z h.2), if_neg z]; exact ((uA_ne (fun h => absurd h.1 (by decide))).trans ((uA_ne (fun h => absurd h.1 (by decide))).trans ((fu_203 293 rfl).2.1 i)))))) hk22 rfl, (by rw [(show (uF u_234 231 24 ((S68.1 231 24) + 3)).1 231 24 = (S68.1 231 24) + 3 from uF_on), ← (show F1 = (3000 - (it + 1)).toNat by omega), show S68.1 231 100 = c1 by omega, hkx]; exact HS.br hS2 hk12 hyx (by omega))⟩) (fun h => absurd (by have y := (show (uF u_234 231 24 ((S68.1 231 24) + 3)).1 231 20 = S68.1 231 20 from (uF_ne (fun h => absurd h.2 (by decide))).trans ((gu_234 20 rfl).trans ((uA_f).trans ((uA_f).trans ((uA_f).trans (gu_203 20 rfl)))))); omega) h) hW hL (lv_sub hl [2, 0, 5, 6] rfl)
                      · have hyx : okx n wh (vp (S68.1 231 24 + 1)) := ⟨by omega, by omega, by rw [← hkx]; omega⟩
                        refine lv_aload_n hx hb dX12_trees_163 rfl (lv_at hl 5 rfl) ?_
                        refine lv_bipush (v := iv 6) hx hb dX12_trees_164 (by decide) ?_
                        refine lv_iload hx hb dX12_trees_166 (lv_at hl 3 rfl) ?_
                        have lk_249 : u_203.1 231 20 = S68.1 231 20 := gu_203 20 rfl
                        refine sBv (sV (As := [.int (iv 6), .int (iv (S68.1 231 24))]) (rest := []) (k := 231) Cx (q_X12_wrong l G u_203 (cd := 6) (tk := S68.1 231 24) iu_203 (by omega) (by omega)) (c_X12_321 Cx rfl rfl (rmk_ok (by omega) (by decide))) hW (by decide) rfl rfl rfl hl.1 rfl (Nat.le_of_ble_eq_true rfl) dX12_trees_168 ⟨Nat.le_of_ble_eq_true rfl, Nat.le_of_ble_eq_true rfl⟩) hL (fun u_250 H locs k_251 hW hL => ?_)
                        obtain ⟨iu_250, fu_250, gu_250, xu_250⟩ := k_251
                        have F_252 := F_206.trans (fu_250.to (pl_sub (by decide)))
                        have F_253 := F_207.trans (fu_250.to (pl_sub (by decide)))
                        have g_254 : FF S u_250 (fl [20, 21, 24, 100]) := FF.trans g_208 (FF.to gu_250 (fl_sub (by decide)))
                        have g_255 : FF ((uF S2 231 100 (S.1 231 47))) u_250 (fl [20, 21, 24, 100]) := FF.trans g_209 (FF.to gu_250 (fl_sub (by decide)))
                        refine lv_aload_n hx hb dX12_trees_171 rfl (lv_at hl 5 rfl) ?_
                        have q_256 : (-2147483648) ≤ u_250.1 231 20 ∧ u_250.1 231 20 ≤ 2147483647 := iu_250.fi 20
                        refine g_X12_270 Cx hW (k := 231) (by decide) rfl (v := u_250.1 231 20) rfl dX12_trees_172 ?_
                        refine r_if_eq (tgt := 179) hx hb ⟨(by omega), (by omega)⟩ dX12_trees_175 (by decide) (fun c => absurd c (by omega)) (fun _ => ?_)
                        exact sVret Cx hr hlk hW hL ⟨iu_250, F_252, g_254, ⟨(dHA.sm (S := S68) (u := u_250) hA68 (funext fun j => ((fu_250 283 rfl).2.1 j).trans ((fu_203 283 rfl).2.1 j))), (by rw [(show u_250.1 231 20 = 6 by have y := (show u_250.1 231 20 = u_250.1 231 20 from rfl); have y2 := xu_250.1; omega)]; exact HS.brx hS2 hk12 (fun y => absurd hyx y) (fun _ _ => rfl) (fun y => by have := y.2; omega))⟩⟩ dX12_trees_178
                    · have hnx : ¬ okx n wh (vp (S68.1 231 24 + 1)) := by unfold okx; rintro ⟨a, b, d⟩; rw [← hkx] at d; omega
                      refine lv_aload_n hx hb dX12_trees_140 rfl (lv_at hl 5 rfl) ?_
                      refine lv_iconst (v := iv 4) hx hb dX12_trees_141 (by decide) ?_
                      refine lv_iload hx hb dX12_trees_142 (lv_at hl 3 rfl) ?_
                      have lk_257 : u_203.1 231 20 = S68.1 231 20 := gu_203 20 rfl
                      refine sBv (sV (As := [.int (iv 4), .int (iv (S68.1 231 24))]) (rest := []) (k := 231) Cx (q_X12_wrong l G u_203 (cd := 4) (tk := S68.1 231 24) iu_203 (by omega) (by omega)) (c_X12_321 Cx rfl rfl (rmk_ok (by omega) (by decide))) hW (by decide) rfl rfl rfl hl.1 rfl (Nat.le_of_ble_eq_true rfl) dX12_trees_144 ⟨Nat.le_of_ble_eq_true rfl, Nat.le_of_ble_eq_true rfl⟩) hL (fun u_258 H locs k_259 hW hL => ?_)
                      obtain ⟨iu_258, fu_258, gu_258, xu_258⟩ := k_259
                      have F_260 := F_206.trans (fu_258.to (pl_sub (by decide)))
                      have F_261 := F_207.trans (fu_258.to (pl_sub (by decide)))
                      have g_262 : FF S u_258 (fl [20, 21, 24, 100]) := FF.trans g_208 (FF.to gu_258 (fl_sub (by decide)))
                      have g_263 : FF ((uF S2 231 100 (S.1 231 47))) u_258 (fl [20, 21, 24, 100]) := FF.trans g_209 (FF.to gu_258 (fl_sub (by decide)))
                      refine lv_aload_n hx hb dX12_trees_147 rfl (lv_at hl 5 rfl) ?_
                      have q_264 : (-2147483648) ≤ u_258.1 231 20 ∧ u_258.1 231 20 ≤ 2147483647 := iu_258.fi 20
                      refine g_X12_270 Cx hW (k := 231) (by decide) rfl (v := u_258.1 231 20) rfl dX12_trees_148 ?_
                      refine r_if_ne (tgt := 171) hx hb ⟨(by omega), (by omega)⟩ dX12_trees_151 (by decide) (fun _ => ?_) (fun c => absurd c (by omega))
                      refine lv_aload_n hx hb dX12_trees_171 rfl (lv_at hl 5 rfl) ?_
                      refine g_X12_270 Cx hW (k := 231) (by decide) rfl (v := u_258.1 231 20) rfl dX12_trees_172 ?_
                      refine r_if_eq (tgt := 179) hx hb ⟨(by omega), (by omega)⟩ dX12_trees_175 (by decide) (fun c => absurd c (by omega)) (fun _ => ?_)
                      exact sVret Cx hr hlk hW hL ⟨iu_258, F_260, g_262, ⟨(dHA.sm (S := S68) (u := u_258) hA68 (funext fun j => ((fu_258 283 rfl).2.1 j).trans ((fu_203 283 rfl).2.1 j))), (by rw [(show u_258.1 231 20 = 4 by have y := (show u_258.1 231 20 = u_258.1 231 20 from rfl); have y2 := xu_258.1; omega)]; exact HS.brx hS2 hk12 (fun _ => rfl) (fun y => absurd y hnx) (fun y => hnx y.1))⟩⟩ dX12_trees_178
              · refine lv_aload_n hx hb dX12_trees_100 rfl (lv_at hl 4 rfl) ?_
                refine lv_bipush (v := iv 6) hx hb dX12_trees_101 (by decide) ?_
                refine lv_iload hx hb dX12_trees_103 (lv_at hl 2 rfl) ?_
                refine sBv (sV (As := [.int (iv 6), .int (iv (S68.1 231 24))]) (rest := []) (k := 231) Cx (q_X12_wrong l G S68 (cd := 6) (tk := S68.1 231 24) hI68 (by omega) (by omega)) (c_X12_321 Cx rfl rfl (rmk_ok (by omega) (by decide))) hW (by decide) rfl rfl rfl hl.1 rfl (Nat.le_of_ble_eq_true rfl) dX12_trees_105 ⟨Nat.le_of_ble_eq_true rfl, Nat.le_of_ble_eq_true rfl⟩) hL (fun u_265 H locs k_266 hW hL => ?_)
                obtain ⟨iu_265, fu_265, gu_265, xu_265⟩ := k_266
                have F_267 := hFm68.trans (fu_265.to (pl_sub (by decide)))
                have F_268 := hL68_.trans (fu_265.to (pl_sub (by decide)))
                have g_269 : FF S u_265 (fl [20, 21, 24, 100]) := FF.trans hGm68 (FF.to gu_265 (fl_sub (by decide)))
                have g_270 : FF ((uF S2 231 100 (S.1 231 47))) u_265 (fl [20, 21, 24, 100]) := FF.trans gL68_ (FF.to gu_265 (fl_sub (by decide)))
                have q_271 : (-2147483648) ≤ u_265.1 231 20 ∧ u_265.1 231 20 ≤ 2147483647 := iu_265.fi 20
                exact sVret Cx hr hlk hW hL ⟨iu_265, F_267, g_269, ⟨(dHA.sm (S := S68) (u := u_265) hA68 (funext fun j => (fu_265 283 rfl).2.1 j)), (by rw [(show u_265.1 231 20 = 6 by have y := (show u_265.1 231 20 = u_265.1 231 20 from rfl); have y2 := xu_265.1; omega)]; exact (by have h := hS1; rw [show (3000 - it).toNat = 0 by omega] at h; exact HS.end h))⟩⟩ dX12_trees_108
        have lk_272 : (uF S2 231 100 (S.1 231 47)).1 231 100 = S.1 231 47 := uF_on
        have q_273 : (-2147483648) ≤ S.1 231 20 ∧ S.1 231 20 ≤ 2147483647 := hI.fi 20
        have lk_274 : (uF S2 231 100 (S.1 231 47)).1 231 20 = S.1 231 20 := (uF_ne (fun h => absurd h.2 (by decide))).trans (gL2_ 20 rfl)
        have q_275 : (-2147483648) ≤ S.1 231 24 ∧ S.1 231 24 ≤ 2147483647 := hI.fi 24
        have lk_276 : (uF S2 231 100 (S.1 231 47)).1 231 24 = S.1 231 24 := (uF_ne (fun h => absurd h.2 (by decide))).trans (gL2_ 24 rfl)
        exact loop_68 (_ + 1) (uF S2 231 100 (S.1 231 47)) 0 0 _ _ _ (Nat.lt_succ_self _) i_5 F_3 Fr.rf g_4 FF.rf (by omega) (dHA.sm (S := S2) (u := (uF S2 231 100 (S.1 231 47))) hA2 (funext fun j => uF_a)) (fun _ => by rw [(show (uF S2 231 100 (S.1 231 47)).1 231 24 = S.1 231 24 from (uF_ne (fun h => absurd h.2 (by decide))).trans (gL2_ 24 rfl))]; omega) (fun _ => ⟨mm, A, (fun _ => 0), (fun _ => 0), (fun _ => 0), ⟨(by have y := (show (uF S2 231 100 (S.1 231 47)).1 231 100 = S.1 231 47 from uF_on); omega), (by rw [show (uF S2 231 100 (S.1 231 47)).2.1 283 = S2.2.1 283 from (funext fun j => uF_a), show mm = i - 1 by omega]; exact hV2)⟩, (fun i a b => by exfalso; omega), (⟨⟨by omega, by omega, by omega, fun i a b => by exfalso; omega⟩, (fun j _ _ => rfl), (by rw [(show (uF S2 231 100 (S.1 231 47)).1 231 24 = S.1 231 24 from (uF_ne (fun h => absurd h.2 (by decide))).trans (gL2_ 24 rfl)), hc]; exact hg), (fun x z => by rw [(show (uF S2 231 100 (S.1 231 47)).1 231 24 = S.1 231 24 from (uF_ne (fun h => absurd h.2 (by decide))).trans (gL2_ 24 rfl)), hc] at z; exact z)⟩)⟩) (fun h => absurd (by have y := (show (uF S2 231 100 (S.1 231 47)).1 231 20 = S.1 231 20 from (uF_ne (fun h => absurd h.2 (by decide))).trans (gL2_ 20 rfl)); omega) h) hW hL (lv_sub hl [0, 1, 2, 3] rfl)
      · refine lv_iconst (v := iv 0) hx hb dX12_trees_10 (by decide) ?_
        refine lv_istore_n (lv' := [(3, .int (iv 0)), (2, .int (iv i)), (0, .ref (G.2.2.1 + 231)), (1, .int (iv bb))]) hx hb dX12_trees_11 rfl hl (by decide) rfl (fun ls hl => ?_)
        have loop_12 : ∀ (fuel : Nat) (S12 : sS) (j : Int) (H : Heap) (locs : List Loc) (ls : Array Slot), (S.1 231 46 + 1 - j).toNat < fuel → (dX G S12) → (Fr S S12 (pl [231, 233, 234, 235, 237, 238, 240, 277, 283, 284, 288, 289, 291, 292, 293])) → (Fr S S12 (pl [283])) → (Fr S2 S12 (pl [283])) → (FF S S12 (fl [20, 21, 24, 100])) → (FF S S12 (fl [])) → (FF S2 S12 (fl [])) → (0 ≤ j ∧ j ≤ S.1 231 46 + 1) → (dHA S12) → (HRf (S12.2.1 283) (i - 1) A n) → (RCf (S12.2.1 283) i (j - 1) (A i)) → sW G 294 S12 H → sL G locs → lv_has ls 7 [(3, .int (iv j)), (2, .int (iv i)), (0, .ref (G.2.2.1 + 231)), (1, .int (iv bb))] → W p l e (rmk 7 0 0) s m args below meth c H locs 0 0 (MQ below (sQv G 294 (fun u => dX G u ∧ Fr S u (pl [231, 233, 234, 235, 237, 238, 240, 277, 283, 284, 288, 289, 291, 292, 293]) ∧ FF S u (fl [20, 21, 24, 100]) ∧ (dHA u ∧ Hd (HT n (wct wh n.toNat) wh bb vt vb kp vp 3000 pz mm A 0 (fun _ => 0) (fun _ => 0) (fun _ => 0) (u.1 231 20))))) args s 0 0 (sF G)) (F0 m 12 ls []) := by
          intro fuel
          induction fuel with
          | zero => intro S12 j H locs ls hmeas hI12 hFm12 hFL212 hL12_ hGm12 hGL212 gL12_ hj hA12 hV12 hC12 hW hL hl; exact absurd hmeas (Nat.not_lt_zero _)
          | succ fuel ih_12 =>
            intro S12 j H locs ls hmeas hI12 hFm12 hFL212 hL12_ hGm12 hGL212 gL12_ hj hA12 hV12 hC12 hW hL hl
            refine lv_iload_n hx hb dX12_trees_12 rfl (lv_at hl 0 rfl) ?_
            refine lv_aload_n hx hb dX12_trees_13 rfl (lv_at hl 2 rfl) ?_
            have q_277 : (-2147483648) ≤ S.1 231 46 ∧ S.1 231 46 ≤ 2147483647 := hI.fi 46
            refine g_X12_465 Cx hW (k := 231) (by decide) rfl (v := S.1 231 46) ((gL12_ 46 rfl).trans (gL2_ 46 rfl)) dX12_trees_14 ?_
            refine r_icmp_gt (tgt := 50) hx hb ⟨(by omega), (by omega)⟩ ⟨(by omega), (by omega)⟩ dX12_trees_17 (by decide) (fun c_278 => ?_) (fun c_278 => ?_)
            · refine lv_iinc (v := iv (i + 1)) (lv' := [(2, .int (iv (i + 1))), (3, .int (iv j)), (0, .ref (G.2.2.1 + 231)), (1, .int (iv bb))]) hx hb dX12_trees_50 hl (k := 1) rfl ((Int32.ofInt_add _ _).symm) (by decide) rfl (fun ls hl => ?_)
              refine lv_goto (tgt := 2) hx hb dX12_trees_53 (by decide) ?_
              exact ih_2 S12 (i + 1) _ _ _ (by omega) hI12 hFm12 hFL212 hGm12 hGL212 (by omega) hA12 (fun k t a b d e => by by_cases z : k = i; (rw [z]; exact hC12 t d (by omega)); exact hV12 k t a (by omega) d e) hW hL (lv_sub hl [0, 2, 3] rfl)
            · refine lv_aload_n hx hb dX12_trees_20 rfl (lv_at hl 2 rfl) ?_
              refine g_X12_169 Cx hW (k := 231) (by decide) rfl (v := .ref (G.2.2.1 + 283)) (rd_93 hI12) dX12_trees_21 ?_
              refine lv_aload_n hx hb dX12_trees_24 rfl (lv_at hl 2 rfl) ?_
              refine lv_iload_n hx hb dX12_trees_25 rfl (lv_at hl 1 rfl) ?_
              refine lv_iload_n hx hb dX12_trees_26 rfl (lv_at hl 0 rfl) ?_
              refine sBi (sV (As := [.int (iv i), .int (iv j)]) (rest := [.ref (G.2.2.1 + 283)]) (k := 231) Cx (s_X12_heldCell l G S12 (i := i) (j := j) (by omega) (by omega)) (c_X12_735 Cx rfl rfl (rmk_ok (by omega) (by decide))) hW (by decide) rfl rfl rfl hl.1 rfl (Nat.le_of_ble_eq_true rfl) dX12_trees_27 ⟨Nat.le_of_ble_eq_true rfl, Nat.le_of_ble_eq_true rfl⟩) hL (fun q0 u_279 H locs k_280 hW hL => ?_)
              obtain ⟨eu_279, xu_279⟩ := k_280
              rw [eu_279] at hW
              have hgv := hGM.2 (13 * i + j)
              refine lv_aload_n hx hb dX12_trees_30 rfl (lv_at hl 2 rfl) ?_
              refine g_X12_190 Cx hW (k := 231) (by decide) rfl (v := .ref (G.2.2.1 + 290)) (rd_101 hI12) dX12_trees_31 ?_
              refine lv_bipush (v := iv 13) hx hb dX12_trees_34 (by decide) ?_
              refine lv_iload_n hx hb dX12_trees_36 rfl (lv_at hl 1 rfl) ?_
              refine r_imul hx hb dX12_trees_37 ?_
              refine lv_iload_n hx hb dX12_trees_38 rfl (lv_at hl 0 rfl) ?_
              refine r_iadd hx hb dX12_trees_39 ?_
              refine rLald Cx hW (k := 290) (by decide) rfl (by decide) (by omega) (by omega) dX12_trees_40 ?_
              have q_281 : -9223372036854775808 ≤ S.2.2.1 290 ((13 * i) + j) ∧ S.2.2.1 290 ((13 * i) + j) ≤ 9223372036854775807 := hI.li 290 ((13 * i) + j)
              refine r_j (b := S.2.2.1 290 ((13 * i) + j)) (((hL12_ 290 rfl).2.2.1 ((13 * i) + j)).trans ((hL2_ 290 rfl).2.2.1 ((13 * i) + j))) ?_
              refine sBv (sSt (As := [.ref (G.2.2.1 + 283), .int (iv q0), .long (jv (S.2.2.1 290 ((13 * i) + j)))]) (rest := []) Cx (s_X12_put l G S12 (ka := 283) (po := q0) (v := S.2.2.1 290 ((13 * i) + j)) (Nka := 5460) hI12 ⟨rfl, by decide, by decide, by decide, rfl⟩ (by omega) (by omega)) (c_X12_241 Cx rfl rfl (rmk_ok (by omega) (by decide))) hW rfl hl.1 rfl (Nat.le_of_ble_eq_true rfl) dX12_trees_41 ⟨Nat.le_of_ble_eq_true rfl, Nat.le_of_ble_eq_true rfl⟩) hL (fun u_282 H locs k_283 hW hL => ?_)
              obtain ⟨iu_282, fu_282, xu_282⟩ := k_283
              have F_284 := hFm12.trans (fu_282.to (p1_sub rfl))
              have F_285 := hFL212.trans (fu_282.to (p1_sub rfl))
              have F_286 := hL12_.trans (fu_282.to (p1_sub rfl))
              have g_287 : FF S u_282 (fl [20, 21, 24, 100]) := FF.fr hGm12 fu_282 rfl
              have g_288 : FF S u_282 (fl []) := FF.fr hGL212 fu_282 rfl
              have g_289 : FF S2 u_282 (fl []) := FF.fr gL12_ fu_282 rfl
              have nv_290 : nv (u_282.2.1 283) q0 = S.2.2.1 290 ((13 * i) + j) := xu_282.2.1
              refine lv_iinc (v := iv (j + 1)) (lv' := [(3, .int (iv (j + 1))), (2, .int (iv i)), (0, .ref (G.2.2.1 + 231)), (1, .int (iv bb))]) hx hb dX12_trees_44 hl (k := 0) rfl ((Int32.ofInt_add _ _).symm) (by decide) rfl (fun ls hl => ?_)
              refine lv_goto (tgt := 12) hx hb dX12_trees_47 (by decide) ?_
              exact ih_12 u_282 (j + 1) _ _ _ (by omega) iu_282 F_284 F_285 F_286 g_287 g_288 g_289 (by omega) (dHf.put (f := S12.2.1 283) (a := i) (b := j) (P := q0) hA12 (by omega) (by omega) (by omega) (xu_282.1.mono (by omega)) (fun x a => xu_282.2.2 x (by omega))) (HRf.out (f := S12.2.1 283) (a := i) (b := j) (P := q0) hV12 hA12 (by omega) (by omega) (by omega) (by omega) (fun x a => xu_282.2.2 x (by omega))) (fun t t0 t1 => by by_cases z : t = j; (rw [z, show 10 * (13 * i + j) = q0 by omega, xu_282.2.1]; exact hMR.2.2.2.2.2.1 i j (by omega) (by omega) (by omega) (by omega)); (rw [((hA12 i t (by omega) (by omega) t0 (by omega)).same (g := u_282.2.1 283) (fun x x0 x1 => xu_282.2.2 x (by omega))).2]; exact hC12 t t0 (by omega))) hW hL (lv_sub hl [0, 1, 2, 3] rfl)
        exact loop_12 (_ + 1) S2 0 _ _ _ (Nat.lt_succ_self _) hI2 hFm2 hL2_ Fr.rf hGm2 gL2_ FF.rf (by omega) hA2 hV2 (fun t a b => by exfalso; omega) hW hL (lv_sub hl [0, 1, 2, 3] rfl)
  exact loop_2 (_ + 1) S 1 _ _ _ (Nat.lt_succ_self _) hI (Fr.rf : Fr S S (pl [231, 233, 234, 235, 237, 238, 240, 277, 283, 284, 288, 289, 291, 292, 293])) Fr.rf FF.rf FF.rf (by omega) hHA (fun k j a b => by exfalso; omega) hW hL (lv_sub hl [0, 1, 2] rfl)
