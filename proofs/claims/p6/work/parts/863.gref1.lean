/-! The kinds of the reference's tokens, as the class has them -/
def sgc (v : Int) : Int := if v = 61 then 13 else if v = 1 then 14 else if v = 59 then 15 else if v = 44 then 16 else if v = 91 then 17 else if v = 93 then 18 else if v = 40 then 19 else if v = 41 then 20 else if v = 43 then 21 else if v = 45 then 22 else if v = 42 then 23 else if v = 58 then 24 else if v = 2 then 25 else if v = 3 then 26 else 27
def krk (k v : Int) : Int := if k = 1 then 2 else if k = 2 then 3 else if k = 3 then (if 0 ≤ v ∧ v ≤ 8 then 4 + v else 27) else if k = 4 then sgc v else if k = 5 then 0 else 1
def kr (K V : Int → Int) (T p : Int) : Int := if 0 ≤ p ∧ p < T then krk (K p) (V p) else 0
theorem kr_in {K V : Int → Int} {T p : Int} (h0 : 0 ≤ p) (h1 : p < T) : kr K V T p = krk (K p) (V p) := if_pos ⟨h0, h1⟩
theorem kr_out {K V : Int → Int} {T : Int} : ∀ p, T ≤ p → kr K V T p = 0 := fun p h => if_neg (by omega)
theorem kr_nz {K V : Int → Int} {T p : Int} (h : kr K V T p ≠ 0) : kr K V T p = krk (K p) (V p) := by
  unfold kr at h ⊢; split
  · rfl
  · rename_i q; rw [if_neg q] at h; exact absurd rfl h
theorem sgc_i {v : Int} : (sgc v = 13 ↔ v = 61) ∧ (sgc v = 14 ↔ v = 1) ∧ (sgc v = 15 ↔ v = 59) ∧ (sgc v = 16 ↔ v = 44) ∧ (sgc v = 17 ↔ v = 91) ∧ (sgc v = 18 ↔ v = 93) ∧ (sgc v = 19 ↔ v = 40) ∧ (sgc v = 20 ↔ v = 41) ∧ (sgc v = 21 ↔ v = 43) ∧ (sgc v = 22 ↔ v = 45) ∧ (sgc v = 23 ↔ v = 42) ∧ (sgc v = 24 ↔ v = 58) ∧ (sgc v = 25 ↔ v = 2) ∧ (sgc v = 26 ↔ v = 3) ∧ 13 ≤ sgc v ∧ sgc v ≤ 27 := by
  unfold sgc
  repeat' split
  all_goals omega
theorem krk_s {k v c : Int} (hc : 13 ≤ c ∧ c ≤ 26) : krk k v = c ↔ k = 4 ∧ sgc v = c := by
  have h := (sgc_i (v := v)).2.2.2.2.2.2.2.2.2.2.2.2.2.2
  unfold krk
  repeat' split
  all_goals omega
theorem krk_w {k v w : Int} (hc : 0 ≤ w ∧ w ≤ 8) : krk k v = 4 + w ↔ k = 3 ∧ v = w := by
  have h := (sgc_i (v := v)).2.2.2.2.2.2.2.2.2.2.2.2.2.2
  unfold krk
  repeat' split
  all_goals omega
theorem krk_k {k v : Int} : (krk k v = 2 ↔ k = 1) ∧ (krk k v = 3 ↔ k = 2) ∧ (krk k v = 0 ↔ k = 5) := by
  have h := (sgc_i (v := v)).2.2.2.2.2.2.2.2.2.2.2.2.2.2
  unfold krk
  repeat' split
  all_goals omega
def sgP (s c : Int) : Prop := ∀ (K V : Int → Int) (T p : Int), (0 ≤ p → p < T → gS K V p s → kr K V T p = c) ∧ (kr K V T p = c → gS K V p s)
def wdP (w c : Int) : Prop := ∀ (K V : Int → Int) (T p : Int), (0 ≤ p → p < T → gW K V p w → kr K V T p = c) ∧ (kr K V T p = c → gW K V p w)
def knP (k c : Int) : Prop := ∀ (K V : Int → Int) (T p : Int), (0 ≤ p → p < T → K p = k → kr K V T p = c) ∧ (kr K V T p = c → K p = k)
theorem sgP_m {s c : Int} (hc : 13 ≤ c ∧ c ≤ 26) (h : ∀ v, sgc v = c ↔ v = s) : sgP s c := fun K V T p => ⟨fun h0 h1 g => by rw [kr_in h0 h1, krk_s hc, h]; exact g, fun e => by
  rw [kr_nz (by omega), krk_s hc, h] at e; exact e⟩
theorem osg_61 : sgP 61 13 := sgP_m (by decide) (fun v => sgc_i.1)
theorem osg_1 : sgP 1 14 := sgP_m (by decide) (fun v => sgc_i.2.1)
theorem osg_59 : sgP 59 15 := sgP_m (by decide) (fun v => sgc_i.2.2.1)
theorem osg_44 : sgP 44 16 := sgP_m (by decide) (fun v => sgc_i.2.2.2.1)
theorem osg_91 : sgP 91 17 := sgP_m (by decide) (fun v => sgc_i.2.2.2.2.1)
theorem osg_93 : sgP 93 18 := sgP_m (by decide) (fun v => sgc_i.2.2.2.2.2.1)
theorem osg_40 : sgP 40 19 := sgP_m (by decide) (fun v => sgc_i.2.2.2.2.2.2.1)
theorem osg_41 : sgP 41 20 := sgP_m (by decide) (fun v => sgc_i.2.2.2.2.2.2.2.1)
theorem osg_43 : sgP 43 21 := sgP_m (by decide) (fun v => sgc_i.2.2.2.2.2.2.2.2.1)
theorem osg_45 : sgP 45 22 := sgP_m (by decide) (fun v => sgc_i.2.2.2.2.2.2.2.2.2.1)
theorem osg_42 : sgP 42 23 := sgP_m (by decide) (fun v => sgc_i.2.2.2.2.2.2.2.2.2.2.1)
theorem osg_58 : sgP 58 24 := sgP_m (by decide) (fun v => sgc_i.2.2.2.2.2.2.2.2.2.2.2.1)
theorem osg_2 : sgP 2 25 := sgP_m (by decide) (fun v => sgc_i.2.2.2.2.2.2.2.2.2.2.2.2.1)
theorem osg_3 : sgP 3 26 := sgP_m (by decide) (fun v => sgc_i.2.2.2.2.2.2.2.2.2.2.2.2.2.1)
theorem wd_m {w : Int} (h : 0 ≤ w ∧ w ≤ 8) : wdP w (4 + w) := fun K V T p => ⟨fun h0 h1 g => by rw [kr_in h0 h1, krk_w h]; exact g, fun e => by
  rw [kr_nz (by omega), krk_w h] at e; exact e⟩
theorem kn_1 : knP 1 2 := fun K V T p => ⟨fun h0 h1 g => by rw [kr_in h0 h1]; exact krk_k.1.mpr g, fun e => by
  rw [kr_nz (by omega)] at e; exact krk_k.1.mp e⟩
theorem kn_2 : knP 2 3 := fun K V T p => ⟨fun h0 h1 g => by rw [kr_in h0 h1]; exact krk_k.2.1.mpr g, fun e => by
  rw [kr_nz (by omega)] at e; exact krk_k.2.1.mp e⟩
def CFr (l : Launch) (G : sG) (D : Nat) (K V : Int → Int) (T : Int) (N : Nat) : Prop := ∀ (S : sS) (pz dp : Int), dX G S → S.2.1 244 = K → S.2.1 247 = V → S.1 231 24 = pz → Hd (S.1 231 20 = 0 → 0 ≤ pz ∧ pz ≤ T - 1) → ((N : Int) = 30 - dp ∧ 0 ≤ dp) → Met l yX12_factorRead (.code yX12_factorRead cX12_factorRead 2 none :: tb) (rmk D 0 0) (sPc G 294 S [.ref (G.2.2.1 + 231), .int (iv dp)]) (sQv G 294 (fun u => dX G u ∧ Fr S u (pl [231]) ∧ FF S u (fl [20, 21, 24]) ∧ (Hd (u.1 231 20 = 0 → S.1 231 20 = 0 ∧ ogF T (kr K V T) N pz = some (u.1 231 24) ∧ pz < u.1 231 24 ∧ 0 ≤ u.1 231 24 ∧ u.1 231 24 ≤ T - 1) ∧ Hd (S.1 231 20 = 0 → u.1 231 20 ≠ 0 → ogF T (kr K V T) N pz = none)))) 0 0 (sF G)
def CPr (l : Launch) (G : sG) (D : Nat) (K V : Int → Int) (T : Int) (N : Nat) : Prop := ∀ (S : sS) (pz dp : Int), dX G S → S.2.1 244 = K → S.2.1 247 = V → S.1 231 24 = pz → Hd (S.1 231 20 = 0 → 0 ≤ pz ∧ pz ≤ T - 1) → ((N : Int) = 30 - dp ∧ 0 ≤ dp) → Met l yX12_productRead (.code yX12_productRead cX12_productRead 2 none :: tb) (rmk D 0 0) (sPc G 294 S [.ref (G.2.2.1 + 231), .int (iv dp)]) (sQv G 294 (fun u => dX G u ∧ Fr S u (pl [231]) ∧ FF S u (fl [20, 21, 24]) ∧ (Hd (u.1 231 20 = 0 → S.1 231 20 = 0 ∧ ogP T (kr K V T) (ogF T (kr K V T) N) pz = some (u.1 231 24) ∧ pz < u.1 231 24 ∧ 0 ≤ u.1 231 24 ∧ u.1 231 24 ≤ T - 1) ∧ Hd (S.1 231 20 = 0 → u.1 231 20 ≠ 0 → ogP T (kr K V T) (ogF T (kr K V T) N) pz = none)))) 0 0 (sF G)
def CSu (l : Launch) (G : sG) (D : Nat) (K V : Int → Int) (T : Int) (N : Nat) : Prop := ∀ (S : sS) (pz dp : Int), dX G S → S.2.1 244 = K → S.2.1 247 = V → S.1 231 24 = pz → Hd (S.1 231 20 = 0 → 0 ≤ pz ∧ pz ≤ T - 1) → ((N : Int) = 30 - dp ∧ 0 ≤ dp) → Met l yX12_sumRead (.code yX12_sumRead cX12_sumRead 2 none :: tb) (rmk D 0 0) (sPc G 294 S [.ref (G.2.2.1 + 231), .int (iv dp)]) (sQv G 294 (fun u => dX G u ∧ Fr S u (pl [231]) ∧ FF S u (fl [20, 21, 24]) ∧ (Hd (u.1 231 20 = 0 → S.1 231 20 = 0 ∧ ogU T (kr K V T) (ogF T (kr K V T) N) pz = some (u.1 231 24) ∧ pz < u.1 231 24 ∧ 0 ≤ u.1 231 24 ∧ u.1 231 24 ≤ T - 1) ∧ Hd (S.1 231 20 = 0 → u.1 231 20 ≠ 0 → ogU T (kr K V T) (ogF T (kr K V T) N) pz = none)))) 0 0 (sF G)
theorem kr_5 {K V : Int → Int} {T p : Int} (h0 : 0 ≤ p) (h1 : p < T) : kr K V T p = 0 ↔ K p = 5 := by rw [kr_in h0 h1]; exact krk_k.2.2
