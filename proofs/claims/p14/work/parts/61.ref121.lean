/-! The reference's solver: what holds between its steps -/
def GM (S : sS) : Prop := (∀ j, -100000 ≤ S.2.2.1 260 j ∧ S.2.2.1 260 j ≤ 100000) ∧ ∀ j, -100000 ≤ S.2.2.1 290 j ∧ S.2.2.1 290 j ≤ 100000
def dRM (S : sS) : Prop := ∀ k j, 1 ≤ k → k ≤ S.1 231 47 → 0 ≤ j → j ≤ S.1 231 46 → NO (S.2.1 261) (8 * (13 * k + j)) 3
def RW (S : sS) : Prop := ∀ k j, 1 ≤ k → k ≤ 40 → 0 ≤ j → j ≤ 12 → NO (S.2.1 261) (8 * (13 * k + j)) 7
def MR (S : sS) : Prop := MD S ∧ GM S ∧ dRM S ∧ RW S
def BB (S : sS) : Prop := S.1 231 79 = 1 → BS S
def dPS (S : sS) : Prop := 0 ≤ S.1 231 86 ∧ S.1 231 86 ≤ 36000
def EI (S : sS) : Prop := MR S ∧ DOK S ∧ BO S ∧ BB S ∧ dPS S
def KN (f d b o s : Int → Int) (n m wh al q : Int) : Prop := ((0 ≤ s (5 * q) ∧ s (5 * q) ≤ 40) ∧ (0 ≤ s (5 * q + 1) ∧ s (5 * q + 1) ≤ 13) ∧ s (5 * q + 2) = s (5 * q) ∧ m + q ≤ s (5 * q) ∧ (0 ≤ s (5 * q + 3) ∧ s (5 * q + 3) ≤ 20) ∧ ¬ (wh = n ∧ s (5 * q + 3) < al) ∧ 1 ≤ s (5 * q + 4) ∧ s (5 * q + 4) ≤ s (5 * q)) ∧ (1 ≤ b (44 * q + s (5 * q + 4)) ∧ b (44 * q + s (5 * q + 4)) ≤ n) ∧ DKo (fun x => f (5280 * q + x)) (s (5 * q)) (s (5 * q + 1)) 0 ∧ (NO (fun x => d (8 * q + x)) 0 6 ∧ 0 < nv (fun x => d (8 * q + x)) 0) ∧ (∀ i, 1 ≤ i → i ≤ s (5 * q) → 0 ≤ b (44 * q + i) ∧ b (44 * q + i) ≤ n + s (5 * q)) ∧ ∀ j, 1 ≤ j → j ≤ s (5 * q + 1) → 0 ≤ o (15 * q + j) ∧ o (15 * q + j) ≤ n + s (5 * q)
def KE (S : sS) : Prop := ∀ q, 0 ≤ q → q < S.1 231 78 → KN (S.2.1 267) (S.2.1 268) (S.2.1 269) (S.2.1 270) (S.2.1 271) (S.1 231 46) (S.1 231 47) (S.1 231 48) (S.1 231 68) q
def cbp : Nat → Int
  | 0 => 1000000000000000000000000000
  | n + 1 => 41 * cbp n
def CB (S : sS) : Prop := S.1 231 48 = S.1 231 46 ∧ S.1 231 69 < S.1 231 68 → ∀ k j, 1 ≤ k → k ≤ S.1 231 63 → 0 ≤ j → j ≤ S.1 231 46 → nu (S.2.1 261) (8 * (13 * k + j)) ≤ cbp (S.1 231 69).toNat
def GX (S : sS) : Prop := (0 ≤ S.1 231 84 ∧ S.1 231 84 ≤ 30000) ∧ S.1 231 58 = S.1 231 63 ∧ (0 ≤ S.1 231 78 ∧ S.1 231 47 + S.1 231 78 ≤ S.1 231 63) ∧ (1 ≤ S.1 231 65 ∧ S.1 231 65 ≤ 1000) ∧ (0 ≤ S.1 231 69 ∧ S.1 231 69 ≤ 20) ∧ 0 ≤ S.1 231 68 ∧ S.1 231 68 ≤ 20
/-- ahead of the first pivot of PHASE 1 -/
def dFI (S : sS) : Prop := nv (S.2.1 264) 0 = 1 ∧ (∀ j, 0 ≤ j → j < S.1 231 59 → TV S 1 j = 0) ∧ TV S 1 (S.1 231 59) = 1 ∧ (∀ i, 1 ≤ i → i ≤ S.1 231 58 → TV S (i + 1) (S.1 231 59) = -1) ∧ (∀ i, 1 ≤ i → i ≤ S.1 231 58 → S.2.1 265 i ≠ 0) ∧ (∀ j, 1 ≤ j → j < S.1 231 59 → S.2.1 266 j ≠ 0) ∧ S.2.1 266 (S.1 231 59) = 0
/-- the stages -/
def dSA (S : sS) : Prop := S.1 231 60 = 1 ∧ S.1 231 78 = 0 ∧ S.1 231 58 = S.1 231 47 ∧ 1 ≤ S.1 231 47 ∧ 1 ≤ S.1 231 59
def ST (S : sS) : Prop := ((S.1 231 62 = 3 ∨ S.1 231 62 = 4) ∧ S.1 231 60 = 0) ∨ (dSA S ∧ ((S.1 231 62 = 0 ∧ Tab S ∧ dFI S) ∨ ((S.1 231 62 = 1 ∨ S.1 231 62 = 2) ∧ Tab S ∧ WX S) ∨ S.1 231 62 = 5))
/-- the stages with a pivot that waits -/
def dSQ (S : sS) : Prop := ((S.1 231 62 = 3 ∨ S.1 231 62 = 4) ∧ S.1 231 60 = 0) ∨ (dSA S ∧ ((S.1 231 62 = 1 ∧ Tab S ∧ ((dFI S ∧ S.1 231 72 = S.1 231 59) ∨ (WX S ∧ TV S 1 (S.1 231 72) < 0))) ∨ S.1 231 62 = 5))
def PI (S : sS) : Prop := (1 ≤ S.1 231 71 ∧ S.1 231 71 ≤ S.1 231 58) ∧ (1 ≤ S.1 231 72 ∧ S.1 231 72 ≤ S.1 231 59) ∧ S.2.1 262 (8 * (15 * (S.1 231 71 + 1) + S.1 231 72)) ≠ 0
def GC (S : sS) : Prop := EI S ∧ GX S ∧ KE S ∧ CB S
def GI (S : sS) : Prop := GC S ∧ ST S
def GQ (S : sS) : Prop := GC S ∧ dSQ S ∧ PI S
theorem MD.sm {S u : sS} (h : MD S) (e46 : u.1 231 46 = S.1 231 46) (e47 : u.1 231 47 = S.1 231 47) (e63 : u.1 231 63 = S.1 231 63) : MD u := by
  simp only [MD] at h ⊢
  simp only [e46, e47, e63]
  exact h
theorem GM.sm {S u : sS} (h : GM S) (l260 : u.2.2.1 260 = S.2.2.1 260) (l290 : u.2.2.1 290 = S.2.2.1 290) : GM u := by
  simp only [GM] at h ⊢
  simp only [l260, l290]
  exact h
theorem dRM.sm {S u : sS} (h : dRM S) (e46 : u.1 231 46 = S.1 231 46) (e47 : u.1 231 47 = S.1 231 47) (a261 : u.2.1 261 = S.2.1 261) : dRM u := by
  simp only [dRM] at h ⊢
  simp only [e46, e47, a261]
  exact h
theorem RW.sm {S u : sS} (h : RW S) (a261 : u.2.1 261 = S.2.1 261) : RW u := by
  simp only [RW] at h ⊢
  simp only [a261]
  exact h
theorem MR.sm {S u : sS} (h : MR S) (e46 : u.1 231 46 = S.1 231 46) (e47 : u.1 231 47 = S.1 231 47) (e63 : u.1 231 63 = S.1 231 63) (a261 : u.2.1 261 = S.2.1 261) (l260 : u.2.2.1 260 = S.2.2.1 260) (l290 : u.2.2.1 290 = S.2.2.1 290) : MR u := ⟨MD.sm h.1 e46 e47 e63, GM.sm h.2.1 l260 l290, dRM.sm h.2.2.1 e46 e47 a261, RW.sm h.2.2.2 a261⟩
theorem DOK.sm {S u : sS} (h : DOK S) (e58 : u.1 231 58 = S.1 231 58) (e59 : u.1 231 59 = S.1 231 59) (e60 : u.1 231 60 = S.1 231 60) (a262 : u.2.1 262 = S.2.1 262) (a264 : u.2.1 264 = S.2.1 264) : DOK u := by
  simp only [DOK, DKo] at h ⊢
  simp only [e58, e59, e60, a262, a264]
  exact h
theorem BO.sm {S u : sS} (h : BO S) (e46 : u.1 231 46 = S.1 231 46) (e58 : u.1 231 58 = S.1 231 58) (e59 : u.1 231 59 = S.1 231 59) (e63 : u.1 231 63 = S.1 231 63) (a265 : u.2.1 265 = S.2.1 265) (a266 : u.2.1 266 = S.2.1 266) : BO u := by
  simp only [BO] at h ⊢
  simp only [e46, e58, e59, e63, a265, a266]
  exact h
theorem BS.sm {S u : sS} (h : BS S) (e46 : u.1 231 46 = S.1 231 46) (a272 : u.2.1 272 = S.2.1 272) (a273 : u.2.1 273 = S.2.1 273) (a274 : u.2.1 274 = S.2.1 274) : BS u := by
  simp only [BS] at h ⊢
  simp only [e46, a272, a273, a274]
  exact h
theorem BB.sm {S u : sS} (h : BB S) (e46 : u.1 231 46 = S.1 231 46) (e79 : u.1 231 79 = S.1 231 79) (a272 : u.2.1 272 = S.2.1 272) (a273 : u.2.1 273 = S.2.1 273) (a274 : u.2.1 274 = S.2.1 274) : BB u := by
  simp only [BB, BS] at h ⊢
  simp only [e46, e79, a272, a273, a274]
  exact h
theorem dPS.sm {S u : sS} (h : dPS S) (e86 : u.1 231 86 = S.1 231 86) : dPS u := by
  simp only [dPS] at h ⊢
  simp only [e86]
  exact h
theorem EI.sm {S u : sS} (h : EI S) (e46 : u.1 231 46 = S.1 231 46) (e47 : u.1 231 47 = S.1 231 47) (e58 : u.1 231 58 = S.1 231 58) (e59 : u.1 231 59 = S.1 231 59) (e60 : u.1 231 60 = S.1 231 60) (e63 : u.1 231 63 = S.1 231 63) (e79 : u.1 231 79 = S.1 231 79) (e86 : u.1 231 86 = S.1 231 86) (a261 : u.2.1 261 = S.2.1 261) (a262 : u.2.1 262 = S.2.1 262) (a264 : u.2.1 264 = S.2.1 264) (a265 : u.2.1 265 = S.2.1 265) (a266 : u.2.1 266 = S.2.1 266) (a272 : u.2.1 272 = S.2.1 272) (a273 : u.2.1 273 = S.2.1 273) (a274 : u.2.1 274 = S.2.1 274) (l260 : u.2.2.1 260 = S.2.2.1 260) (l290 : u.2.2.1 290 = S.2.2.1 290) : EI u := ⟨MR.sm h.1 e46 e47 e63 a261 l260 l290, DOK.sm h.2.1 e58 e59 e60 a262 a264, BO.sm h.2.2.1 e46 e58 e59 e63 a265 a266, BB.sm h.2.2.2.1 e46 e79 a272 a273 a274, dPS.sm h.2.2.2.2 e86⟩
theorem KE.sm {S u : sS} (h : KE S) (e46 : u.1 231 46 = S.1 231 46) (e47 : u.1 231 47 = S.1 231 47) (e48 : u.1 231 48 = S.1 231 48) (e68 : u.1 231 68 = S.1 231 68) (e78 : u.1 231 78 = S.1 231 78) (a267 : u.2.1 267 = S.2.1 267) (a268 : u.2.1 268 = S.2.1 268) (a269 : u.2.1 269 = S.2.1 269) (a270 : u.2.1 270 = S.2.1 270) (a271 : u.2.1 271 = S.2.1 271) : KE u := by
  simp only [KE] at h ⊢
  simp only [e46, e47, e48, e68, e78, a267, a268, a269, a270, a271]
  exact h
theorem CB.sm {S u : sS} (h : CB S) (e46 : u.1 231 46 = S.1 231 46) (e48 : u.1 231 48 = S.1 231 48) (e63 : u.1 231 63 = S.1 231 63) (e68 : u.1 231 68 = S.1 231 68) (e69 : u.1 231 69 = S.1 231 69) (a261 : u.2.1 261 = S.2.1 261) : CB u := by
  simp only [CB] at h ⊢
  simp only [e46, e48, e63, e68, e69, a261]
  exact h
theorem GX.sm {S u : sS} (h : GX S) (e47 : u.1 231 47 = S.1 231 47) (e58 : u.1 231 58 = S.1 231 58) (e63 : u.1 231 63 = S.1 231 63) (e65 : u.1 231 65 = S.1 231 65) (e68 : u.1 231 68 = S.1 231 68) (e69 : u.1 231 69 = S.1 231 69) (e78 : u.1 231 78 = S.1 231 78) (e84 : u.1 231 84 = S.1 231 84) : GX u := by
  simp only [GX] at h ⊢
  simp only [e47, e58, e63, e65, e68, e69, e78, e84]
  exact h
theorem dFI.sm {S u : sS} (h : dFI S) (e58 : u.1 231 58 = S.1 231 58) (e59 : u.1 231 59 = S.1 231 59) (a262 : u.2.1 262 = S.2.1 262) (a264 : u.2.1 264 = S.2.1 264) (a265 : u.2.1 265 = S.2.1 265) (a266 : u.2.1 266 = S.2.1 266) : dFI u := by
  simp only [dFI, TV] at h ⊢
  simp only [e58, e59, a262, a264, a265, a266]
  exact h
theorem Tab.sm {S u : sS} (h : Tab S) (e46 : u.1 231 46 = S.1 231 46) (e47 : u.1 231 47 = S.1 231 47) (e59 : u.1 231 59 = S.1 231 59) (a262 : u.2.1 262 = S.2.1 262) (a264 : u.2.1 264 = S.2.1 264) (a265 : u.2.1 265 = S.2.1 265) (a266 : u.2.1 266 = S.2.1 266) (l290 : u.2.2.1 290 = S.2.2.1 290) : Tab u := by
  have eA : Av u = Av S := by funext v i; unfold Av mR; rw [e46, e47, l290]
  have eZ : Bz u = Bz S := by funext i; unfold Bz mR; rw [e47, l290]
  have eB : Bv u = Bv S := by funext k; unfold Bv; rw [eA, a265]
  have eC : Cv u = Cv S := by funext j; unfold Cv; rw [eZ, eA, a266]
  have eT : TV u = TV S := by funext i j; unfold TV; rw [a262]
  unfold Tab at h ⊢; rw [e47, e59, a264, eC, eB, eT]; exact h
theorem WX.sm {S u : sS} (h : WX S) (e58 : u.1 231 58 = S.1 231 58) (e59 : u.1 231 59 = S.1 231 59) (a262 : u.2.1 262 = S.2.1 262) (a265 : u.2.1 265 = S.2.1 265) (a266 : u.2.1 266 = S.2.1 266) : WX u := by
  simp only [WX, TV] at h ⊢
  simp only [e58, e59, a262, a265, a266]
  exact h
theorem dSA.sm {S u : sS} (h : dSA S) (e47 : u.1 231 47 = S.1 231 47) (e58 : u.1 231 58 = S.1 231 58) (e59 : u.1 231 59 = S.1 231 59) (e60 : u.1 231 60 = S.1 231 60) (e78 : u.1 231 78 = S.1 231 78) : dSA u := by
  simp only [dSA] at h ⊢
  simp only [e47, e58, e59, e60, e78]
  exact h
theorem ST.sm {S u : sS} (h : ST S) (e46 : u.1 231 46 = S.1 231 46) (e47 : u.1 231 47 = S.1 231 47) (e58 : u.1 231 58 = S.1 231 58) (e59 : u.1 231 59 = S.1 231 59) (e60 : u.1 231 60 = S.1 231 60) (e62 : u.1 231 62 = S.1 231 62) (e78 : u.1 231 78 = S.1 231 78) (a262 : u.2.1 262 = S.2.1 262) (a264 : u.2.1 264 = S.2.1 264) (a265 : u.2.1 265 = S.2.1 265) (a266 : u.2.1 266 = S.2.1 266) (l290 : u.2.2.1 290 = S.2.2.1 290) : ST u := by
  rcases h with h | ⟨ha, h⟩
  · exact .inl (by rw [e60, e62]; exact h)
  · refine .inr ⟨ha.sm e47 e58 e59 e60 e78, ?_⟩
    rcases h with ⟨z, t, f⟩ | ⟨z, t, f⟩ | z
    · exact .inl ⟨e62.trans z, t.sm e46 e47 e59 a262 a264 a265 a266 l290, f.sm e58 e59 a262 a264 a265 a266⟩
    · exact .inr (.inl ⟨by rw [e62]; exact z, t.sm e46 e47 e59 a262 a264 a265 a266 l290, f.sm e58 e59 a262 a265 a266⟩)
    · exact .inr (.inr (e62.trans z))
theorem dSQ.sm {S u : sS} (h : dSQ S) (e46 : u.1 231 46 = S.1 231 46) (e47 : u.1 231 47 = S.1 231 47) (e58 : u.1 231 58 = S.1 231 58) (e59 : u.1 231 59 = S.1 231 59) (e60 : u.1 231 60 = S.1 231 60) (e62 : u.1 231 62 = S.1 231 62) (e72 : u.1 231 72 = S.1 231 72) (e78 : u.1 231 78 = S.1 231 78) (a262 : u.2.1 262 = S.2.1 262) (a264 : u.2.1 264 = S.2.1 264) (a265 : u.2.1 265 = S.2.1 265) (a266 : u.2.1 266 = S.2.1 266) (l290 : u.2.2.1 290 = S.2.2.1 290) : dSQ u := by
  rcases h with h | ⟨ha, h⟩
  · exact .inl (by rw [e60, e62]; exact h)
  · refine .inr ⟨ha.sm e47 e58 e59 e60 e78, ?_⟩
    rcases h with ⟨z, t, f⟩ | z
    · refine .inl ⟨e62.trans z, t.sm e46 e47 e59 a262 a264 a265 a266 l290, ?_⟩
      rcases f with ⟨f, y⟩ | ⟨f, y⟩
      · exact .inl ⟨f.sm e58 e59 a262 a264 a265 a266, by rw [e72, e59]; exact y⟩
      · exact .inr ⟨f.sm e58 e59 a262 a265 a266, by unfold TV at y ⊢; rw [a262, e72]; exact y⟩
    · exact .inr (e62.trans z)
theorem PI.sm {S u : sS} (h : PI S) (e58 : u.1 231 58 = S.1 231 58) (e59 : u.1 231 59 = S.1 231 59) (e71 : u.1 231 71 = S.1 231 71) (e72 : u.1 231 72 = S.1 231 72) (a262 : u.2.1 262 = S.2.1 262) : PI u := by
  simp only [PI] at h ⊢
  simp only [e58, e59, e71, e72, a262]
  exact h
theorem GC.sm {S u : sS} (h : GC S) (e46 : u.1 231 46 = S.1 231 46) (e47 : u.1 231 47 = S.1 231 47) (e48 : u.1 231 48 = S.1 231 48) (e58 : u.1 231 58 = S.1 231 58) (e59 : u.1 231 59 = S.1 231 59) (e60 : u.1 231 60 = S.1 231 60) (e63 : u.1 231 63 = S.1 231 63) (e65 : u.1 231 65 = S.1 231 65) (e68 : u.1 231 68 = S.1 231 68) (e69 : u.1 231 69 = S.1 231 69) (e78 : u.1 231 78 = S.1 231 78) (e79 : u.1 231 79 = S.1 231 79) (e84 : u.1 231 84 = S.1 231 84) (e86 : u.1 231 86 = S.1 231 86) (a261 : u.2.1 261 = S.2.1 261) (a262 : u.2.1 262 = S.2.1 262) (a264 : u.2.1 264 = S.2.1 264) (a265 : u.2.1 265 = S.2.1 265) (a266 : u.2.1 266 = S.2.1 266) (a267 : u.2.1 267 = S.2.1 267) (a268 : u.2.1 268 = S.2.1 268) (a269 : u.2.1 269 = S.2.1 269) (a270 : u.2.1 270 = S.2.1 270) (a271 : u.2.1 271 = S.2.1 271) (a272 : u.2.1 272 = S.2.1 272) (a273 : u.2.1 273 = S.2.1 273) (a274 : u.2.1 274 = S.2.1 274) (l260 : u.2.2.1 260 = S.2.2.1 260) (l290 : u.2.2.1 290 = S.2.2.1 290) : GC u := ⟨EI.sm h.1 e46 e47 e58 e59 e60 e63 e79 e86 a261 a262 a264 a265 a266 a272 a273 a274 l260 l290, GX.sm h.2.1 e47 e58 e63 e65 e68 e69 e78 e84, KE.sm h.2.2.1 e46 e47 e48 e68 e78 a267 a268 a269 a270 a271, CB.sm h.2.2.2 e46 e48 e63 e68 e69 a261⟩
theorem GI.sm {S u : sS} (h : GI S) (e46 : u.1 231 46 = S.1 231 46) (e47 : u.1 231 47 = S.1 231 47) (e48 : u.1 231 48 = S.1 231 48) (e58 : u.1 231 58 = S.1 231 58) (e59 : u.1 231 59 = S.1 231 59) (e60 : u.1 231 60 = S.1 231 60) (e62 : u.1 231 62 = S.1 231 62) (e63 : u.1 231 63 = S.1 231 63) (e65 : u.1 231 65 = S.1 231 65) (e68 : u.1 231 68 = S.1 231 68) (e69 : u.1 231 69 = S.1 231 69) (e78 : u.1 231 78 = S.1 231 78) (e79 : u.1 231 79 = S.1 231 79) (e84 : u.1 231 84 = S.1 231 84) (e86 : u.1 231 86 = S.1 231 86) (a261 : u.2.1 261 = S.2.1 261) (a262 : u.2.1 262 = S.2.1 262) (a264 : u.2.1 264 = S.2.1 264) (a265 : u.2.1 265 = S.2.1 265) (a266 : u.2.1 266 = S.2.1 266) (a267 : u.2.1 267 = S.2.1 267) (a268 : u.2.1 268 = S.2.1 268) (a269 : u.2.1 269 = S.2.1 269) (a270 : u.2.1 270 = S.2.1 270) (a271 : u.2.1 271 = S.2.1 271) (a272 : u.2.1 272 = S.2.1 272) (a273 : u.2.1 273 = S.2.1 273) (a274 : u.2.1 274 = S.2.1 274) (l260 : u.2.2.1 260 = S.2.2.1 260) (l290 : u.2.2.1 290 = S.2.2.1 290) : GI u := ⟨GC.sm h.1 e46 e47 e48 e58 e59 e60 e63 e65 e68 e69 e78 e79 e84 e86 a261 a262 a264 a265 a266 a267 a268 a269 a270 a271 a272 a273 a274 l260 l290, ST.sm h.2 e46 e47 e58 e59 e60 e62 e78 a262 a264 a265 a266 l290⟩
theorem GQ.sm {S u : sS} (h : GQ S) (e46 : u.1 231 46 = S.1 231 46) (e47 : u.1 231 47 = S.1 231 47) (e48 : u.1 231 48 = S.1 231 48) (e58 : u.1 231 58 = S.1 231 58) (e59 : u.1 231 59 = S.1 231 59) (e60 : u.1 231 60 = S.1 231 60) (e62 : u.1 231 62 = S.1 231 62) (e63 : u.1 231 63 = S.1 231 63) (e65 : u.1 231 65 = S.1 231 65) (e68 : u.1 231 68 = S.1 231 68) (e69 : u.1 231 69 = S.1 231 69) (e71 : u.1 231 71 = S.1 231 71) (e72 : u.1 231 72 = S.1 231 72) (e78 : u.1 231 78 = S.1 231 78) (e79 : u.1 231 79 = S.1 231 79) (e84 : u.1 231 84 = S.1 231 84) (e86 : u.1 231 86 = S.1 231 86) (a261 : u.2.1 261 = S.2.1 261) (a262 : u.2.1 262 = S.2.1 262) (a264 : u.2.1 264 = S.2.1 264) (a265 : u.2.1 265 = S.2.1 265) (a266 : u.2.1 266 = S.2.1 266) (a267 : u.2.1 267 = S.2.1 267) (a268 : u.2.1 268 = S.2.1 268) (a269 : u.2.1 269 = S.2.1 269) (a270 : u.2.1 270 = S.2.1 270) (a271 : u.2.1 271 = S.2.1 271) (a272 : u.2.1 272 = S.2.1 272) (a273 : u.2.1 273 = S.2.1 273) (a274 : u.2.1 274 = S.2.1 274) (l260 : u.2.2.1 260 = S.2.2.1 260) (l290 : u.2.2.1 290 = S.2.2.1 290) : GQ u := ⟨GC.sm h.1 e46 e47 e48 e58 e59 e60 e63 e65 e68 e69 e78 e79 e84 e86 a261 a262 a264 a265 a266 a267 a268 a269 a270 a271 a272 a273 a274 l260 l290, dSQ.sm h.2.1 e46 e47 e58 e59 e60 e62 e72 e78 a262 a264 a265 a266 l290, PI.sm h.2.2 e58 e59 e71 e72 a262⟩
theorem MO.sm {S u : sS} (h : MO S) (a278 : u.2.1 278 = S.2.1 278) : MO u := by
  simp only [MO] at h ⊢
  simp only [a278]
  exact h