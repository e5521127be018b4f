/-! evaluate, goOn, work -/
theorem LD.of {S X u : sS} (h : LD X u) (e : X.1 231 65 = S.1 231 65) : LD S u := ⟨h.1, h.2.1, fun q => ⟨(h.2.2 q).1, (h.2.2 q).2.1, (h.2.2 q).2.2.1, by have := (h.2.2 q).2.2.2; omega⟩⟩
def LG (S : sS) : Prop := (1 ≤ S.1 231 61 ∧ S.1 231 61 ≤ 6) ∧ (S.1 231 61 = 1 → GI S) ∧ (S.1 231 61 ≠ 1 → EI S)
def GD (S : sS) : Prop := (1 ≤ S.1 231 61 ∧ S.1 231 61 ≤ 6) ∧ (S.1 231 61 = 1 → GQ S) ∧ (S.1 231 61 ≠ 1 → EI S)
def rk (z : Int) : Nat := if z = 0 then 5 else if z = 1 then 4 else if z = 2 then 3 else if z = 5 then 2 else if z = 3 then 1 else 0
def mz (S : sS) : Nat := if S.1 231 61 = 1 then 1 + 8 * (1000 - S.1 231 65).toNat + rk (S.1 231 62) else 0
theorem rk_le (z : Int) : rk z ≤ 5 := by unfold rk; (repeat' split) <;> decide
theorem mz1 {S u : sS} (hS : S.1 231 61 = 1) (h65 : S.1 231 65 ≤ 1000) (hu : u.1 231 61 = 1 → S.1 231 65 < u.1 231 65 ∧ u.1 231 65 ≤ 1000) : mz u < mz S := by
  unfold mz
  rw [if_pos hS]
  by_cases q : u.1 231 61 = 1
  · rw [if_pos q]; have := hu q; have := rk_le (u.1 231 62); omega
  · rw [if_neg q]; omega
theorem mz2 {S u : sS} (hS : S.1 231 61 = 1) (e : u.1 231 65 = S.1 231 65) (hr : rk (u.1 231 62) < rk (S.1 231 62)) : mz u < mz S := by
  unfold mz
  rw [if_pos hS, e]
  by_cases q : u.1 231 61 = 1
  · rw [if_pos q]; omega
  · rw [if_neg q]; omega
theorem LD.lg {S u : sS} (h : LD S u) : LG u := ⟨h.1, fun q => ⟨(h.2.2 q).1, .inl ⟨.inr (h.2.2 q).2.2.1, (h.2.2 q).2.1⟩⟩, h.2.1⟩
theorem LD.mz {S u : sS} (h : LD S u) (hS : S.1 231 61 = 1) (h65 : S.1 231 65 ≤ 1000) : mz u < mz S := mz1 hS h65 (fun q => ⟨(h.2.2 q).2.2.2, by have := (h.2.2 q).1.2.1; unfold GX at this; omega⟩)
theorem ST.s0 {S : sS} (h : ST S) (e : S.1 231 62 = 0) : dSA S ∧ Tab S ∧ dFI S := by
  rcases h with ⟨h, _⟩ | ⟨a, ⟨z, t⟩ | ⟨z, t⟩ | z⟩
  · omega
  · exact ⟨a, t⟩
  · omega
  · omega
theorem ST.s1 {S : sS} (h : ST S) (e : S.1 231 62 = 1 ∨ S.1 231 62 = 2) : dSA S ∧ Tab S ∧ WX S := by
  rcases h with ⟨h, _⟩ | ⟨a, ⟨z, t⟩ | ⟨z, t⟩ | z⟩
  · omega
  · omega
  · exact ⟨a, t⟩
  · omega
theorem ST.s5 {S : sS} (h : ST S) (e : S.1 231 62 = 5) : dSA S := by
  rcases h with ⟨h, _⟩ | ⟨a, _⟩
  · omega
  · exact a
theorem ST.s3 {S : sS} (h : ST S) (e : ¬ (S.1 231 62 = 0 ∨ S.1 231 62 = 1 ∨ S.1 231 62 = 2 ∨ S.1 231 62 = 5)) : (S.1 231 62 = 3 ∨ S.1 231 62 = 4) ∧ S.1 231 60 = 0 := by
  rcases h with h | ⟨a, ⟨z, t⟩ | ⟨z, t⟩ | z⟩
  · exact h
  · omega
  · omega
  · omega
theorem BO.drop {S u : sS} (h : BO S) (e46 : u.1 231 46 = S.1 231 46) (e58 : u.1 231 58 = S.1 231 58) (e59 : u.1 231 59 = S.1 231 59 - 1) (e63 : u.1 231 63 = S.1 231 63) (h59 : 1 ≤ S.1 231 59) (a265 : u.2.1 265 = S.2.1 265) (a266 : ∃ s, (0 ≤ s ∧ s ≤ S.1 231 59) ∧ ∀ x, u.2.1 266 x = if x = s then S.2.1 266 (S.1 231 59) else S.2.1 266 x) : BO u := ⟨fun i i0 i1 => by rw [a265, e46, e63]; exact h.1 i i0 (by omega), fun j j0 j1 => by
  obtain ⟨s, _, e⟩ := a266
  rw [e46, e63, e j]
  split
  · exact h.2 _ h59 (by omega)
  · exact h.2 j j0 (by omega)⟩
theorem BO.pv {S u : sS} {r s tn : Int} (h : BO S) (p : PV S u r s tn) (hr : 1 ≤ r ∧ r ≤ S.1 231 58) (hs : 1 ≤ s ∧ s ≤ S.1 231 59) (e46 : u.1 231 46 = S.1 231 46) (e58 : u.1 231 58 = S.1 231 58) (e59 : u.1 231 59 = S.1 231 59) (e63 : u.1 231 63 = S.1 231 63) : BO u := by
  obtain ⟨_, _, p5, p6⟩ := p
  refine ⟨fun i i0 i1 => ?_, fun j j0 j1 => ?_⟩
  · rw [p5, e46, e63]; split
    · exact h.2 s hs.1 hs.2
    · exact h.1 i i0 (by omega)
  · rw [p6, e46, e63]; split
    · exact h.1 r hr.1 hr.2
    · exact h.2 j j0 (by omega)
/-- the first pivot of PHASE 1 -/
theorem WX.first {S u : sS} {r tn : Int} (h : dFI S) (hK : KM S u) (hW : S.1 231 60 = 1) (hr : 1 ≤ r ∧ r ≤ S.1 231 58) (h8 : S.1 231 58 ≤ 40) (hs : 1 ≤ S.1 231 59 ∧ S.1 231 59 ≤ 13) (htn : 0 ≤ tn ∧ tn ≤ 1) (hp : (tn = 1 → TV S (r + 1) (S.1 231 59) < 0) ∧ (tn = 0 → 0 < TV S (r + 1) (S.1 231 59))) (p : PV S u r (S.1 231 59) tn) : WX u := by
  obtain ⟨hD, hz, hw1, hc, hb, ho, ho0⟩ := h
  obtain ⟨_, pC, p5, p6⟩ := p
  have e8 : u.1 231 58 = S.1 231 58 := hK.1 58
  have e9 : u.1 231 59 = S.1 231 59 := hK.1 59
  have c1 := hc r hr.1 hr.2
  have t1 : tn = 1 := by
    rcases (by omega : tn = 0 ∨ tn = 1) with q | q
    · have := hp.2 q; omega
    · exact q
  subst t1
  have cw : ∀ j, 0 ≤ j → j ≤ S.1 231 59 → PC S r (S.1 231 59) 1 1 j (TV u 1 j) := fun j j0 j1 => pC 1 j (by omega) (by omega) (fun _ => hW) j0 j1
  have cr : ∀ j, 0 ≤ j → j ≤ S.1 231 59 → PC S r (S.1 231 59) 1 (r + 1) j (TV u (r + 1) j) := fun j j0 j1 => pC (r + 1) j (by omega) (by omega) (fun _ => hW) j0 j1
  refine .inl ⟨r, by omega, ?_, fun i i0 i1 ne => ?_, fun j j0 j1 => ?_, fun j j0 j1 => ?_, S.1 231 59, hs.1, by omega, ?_⟩
  · rw [p5, if_pos rfl]; exact ho0
  · rw [p5, if_neg ne]; exact hb i i0 (by omega)
  · rw [p6]; split
    · exact hb r hr.1 hr.2
    · exact ho j j0 (by omega)
  · rw [e9] at j1
    by_cases q : j = S.1 231 59
    · rw [(cw j j0 j1).2.2.1 ⟨by omega, q⟩, (cr j j0 j1).1 ⟨rfl, q⟩, q, hw1, hD]
    · obtain ⟨Q, R, h1, h2, h3, h4⟩ := (cw j j0 j1).2.2.2 ⟨by omega, q⟩
      rw [(cr j j0 j1).2.1 ⟨rfl, q⟩, h1]
      rw [hz j j0 (by omega), hw1, hD, c1] at h2
      rw [hD] at h4
      rw [asn_1, asn_1]
      omega
  · rw [(cr _ (by omega) (Int.le_refl _)).1 ⟨rfl, rfl⟩, hD, asn_1]; decide
/-- behind a pivot the stages go on -/
theorem ST.pv {S u : sS} {r tn : Int} (h : dSQ S) (hD : DOK S) (hK : KM S u) (hr : 1 ≤ r ∧ r ≤ S.1 231 58) (hs : 1 ≤ S.1 231 72 ∧ S.1 231 72 ≤ S.1 231 59) (htn : 0 ≤ tn ∧ tn ≤ 1) (hp : (tn = 1 → TV S (r + 1) (S.1 231 72) < 0) ∧ (tn = 0 → 0 < TV S (r + 1) (S.1 231 72))) (p : PV S u r (S.1 231 72) tn) : ST u := by
  have e := hK.1
  have hd1 := hD.1
  rcases h with ⟨h1, h2⟩ | ⟨a, ⟨z, t, f⟩ | z⟩
  · exact .inl ⟨by rw [e 62]; exact h1, (e 60).trans h2⟩
  · have a' := a
    unfold dSA at a'
    have au : dSA u := a.sm (e 47) (e 58) (e 59) (e 60) (e 78)
    have tu : Tab u := t.pv hK hD a'.2.2.1 hr hs htn p
    refine .inr ⟨au, .inr (.inl ⟨.inl ((e 62).trans z), tu, ?_⟩)⟩
    rcases f with ⟨f, y⟩ | ⟨f, y⟩
    · rw [y] at p hp; exact WX.first f hK a'.1 hr (by omega) (by omega) htn hp p
    · exact f.pv t hK hD a'.1 a'.2.2.1 hr hs htn hp y p
  · exact .inr ⟨a.sm (e 47) (e 58) (e 59) (e 60) (e 78), .inr (.inr ((e 62).trans z))⟩
/-- the reference's solver, between calls -/
def XI (S : sS) : Prop := MR S ∧ (0 ≤ S.1 231 61 ∧ S.1 231 61 ≤ 6) ∧ (S.1 231 61 = 1 → S.1 231 70 = 0 → GI S) ∧ (S.1 231 61 = 1 → S.1 231 70 = 1 → GQ S) ∧ (2 ≤ S.1 231 61 → EI S)
theorem GD.mr {S : sS} (h : GD S) : MR S := by
  by_cases q : S.1 231 61 = 1
  · exact (h.2.1 q).1.1.1
  · exact (h.2.2 q).1
theorem GD.xi {S : sS} (h : GD S) (e : S.1 231 70 = 1) : XI S := ⟨h.mr, by have := h.1; omega, fun _ z => absurd (e.symm.trans z) (by decide), fun q _ => h.2.1 q, fun q => h.2.2 (by omega)⟩
theorem EI.xi {S : sS} (h : EI S) (e : 2 ≤ S.1 231 61 ∧ S.1 231 61 ≤ 6) : XI S := ⟨h.1, by omega, fun q => absurd q (by omega), fun q => absurd q (by omega), fun _ => h⟩