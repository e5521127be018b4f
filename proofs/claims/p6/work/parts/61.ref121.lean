/-! The reference's solver: what holds between its steps -/
def GM (S : sS) : Prop := (∀ j, -100000 ≤ S.2.2.1 260 j ∧ S.2.2.1 260 j ≤ 100000) ∧ ∀ j, -100000 ≤ S.2.2.1 290 j ∧ S.2.2.1 290 j ≤ 100000
def dRM (S : sS) : Prop := ∀ k j, 1 ≤ k → k ≤ S.1 231 47 → 0 ≤ j → j ≤ S.1 231 46 → NO (S.2.1 261) (8 * (13 * k + j)) 3
def RW (S : sS) : Prop := ∀ k j, 1 ≤ k → k ≤ 40 → 0 ≤ j → j ≤ 12 → NO (S.2.1 261) (8 * (13 * k + j)) 7
def MR (S : sS) : Prop := MD S ∧ GM S ∧ dRM S ∧ RW S
def BB (S : sS) : Prop := S.1 231 79 = 1 → BS S
def dPS (S : sS) : Prop := 0 ≤ S.1 231 86 ∧ S.1 231 86 ≤ 36000
def EI (S : sS) : Prop := MR S ∧ DOK S ∧ BO S ∧ BB S ∧ dPS S
def KN (f d b o s : Int → Int) (n m wh al q : Int) : Prop := ((0 ≤ s (5 * q) ∧ s (5 * q) ≤ 40) ∧ (0 ≤ s (5 * q + 1) ∧ s (5 * q + 1) ≤ 13) ∧ s (5 * q + 2) = s (5 * q) ∧ m + q ≤ s (5 * q) ∧ (0 ≤ s (5 * q + 3) ∧ s (5 * q + 3) ≤ 20) ∧ ¬ (wh = n ∧ s (5 * q + 3) < al) ∧ 1 ≤ s (5 * q + 4) ∧ s (5 * q + 4) ≤ s (5 * q)) ∧ (1 ≤ b (44 * q + s (5 * q + 4)) ∧ b (44 * q + s (5 * q + 4)) ≤ n) ∧ DKo (fun x => f (5280 * q + x)) (s (5 * q)) (s (5 * q + 1)) 0 ∧ (NO (fun x => d (8 * q + x)) 0 6 ∧ 0 < nv (fun x => d (8 * q + x)) 0) ∧ (∀ i, 1 ≤ i → i ≤ s (5 * q) → 0 ≤ b (44 * q + i) ∧ b (44 * q + i) ≤ n + s (5 * q)) ∧ ∀ j, 1 ≤ j → j ≤ s (5 * q + 1) → 0 ≤ o (15 * q + j) ∧ o (15 * q + j) ≤ n + s (5 * q)
def KE (S : sS) : Prop := ∀ q, 0 ≤ q → q < S.1 231 78 → KN (S.2.1 267) (S.2.1 268) (S.2.1 269) (S.2.1 270) (S.2.1 271) (S.1 231 46) (S.1 231 47) (S.1 231 48) (S.1 231 68) q
def cbp : Nat → Int
  | 0 => 1000000000000000000000000000
  | n + 1 => 41 * cbp n
def CB (S : sS) : Prop := S.1 231 48 = S.1 231 46 ∧ S.1 231 69 < S.1 231 68 → ∀ k j, 1 ≤ k → k ≤ S.1 231 63 → 0 ≤ j → j ≤ S.1 231 46 → nu (S.2.1 261) (8 * (13 * k + j)) ≤ cbp (S.1 231 69).toNat
def GX (S : sS) : Prop := (0 ≤ S.1 231 84 ∧ S.1 231 84 ≤ 30000) ∧ S.1 231 58 = S.1 231 63 ∧ (0 ≤ S.1 231 78 ∧ S.1 231 47 + S.1 231 78 ≤ S.1 231 63) ∧ (1 ≤ S.1 231 65 ∧ S.1 231 65 ≤ 1000) ∧ (0 ≤ S.1 231 69 ∧ S.1 231 69 ≤ 20) ∧ 0 ≤ S.1 231 68 ∧ S.1 231 68 ≤ 20
/-- ahead of the first pivot of PHASE 1 -/
def dFI (S : sS) : Prop := nv (S.2.1 264) 0 = 1 ∧ (∀ j, 0 ≤ j → j < S.1 231 59 → TV S 1 j = 0) ∧ TV S 1 (S.1 231 59) = 1 ∧ (∀ i, 1 ≤ i → i ≤ S.1 231 58 → TV S (i + 1) (S.1 231 59) = -1) ∧ (∀ i, 1 ≤ i → i ≤ S.1 231 58 → S.2.1 265 i ≠ 0) ∧ (∀ j, 1 ≤ j → j < S.1 231 59 → S.2.1 266 j ≠ 0) ∧ S.2.1 266 (S.1 231 59) = 0
/-- the stages -/
def dSA (S : sS) : Prop := S.1 231 60 = 1 ∧ S.1 231 78 = 0 ∧ S.1 231 58 = S.1 231 47 ∧ 1 ≤ S.1 231 47 ∧ 1 ≤ S.1 231 59
def ST (S : sS) : Prop := ((S.1 231 62 = 3 ∨ S.1 231 62 = 4) ∧ S.1 231 60 = 0) ∨ (dSA S ∧ ((S.1 231 62 = 0 ∧ Tab S ∧ dFI S) ∨ ((S.1 231 62 = 1 ∨ S.1 231 62 = 2) ∧ Tab S ∧ WX S) ∨ S.1 231 62 = 5))
/-- the stages with a pivot that waits -/
def dSQ (S : sS) : Prop := ((S.1 231 62 = 3 ∨ S.1 231 62 = 4) ∧ S.1 231 60 = 0) ∨ (dSA S ∧ ((S.1 231 62 = 1 ∧ Tab S ∧ ((dFI S ∧ S.1 231 72 = S.1 231 59) ∨ (WX S ∧ TV S 1 (S.1 231 72) < 0))) ∨ S.1 231 62 = 5))
def PI (S : sS) : Prop := (1 ≤ S.1 231 71 ∧ S.1 231 71 ≤ S.1 231 58) ∧ (1 ≤ S.1 231 72 ∧ S.1 231 72 ≤ S.1 231 59) ∧ S.2.1 262 (8 * (15 * (S.1 231 71 + 1) + S.1 231 72)) ≠ 0
def GC (S : sS) : Prop := EI S ∧ GX S ∧ KE S ∧ CB S
def GI (S : sS) : Prop := GC S ∧ ST S
def GQ (S : sS) : Prop := GC S ∧ dSQ S ∧ PI S
