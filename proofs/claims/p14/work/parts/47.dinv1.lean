/-! The reference: object 231, its rows 232 to 293 -/
def dfb (i : Nat) : Int × Int := match i with
  | 40 => (0, 1)
  | 45 => (0, 1)
  | 49 => (0, 1)
  | 60 => (0, 1)
  | 70 => (0, 1)
  | 79 => (0, 1)
  | _ => fI
def drb (k : Nat) : Int × Int := match k with
  | 232 => (-128, 127)
  | 236 => (-128, 127)
  | 243 => (-128, 127)
  | 254 => (0, 1)
  | 259 => (0, 1)
  | 275 => (-128, 127)
  | 276 => (-128, 127)
  | _ => fI
def rfD : List (Nat × Nat) := [(0, 232), (2, 233), (3, 234), (4, 235), (5, 236), (7, 237), (8, 238), (9, 239), (10, 240), (11, 241), (12, 242), (13, 243), (15, 244), (16, 245), (17, 246), (18, 247), (26, 248), (27, 249), (28, 250), (29, 251), (30, 252), (31, 253), (37, 254), (38, 255), (39, 256), (41, 257), (44, 258), (50, 259), (51, 260), (52, 261), (53, 262), (54, 263), (55, 264), (56, 265), (57, 266), (73, 267), (74, 268), (75, 269), (76, 270), (77, 271), (80, 272), (81, 273), (82, 274), (83, 275), (85, 276), (87, 277), (88, 278), (89, 279), (90, 280), (91, 281), (92, 282), (93, 283), (94, 284), (95, 285), (96, 286), (97, 287), (98, 288), (99, 289), (101, 290), (102, 291), (103, 292), (104, 293)]
theorem dfb_le (i : Nat) : -2147483648 ≤ (dfb i).1 ∧ (dfb i).2 ≤ 2147483647 := by
  unfold dfb; split <;> decide
theorem drb_le (k : Nat) : -2147483648 ≤ (drb k).1 ∧ (drb k).2 ≤ 2147483647 := by
  unfold drb; split <;> decide
def dX (G : sG) (S : sS) : Prop := (∀ i, (dfb i).1 ≤ S.1 231 i ∧ S.1 231 i ≤ (dfb i).2) ∧ (∀ k (j : Int), 231 ≤ k → (drb k).1 ≤ S.2.1 k j ∧ S.2.1 k j ≤ (drb k).2) ∧ (∀ k (j : Int), 231 ≤ k → -9223372036854775808 ≤ S.2.2.1 k j ∧ S.2.2.1 k j ≤ 9223372036854775807) ∧ ∀ q ∈ rfD, S.2.2.2 231 q.1 = .ref (G.2.2.1 + q.2)
/-- an array of ints of the reference -/
def ia (a N : Nat) : Prop := tau a = .inr (.int, N) ∧ 231 ≤ a ∧ a < 294 ∧ N ≤ 300000 ∧ drb a = fI
theorem ia.lt {a N : Nat} (h : ia a N) : a < 294 := h.2.2.1
theorem ia.ge {a N : Nat} (h : ia a N) : 231 ≤ a := h.2.1
section DX
variable {G : sG} {S u : sS}
theorem dX.fi (h : dX G S) (i : Nat) : (dfb i).1 ≤ S.1 231 i ∧ S.1 231 i ≤ (dfb i).2 := h.1 i
theorem dX.ai (h : dX G S) (k : Nat) (j : Int) (hk : 231 ≤ k := by decide) : (drb k).1 ≤ S.2.1 k j ∧ S.2.1 k j ≤ (drb k).2 := h.2.1 k j hk
theorem dX.aj (h : dX G S) {k : Nat} (hk : 231 ≤ k) (j : Int) : -2147483648 ≤ S.2.1 k j ∧ S.2.1 k j ≤ 2147483647 := by
  have a := h.2.1 k j hk
  have b := drb_le k
  omega
theorem dX.li (h : dX G S) (k : Nat) (j : Int) (hk : 231 ≤ k := by decide) : -9223372036854775808 ≤ S.2.2.1 k j ∧ S.2.2.1 k j ≤ 9223372036854775807 := h.2.2.1 k j hk
theorem dX.F {i : Nat} {v : Int} (h : dX G S) (hv : (dfb i).1 ≤ v ∧ v ≤ (dfb i).2) : dX G (uF S 231 i v) := ⟨fun j => by
  rw [uF_get]; split
  · rename_i q; rw [q.2]; exact hv
  · exact h.1 j, h.2⟩
theorem dX.A {k : Nat} {i v : Int} (h : dX G S) (hv : (drb k).1 ≤ v ∧ v ≤ (drb k).2) : dX G (uA S k i v) := ⟨h.1, fun a j ha => by
  rw [uA_get]; split
  · rename_i q; rw [q.1]; exact hv
  · exact h.2.1 a j ha, h.2.2⟩
theorem dX.Aj {a N : Nat} {i v : Int} (h : dX G S) (hi : ia a N) (hv : -2147483648 ≤ v ∧ v ≤ 2147483647) : dX G (uA S a i v) := h.A (by rw [hi.2.2.2.2]; exact hv)
theorem dX.L {k : Nat} {i v : Int} (h : dX G S) (hv : -9223372036854775808 ≤ v ∧ v ≤ 9223372036854775807) : dX G (uL S k i v) := ⟨h.1, h.2.1, fun a j ha => by
  show _ ≤ (if a = k ∧ j = i then v else S.2.2.1 a j) ∧ (if a = k ∧ j = i then v else S.2.2.1 a j) ≤ _
  split
  · exact hv
  · exact h.2.2.1 a j ha, h.2.2.2⟩
theorem dX.fr {P : pS} (h : dX G S) (f : Fr S u P) (hp : ∀ k, P k = true → k < 231) : dX G u := by
  have n : ∀ k, 231 ≤ k → P k = false := fun k hk => by
    cases e : P k
    · rfl
    · exact absurd (hp k e) (by omega)
  refine ⟨fun i => by rw [(f 231 (n 231 (by decide))).1]; exact h.1 i, fun k j hk => by rw [(f k (n k hk)).2.1]; exact h.2.1 k j hk, fun k j hk => by rw [(f k (n k hk)).2.2.1]; exact h.2.2.1 k j hk, fun q hq => by rw [(f 231 (n 231 (by decide))).2.2.2]; exact h.2.2.2 q hq⟩
theorem rd_0 (h : dX G S) : S.2.2.2 231 0 = .ref (G.2.2.1 + 232) := h.2.2.2 (0, 232) (by decide)
theorem rd_2 (h : dX G S) : S.2.2.2 231 2 = .ref (G.2.2.1 + 233) := h.2.2.2 (2, 233) (by decide)
theorem rd_3 (h : dX G S) : S.2.2.2 231 3 = .ref (G.2.2.1 + 234) := h.2.2.2 (3, 234) (by decide)
theorem rd_4 (h : dX G S) : S.2.2.2 231 4 = .ref (G.2.2.1 + 235) := h.2.2.2 (4, 235) (by decide)
theorem rd_5 (h : dX G S) : S.2.2.2 231 5 = .ref (G.2.2.1 + 236) := h.2.2.2 (5, 236) (by decide)
theorem rd_7 (h : dX G S) : S.2.2.2 231 7 = .ref (G.2.2.1 + 237) := h.2.2.2 (7, 237) (by decide)
theorem rd_8 (h : dX G S) : S.2.2.2 231 8 = .ref (G.2.2.1 + 238) := h.2.2.2 (8, 238) (by decide)
theorem rd_9 (h : dX G S) : S.2.2.2 231 9 = .ref (G.2.2.1 + 239) := h.2.2.2 (9, 239) (by decide)
theorem rd_10 (h : dX G S) : S.2.2.2 231 10 = .ref (G.2.2.1 + 240) := h.2.2.2 (10, 240) (by decide)
theorem rd_11 (h : dX G S) : S.2.2.2 231 11 = .ref (G.2.2.1 + 241) := h.2.2.2 (11, 241) (by decide)
theorem rd_12 (h : dX G S) : S.2.2.2 231 12 = .ref (G.2.2.1 + 242) := h.2.2.2 (12, 242) (by decide)
theorem rd_13 (h : dX G S) : S.2.2.2 231 13 = .ref (G.2.2.1 + 243) := h.2.2.2 (13, 243) (by decide)
theorem rd_15 (h : dX G S) : S.2.2.2 231 15 = .ref (G.2.2.1 + 244) := h.2.2.2 (15, 244) (by decide)
theorem rd_16 (h : dX G S) : S.2.2.2 231 16 = .ref (G.2.2.1 + 245) := h.2.2.2 (16, 245) (by decide)
theorem rd_17 (h : dX G S) : S.2.2.2 231 17 = .ref (G.2.2.1 + 246) := h.2.2.2 (17, 246) (by decide)
theorem rd_18 (h : dX G S) : S.2.2.2 231 18 = .ref (G.2.2.1 + 247) := h.2.2.2 (18, 247) (by decide)
theorem rd_26 (h : dX G S) : S.2.2.2 231 26 = .ref (G.2.2.1 + 248) := h.2.2.2 (26, 248) (by decide)
theorem rd_27 (h : dX G S) : S.2.2.2 231 27 = .ref (G.2.2.1 + 249) := h.2.2.2 (27, 249) (by decide)
theorem rd_28 (h : dX G S) : S.2.2.2 231 28 = .ref (G.2.2.1 + 250) := h.2.2.2 (28, 250) (by decide)
theorem rd_29 (h : dX G S) : S.2.2.2 231 29 = .ref (G.2.2.1 + 251) := h.2.2.2 (29, 251) (by decide)
theorem rd_30 (h : dX G S) : S.2.2.2 231 30 = .ref (G.2.2.1 + 252) := h.2.2.2 (30, 252) (by decide)
theorem rd_31 (h : dX G S) : S.2.2.2 231 31 = .ref (G.2.2.1 + 253) := h.2.2.2 (31, 253) (by decide)
theorem rd_37 (h : dX G S) : S.2.2.2 231 37 = .ref (G.2.2.1 + 254) := h.2.2.2 (37, 254) (by decide)
theorem rd_38 (h : dX G S) : S.2.2.2 231 38 = .ref (G.2.2.1 + 255) := h.2.2.2 (38, 255) (by decide)
theorem rd_39 (h : dX G S) : S.2.2.2 231 39 = .ref (G.2.2.1 + 256) := h.2.2.2 (39, 256) (by decide)
theorem rd_41 (h : dX G S) : S.2.2.2 231 41 = .ref (G.2.2.1 + 257) := h.2.2.2 (41, 257) (by decide)
theorem rd_44 (h : dX G S) : S.2.2.2 231 44 = .ref (G.2.2.1 + 258) := h.2.2.2 (44, 258) (by decide)
theorem rd_50 (h : dX G S) : S.2.2.2 231 50 = .ref (G.2.2.1 + 259) := h.2.2.2 (50, 259) (by decide)
theorem rd_51 (h : dX G S) : S.2.2.2 231 51 = .ref (G.2.2.1 + 260) := h.2.2.2 (51, 260) (by decide)
theorem rd_52 (h : dX G S) : S.2.2.2 231 52 = .ref (G.2.2.1 + 261) := h.2.2.2 (52, 261) (by decide)
theorem rd_53 (h : dX G S) : S.2.2.2 231 53 = .ref (G.2.2.1 + 262) := h.2.2.2 (53, 262) (by decide)
theorem rd_54 (h : dX G S) : S.2.2.2 231 54 = .ref (G.2.2.1 + 263) := h.2.2.2 (54, 263) (by decide)
theorem rd_55 (h : dX G S) : S.2.2.2 231 55 = .ref (G.2.2.1 + 264) := h.2.2.2 (55, 264) (by decide)
theorem rd_56 (h : dX G S) : S.2.2.2 231 56 = .ref (G.2.2.1 + 265) := h.2.2.2 (56, 265) (by decide)
theorem rd_57 (h : dX G S) : S.2.2.2 231 57 = .ref (G.2.2.1 + 266) := h.2.2.2 (57, 266) (by decide)
theorem rd_73 (h : dX G S) : S.2.2.2 231 73 = .ref (G.2.2.1 + 267) := h.2.2.2 (73, 267) (by decide)
theorem rd_74 (h : dX G S) : S.2.2.2 231 74 = .ref (G.2.2.1 + 268) := h.2.2.2 (74, 268) (by decide)
theorem rd_75 (h : dX G S) : S.2.2.2 231 75 = .ref (G.2.2.1 + 269) := h.2.2.2 (75, 269) (by decide)
theorem rd_76 (h : dX G S) : S.2.2.2 231 76 = .ref (G.2.2.1 + 270) := h.2.2.2 (76, 270) (by decide)
theorem rd_77 (h : dX G S) : S.2.2.2 231 77 = .ref (G.2.2.1 + 271) := h.2.2.2 (77, 271) (by decide)
theorem rd_80 (h : dX G S) : S.2.2.2 231 80 = .ref (G.2.2.1 + 272) := h.2.2.2 (80, 272) (by decide)
theorem rd_81 (h : dX G S) : S.2.2.2 231 81 = .ref (G.2.2.1 + 273) := h.2.2.2 (81, 273) (by decide)
theorem rd_82 (h : dX G S) : S.2.2.2 231 82 = .ref (G.2.2.1 + 274) := h.2.2.2 (82, 274) (by decide)
theorem rd_83 (h : dX G S) : S.2.2.2 231 83 = .ref (G.2.2.1 + 275) := h.2.2.2 (83, 275) (by decide)
theorem rd_85 (h : dX G S) : S.2.2.2 231 85 = .ref (G.2.2.1 + 276) := h.2.2.2 (85, 276) (by decide)
theorem rd_87 (h : dX G S) : S.2.2.2 231 87 = .ref (G.2.2.1 + 277) := h.2.2.2 (87, 277) (by decide)
theorem rd_88 (h : dX G S) : S.2.2.2 231 88 = .ref (G.2.2.1 + 278) := h.2.2.2 (88, 278) (by decide)
theorem rd_89 (h : dX G S) : S.2.2.2 231 89 = .ref (G.2.2.1 + 279) := h.2.2.2 (89, 279) (by decide)
theorem rd_90 (h : dX G S) : S.2.2.2 231 90 = .ref (G.2.2.1 + 280) := h.2.2.2 (90, 280) (by decide)
theorem rd_91 (h : dX G S) : S.2.2.2 231 91 = .ref (G.2.2.1 + 281) := h.2.2.2 (91, 281) (by decide)
theorem rd_92 (h : dX G S) : S.2.2.2 231 92 = .ref (G.2.2.1 + 282) := h.2.2.2 (92, 282) (by decide)
theorem rd_93 (h : dX G S) : S.2.2.2 231 93 = .ref (G.2.2.1 + 283) := h.2.2.2 (93, 283) (by decide)
theorem rd_94 (h : dX G S) : S.2.2.2 231 94 = .ref (G.2.2.1 + 284) := h.2.2.2 (94, 284) (by decide)
theorem rd_95 (h : dX G S) : S.2.2.2 231 95 = .ref (G.2.2.1 + 285) := h.2.2.2 (95, 285) (by decide)
theorem rd_96 (h : dX G S) : S.2.2.2 231 96 = .ref (G.2.2.1 + 286) := h.2.2.2 (96, 286) (by decide)
theorem rd_97 (h : dX G S) : S.2.2.2 231 97 = .ref (G.2.2.1 + 287) := h.2.2.2 (97, 287) (by decide)
theorem rd_98 (h : dX G S) : S.2.2.2 231 98 = .ref (G.2.2.1 + 288) := h.2.2.2 (98, 288) (by decide)
theorem rd_99 (h : dX G S) : S.2.2.2 231 99 = .ref (G.2.2.1 + 289) := h.2.2.2 (99, 289) (by decide)
theorem rd_101 (h : dX G S) : S.2.2.2 231 101 = .ref (G.2.2.1 + 290) := h.2.2.2 (101, 290) (by decide)
theorem rd_102 (h : dX G S) : S.2.2.2 231 102 = .ref (G.2.2.1 + 291) := h.2.2.2 (102, 291) (by decide)
theorem rd_103 (h : dX G S) : S.2.2.2 231 103 = .ref (G.2.2.1 + 292) := h.2.2.2 (103, 292) (by decide)
theorem rd_104 (h : dX G S) : S.2.2.2 231 104 = .ref (G.2.2.1 + 293) := h.2.2.2 (104, 293) (by decide)
end DX
