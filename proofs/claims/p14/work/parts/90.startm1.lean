def tmS (i : Nat) : Term := .string (strL.getD i ("", 0, "")).1 (strL.getD i ("", 0, "")).2.1
def vlS (i : Nat) : Term := .field (tmS i) "java/lang/String" "value" "[B"
def cS (i : Nat) : List Cond := .exactly (tmS i) "java/lang/String" :: .eq (.field (tmS i) "java/lang/String" "coder" "B") (.int 0) :: .arrayOf (vlS i) .byte :: .eq (.length (vlS i)) (.int (Int32.ofNat (strN.getD i 0))) :: (List.range (strN.getD i 0)).map fun j => .eq (.elem (vlS i) (.int (Int32.ofNat j))) (.int (iv ((strB.getD i []).getD j 0)))
def cSall : List Cond := (List.range 38).flatMap cS
def kpS : Cond → Bool
  | .eq (.string ..) _ => false
  | .not _ => false
  | _ => true
def wdT : Term := .static "OptimumHouse$Syntax" "WORDS" "[J"
def cW : List Cond := .arrayOf wdT .long :: .eq (.length wdT) (.int (Int32.ofNat 9)) :: (List.range 9).map fun j => .eq (.elem wdT (.int (Int32.ofNat j))) (.long (jv (wordsL.getD j 0)))
set_option maxRecDepth 100000 in
theorem flat_S : (((flatC (Jvm.Cond.and given_1 narrow_1)).drop 21).filter kpS).take 430 = cSall := by decide +kernel
theorem flat_W : ((flatC (Jvm.Cond.and given_1 narrow_1)).drop 5).take 11 = cW := by decide +kernel
theorem flat_C : (flatC (Jvm.Cond.and given_1 narrow_1))[16]? = some (.eq (.static "java/lang/String" "COMPACT_STRINGS" "Z") (.int (iv 1))) := by decide +kernel
theorem flat_F : (flatC (Jvm.Cond.and given_1 narrow_1))[17]? = some (.isRef (.static "jdk/internal/util/Preconditions" "SIOOBE_FORMATTER" "Ljava/util/function/BiFunction;")) := by decide +kernel
theorem tbl_S : ∀ i, i < 38 → Cond.stringRef (strL.getD i ("", 0, "")).1 (strL.getD i ("", 0, "")).2.1 (strL.getD i ("", 0, "")).2.2 ∈ lw_tbl := fun i hi => by
  match i, hi with
  | 0, _ => exact (show Cond.stringRef "OptimumHouse$Syntax" 69 ";,[]()+-*:" ∈ lw_tbl from tbl_3 (List.mem_of_getElem? (i := 127) (by decide +kernel)))
  | 1, _ => exact (show Cond.stringRef "OptimumHouse$Prover" 91 "bound" ∈ lw_tbl from tbl_6 (List.mem_of_getElem? (i := 5) (by decide +kernel)))
  | 2, _ => exact (show Cond.stringRef "OptimumHouse$Prover" 93 "farkas" ∈ lw_tbl from tbl_6 (List.mem_of_getElem? (i := 6) (by decide +kernel)))
  | 3, _ => exact (show Cond.stringRef "OptimumHouse$Prover" 133 ":" ∈ lw_tbl from tbl_6 (List.mem_of_getElem? (i := 58) (by decide +kernel)))
  | 4, _ => exact (show Cond.stringRef "OptimumHouse$Prover" 111 ";" ∈ lw_tbl from tbl_6 (List.mem_of_getElem? (i := 59) (by decide +kernel)))
  | 5, _ => exact (show Cond.stringRef "OptimumHouse$Prover" 113 "cut" ∈ lw_tbl from tbl_6 (List.mem_of_getElem? (i := 80) (by decide +kernel)))
  | 6, _ => exact (show Cond.stringRef "OptimumHouse$Prover" 135 "branch" ∈ lw_tbl from tbl_6 (List.mem_of_getElem? (i := 138) (by decide +kernel)))
  | 7, _ => exact (show Cond.stringRef "OptimumHouse$Prover" 178 "optimal" ∈ lw_tbl from tbl_7 (List.mem_of_getElem? (i := 0) (by decide +kernel)))
  | 8, _ => exact (show Cond.stringRef "OptimumHouse$Prover" 176 "/" ∈ lw_tbl from tbl_7 (List.mem_of_getElem? (i := 15) (by decide +kernel)))
  | 9, _ => exact (show Cond.stringRef "OptimumHouse$Prover" 174 "at" ∈ lw_tbl from tbl_7 (List.mem_of_getElem? (i := 20) (by decide +kernel)))
  | 10, _ => exact (show Cond.stringRef "OptimumHouse$Prover" 192 "infeasible" ∈ lw_tbl from tbl_7 (List.mem_of_getElem? (i := 25) (by decide +kernel)))
  | 11, _ => exact (show Cond.stringRef "OptimumHouse$Prover" 198 "unbounded" ∈ lw_tbl from tbl_7 (List.mem_of_getElem? (i := 31) (by decide +kernel)))
  | 12, _ => exact (show Cond.stringRef "OptimumHouse$Prover" 200 "along" ∈ lw_tbl from tbl_7 (List.mem_of_getElem? (i := 32) (by decide +kernel)))
  | 13, _ => exact (show Cond.stringRef "OptimumHouse$Prover" 205 "1" ∈ lw_tbl from tbl_7 (List.mem_of_getElem? (i := 37) (by decide +kernel)))
  | 14, _ => exact (show Cond.stringRef "OptimumHouse$ProofReader" 70 "optimal" ∈ lw_tbl from tbl_7 (List.mem_of_getElem? (i := 127) (by decide +kernel)))
  | 15, _ => exact (show Cond.stringRef "OptimumHouse$ProofReader" 72 "infeasible" ∈ lw_tbl from tbl_7 (List.mem_of_getElem? (i := 128) (by decide +kernel)))
  | 16, _ => exact (show Cond.stringRef "OptimumHouse$ProofReader" 74 "unbounded" ∈ lw_tbl from tbl_7 (List.mem_of_getElem? (i := 129) (by decide +kernel)))
  | 17, _ => exact (show Cond.stringRef "OptimumHouse$ProofReader" 76 "at" ∈ lw_tbl from tbl_7 (List.mem_of_getElem? (i := 130) (by decide +kernel)))
  | 18, _ => exact (show Cond.stringRef "OptimumHouse$ProofReader" 77 "along" ∈ lw_tbl from tbl_7 (List.mem_of_getElem? (i := 131) (by decide +kernel)))
  | 19, _ => exact (show Cond.stringRef "OptimumHouse$ProofReader" 79 "branch" ∈ lw_tbl from tbl_7 (List.mem_of_getElem? (i := 132) (by decide +kernel)))
  | 20, _ => exact (show Cond.stringRef "OptimumHouse$ProofReader" 81 "cut" ∈ lw_tbl from tbl_7 (List.mem_of_getElem? (i := 133) (by decide +kernel)))
  | 21, _ => exact (show Cond.stringRef "OptimumHouse$ProofReader" 83 "bound" ∈ lw_tbl from tbl_7 (List.mem_of_getElem? (i := 134) (by decide +kernel)))
  | 22, _ => exact (show Cond.stringRef "OptimumHouse$ProofReader" 85 "farkas" ∈ lw_tbl from tbl_7 (List.mem_of_getElem? (i := 135) (by decide +kernel)))
  | 23, _ => exact (show Cond.stringRef "OptimumHouseModel" 302 " max min set par var whole row sum in " ∈ lw_tbl from tbl_9 (List.mem_of_getElem? (i := 184) (by decide +kernel)))
  | 24, _ => exact (show Cond.stringRef "OptimumHouseModel" 618 "farkas" ∈ lw_tbl from tbl_10 (List.mem_of_getElem? (i := 177) (by decide +kernel)))
  | 25, _ => exact (show Cond.stringRef "OptimumHouseModel" 611 ":" ∈ lw_tbl from tbl_10 (List.mem_of_getElem? (i := 203) (by decide +kernel)))
  | 26, _ => exact (show Cond.stringRef "OptimumHouseModel" 613 ";" ∈ lw_tbl from tbl_10 (List.mem_of_getElem? (i := 204) (by decide +kernel)))
  | 27, _ => exact (show Cond.stringRef "OptimumHouseModel" 669 "optimal" ∈ lw_tbl from tbl_10 (List.mem_of_getElem? (i := 213) (by decide +kernel)))
  | 28, _ => exact (show Cond.stringRef "OptimumHouseModel" 664 "/" ∈ lw_tbl from tbl_11 (List.mem_of_getElem? (i := 12) (by decide +kernel)))
  | 29, _ => exact (show Cond.stringRef "OptimumHouseModel" 674 "at" ∈ lw_tbl from tbl_11 (List.mem_of_getElem? (i := 13) (by decide +kernel)))
  | 30, _ => exact (show Cond.stringRef "OptimumHouseModel" 678 "infeasible" ∈ lw_tbl from tbl_11 (List.mem_of_getElem? (i := 18) (by decide +kernel)))
  | 31, _ => exact (show Cond.stringRef "OptimumHouseModel" 626 "bound" ∈ lw_tbl from tbl_11 (List.mem_of_getElem? (i := 51) (by decide +kernel)))
  | 32, _ => exact (show Cond.stringRef "OptimumHouseModel" 646 "cut" ∈ lw_tbl from tbl_11 (List.mem_of_getElem? (i := 60) (by decide +kernel)))
  | 33, _ => exact (show Cond.stringRef "OptimumHouseModel" 650 "branch" ∈ lw_tbl from tbl_11 (List.mem_of_getElem? (i := 65) (by decide +kernel)))
  | 34, _ => exact (show Cond.stringRef "OptimumHouseModel" 680 "unbounded" ∈ lw_tbl from tbl_11 (List.mem_of_getElem? (i := 70) (by decide +kernel)))
  | 35, _ => exact (show Cond.stringRef "OptimumHouseModel" 682 "along" ∈ lw_tbl from tbl_11 (List.mem_of_getElem? (i := 71) (by decide +kernel)))
  | 36, _ => exact (show Cond.stringRef "OptimumHouseModel" 684 "1" ∈ lw_tbl from tbl_11 (List.mem_of_getElem? (i := 72) (by decide +kernel)))
  | 37, _ => exact (show Cond.stringRef "OptimumHouseModel" 689 " optimal at infeasible unbounded along branch cut bound farkas " ∈ lw_tbl from tbl_11 (List.mem_of_getElem? (i := 117) (by decide +kernel)))
  | i + 38, hi => exact absurd hi (by omega)
theorem strN_lt : ∀ i, i < 38 → strN.getD i 0 < 2 ^ 31 := by decide +kernel
theorem sStr {args : Array Value} {s : State} {A : Nat → Prop} (hs : ∀ w ∈ flatC (Jvm.Cond.and given_1 narrow_1), w.before args s = true) (hA : ∀ a : Nat, a < s.heap.size → ¬ A a) (i : Nat) (hi : i < 38) : ∃ q : Nat × Nat, (tmS i).eval args s none [] s = some (.ref q.1) ∧ va_O "java/lang/String" q.1 A s s.heap ∧ va_OF "java/lang/String" "coder" "B" (.int 0) q.1 A s s.heap ∧ va_OF "java/lang/String" "value" "[B" (.ref q.2) q.1 A s s.heap ∧ va_T .byte q.2 (strN.getD i 0) (fun j => .int (iv ((strB.getD i []).getD j 0))) A s s.heap := by
  have hm : ∀ w ∈ cS i, w.before args s = true := fun w hw => hs w (List.mem_of_mem_drop (List.mem_filter.mp (List.mem_of_mem_take (by rw [flat_S]; exact List.mem_flatMap.mpr ⟨i, List.mem_range.mpr hi, hw⟩))).1)
  have hex := hm (.exactly (tmS i) "java/lang/String") List.mem_cons_self
  have hco := hm (.eq (.field (tmS i) "java/lang/String" "coder" "B") (.int 0)) (List.mem_cons_of_mem _ List.mem_cons_self)
  have har := hm (.arrayOf (vlS i) .byte) (List.mem_cons_of_mem _ (List.mem_cons_of_mem _ List.mem_cons_self))
  have hle := hm (.eq (.length (vlS i)) (.int (Int32.ofNat (strN.getD i 0)))) (List.mem_cons_of_mem _ (List.mem_cons_of_mem _ (List.mem_cons_of_mem _ List.mem_cons_self)))
  have hel : ∀ j, j < strN.getD i 0 → (Cond.eq (.elem (vlS i) (.int (Int32.ofNat j))) (.int (iv ((strB.getD i []).getD j 0)))).before args s = true := fun j hj => hm _ (List.mem_cons_of_mem _ (List.mem_cons_of_mem _ (List.mem_cons_of_mem _ (List.mem_cons_of_mem _ (List.mem_map.mpr ⟨j, List.mem_range.mpr hj, rfl⟩)))))
  obtain ⟨a, c, cA, kA, q1, q2, q3, q4, q5, q6, -⟩ := Cond.exactly_spec (args := args) (first := s) (o := none) (s := s) (idx := []) (t := tmS i) (cls := "java/lang/String") hex
  obtain ⟨t, ht, hT⟩ := va_Tof (f := fun j => .int (iv ((strB.getD i []).getD j 0))) (A := A) (strN_lt i hi) har (va_eqt hle) (fun j hj => va_eqt (hel j hj)) hA
  exact ⟨(a, t), q1, ⟨cA, q3, q5, by rw [q6]; exact q2, hA a (Array.getElem?_eq_some_iff.mp q3).1⟩, vk_OFof q1 (va_eqt hco) hA, vk_OFof q1 ht hA, hT⟩

theorem sWd {args : Array Value} {s : State} {A : Nat → Prop} (hts0 : ∀ w ∈ lw_tbl, w.before args s = true) (hs : ∀ w ∈ flatC (Jvm.Cond.and given_1 narrow_1), w.before args s = true) (hA : ∀ a : Nat, a < s.heap.size → ¬ A a) : ∃ a : Nat, va_Z "OptimumHouse$Syntax" "WORDS" "[J" (.ref a) A s s.heap ∧ va_T .long a 9 (fun j => .long (jv (wordsL.getD j 0))) A s s.heap := by
  have hm : ∀ w ∈ cW, w.before args s = true := fun w hw => hs w (List.mem_of_mem_drop (List.mem_of_mem_take (by rw [flat_W]; exact hw)))
  have har := hm (.arrayOf wdT .long) List.mem_cons_self
  have hle := hm (.eq (.length wdT) (.int (Int32.ofNat 9))) (List.mem_cons_of_mem _ List.mem_cons_self)
  have hel : ∀ j, j < 9 → (Cond.eq (.elem wdT (.int (Int32.ofNat j))) (.long (jv (wordsL.getD j 0)))).before args s = true := fun j hj => hm _ (List.mem_cons_of_mem _ (List.mem_cons_of_mem _ (List.mem_map.mpr ⟨j, List.mem_range.mpr hj, rfl⟩)))
  obtain ⟨t, ht, hT⟩ := va_Tof (f := fun j => .long (jv (wordsL.getD j 0))) (A := A) (by decide) har (va_eqt hle) (fun j hj => va_eqtl (hel j hj)) hA
  exact ⟨t, va_Zof (hts0 _ (show Cond.laysStatic "OptimumHouse$Syntax" "WORDS" "[J" ∈ lw_tbl from tbl_3 (List.mem_of_getElem? (i := 118) (by decide +kernel)))) (hts0 _ (show Cond.initialized "OptimumHouse$Syntax" ∈ lw_tbl from tbl_1 (List.mem_of_getElem? (i := 6) (by decide +kernel)))) ht hA, hT⟩
theorem sSt0 {args : Array Value} {s : State} {A : Nat → Prop} (hts0 : ∀ w ∈ lw_tbl, w.before args s = true) (hs : ∀ w ∈ flatC (Jvm.Cond.and given_1 narrow_1), w.before args s = true) (hA : ∀ a : Nat, a < s.heap.size → ¬ A a) : va_Zq "jdk/internal/util/Preconditions" "SIOOBE_FORMATTER" "Ljava/util/function/BiFunction;" A s s.heap ∧ va_Z "java/lang/String" "COMPACT_STRINGS" "Z" (.int (iv 1)) A s s.heap :=
  ⟨va_Zqof (hts0 _ (show Cond.laysStatic "jdk/internal/util/Preconditions" "SIOOBE_FORMATTER" "Ljava/util/function/BiFunction;" ∈ lw_tbl from tbl_3 (List.mem_of_getElem? (i := 180) (by decide +kernel)))) (hts0 _ (show Cond.initialized "jdk/internal/util/Preconditions" ∈ lw_tbl from tbl_1 (List.mem_of_getElem? (i := 18) (by decide +kernel)))) (hs _ (List.mem_of_getElem? flat_F)) hA, va_Zof (hts0 _ (show Cond.laysStatic "java/lang/String" "COMPACT_STRINGS" "Z" ∈ lw_tbl from tbl_3 (List.mem_of_getElem? (i := 141) (by decide +kernel)))) (hts0 _ (show Cond.initialized "java/lang/String" ∈ lw_tbl from tbl_1 (List.mem_of_getElem? (i := 15) (by decide +kernel)))) (va_eqt (hs _ (List.mem_of_getElem? flat_C))) hA⟩

set_option maxHeartbeats 4000000 in
theorem sStart {args : Array Value} {s : State} (hts0 : ∀ w ∈ lw_tbl, w.before args s = true) (hgv : (Jvm.Cond.and given_1 narrow_1).before args s = true) : ∃ (D : va_G) (dT : FieldType → ClassId), sK (D, dT, s.heap.size, s.heap) s := by
  have hts : ∀ w ∈ tb, w.before args s = true := fun w hw => hts0 w (List.mem_filter.mp hw).1
  have hs := flat_of_before _ hgv
  have hA : ∀ a : Nat, a < s.heap.size → ¬ (s.heap.size ≤ a) := fun a h z => absurd h (Nat.not_lt.mpr z)
  have h0 : ∀ i : Nat, ∃ q : Nat × Nat, i < 38 → (tmS i).eval args s none [] s = some (.ref q.1) ∧ va_O "java/lang/String" q.1 (fun q => s.heap.size ≤ q) s s.heap ∧ va_OF "java/lang/String" "coder" "B" (.int 0) q.1 (fun q => s.heap.size ≤ q) s s.heap ∧ va_OF "java/lang/String" "value" "[B" (.ref q.2) q.1 (fun q => s.heap.size ≤ q) s s.heap ∧ va_T .byte q.2 (strN.getD i 0) (fun j => .int (iv ((strB.getD i []).getD j 0))) (fun q => s.heap.size ≤ q) s s.heap := fun i => by
    by_cases hi : i < 38
    · obtain ⟨q, hq⟩ := sStr (A := fun q => s.heap.size ≤ q) hs hA i hi
      exact ⟨q, fun _ => hq⟩
    · exact ⟨(0, 0), fun h => absurd h hi⟩
  obtain ⟨ad, had⟩ := Classical.axiomOfChoice h0
  obtain ⟨wa, hw1, hw2⟩ := sWd (A := fun q => s.heap.size ≤ q) hts0 hs hA
  obtain ⟨hz1, hz2⟩ := sSt0 (A := fun q => s.heap.size ≤ q) hts0 hs hA
  obtain ⟨c0, i0, k0⟩ := u_known (C := RX0) (T := TX0) (N := 3) (n := 3) hts inX0 (hts _ w_394)
  obtain ⟨c1, i1, k1⟩ := u_known (C := RX1) (T := TX1) (N := 18) (n := 18) hts inX1 (hts _ w_617)
  obtain ⟨c2, i2, k2⟩ := u_known (C := RX2) (T := TX2) (N := 20) (n := 20) hts inX2 (hts _ w_448)
  obtain ⟨c3, i3, k3⟩ := u_known (C := RX3) (T := TX3) (N := 5) (n := 5) hts inX3 (hts _ w_256)
  obtain ⟨c4, i4, k4⟩ := u_known (C := RX4) (T := TX4) (N := 4) (n := 4) hts inX4 (hts _ w_623)
  obtain ⟨c5, i5, k5⟩ := u_known (C := RX5) (T := TX5) (N := 10) (n := 10) hts inX5 (hts _ w_518)
  obtain ⟨c6, i6, k6⟩ := u_known (C := RX6) (T := TX6) (N := 10) (n := 10) hts inX6 (hts _ w_388)
  obtain ⟨c7, i7, k7⟩ := u_known (C := RX7) (T := TX7) (N := 17) (n := 17) hts inX7 (hts _ w_382)
  obtain ⟨c8, i8, k8⟩ := u_known (C := RX8) (T := TX8) (N := 5) (n := 5) hts inX8 (hts _ w_303)
  obtain ⟨c9, i9, k9⟩ := u_known (C := RX9) (T := TX9) (N := 17) (n := 17) hts inX9 (hts _ w_297)
  obtain ⟨c10, i10, k10⟩ := u_known (C := RX10) (T := TX10) (N := 3) (n := 3) hts inX10 (hts _ w_236)
  obtain ⟨c11, i11, k11⟩ := u_known (C := RX11) (T := TX11) (N := 11) (n := 11) hts inX11 (hts _ w_228)
  obtain ⟨c12, i12, k12⟩ := u_known (C := RX12) (T := TX12) (N := 105) (n := 105) hts inX12 (hts _ w_1953)
  obtain ⟨a_int, q_int, m_int, f_int, g_int, h_int⟩ := Cond.arrayClass_spec (hts _ w_294)
  obtain ⟨a_long, q_long, m_long, f_long, g_long, h_long⟩ := Cond.arrayClass_spec (hts _ w_324)
  obtain ⟨a_byte, q_byte, m_byte, f_byte, g_byte, h_byte⟩ := Cond.arrayClass_spec (hts _ w_254)
  obtain ⟨a_boolean, q_boolean, m_boolean, f_boolean, g_boolean, h_boolean⟩ := Cond.arrayClass_spec (hts _ w_295)
  have hov : sO s := hts0 (.arrayOver (.array .long)) (tbl_1 (List.mem_of_getElem? (i := 123) (by decide +kernel)))
  obtain ⟨co, ca, ka, o1, o2, o3, o4, o5⟩ := overA_spec hov
  refine ⟨(fun k => match k with | 0 => c0 | 1 => c1 | 2 => c2 | 3 => c3 | 4 => c4 | 5 => c5 | 6 => c6 | 7 => c7 | 8 => c8 | 9 => c9 | 10 => c10 | 11 => c11 | _ => c12, fun k => match k with | 0 => i0 | 1 => i1 | 2 => i2 | 3 => i3 | 4 => i4 | 5 => i5 | 6 => i6 | 7 => i7 | 8 => i8 | 9 => i9 | 10 => i10 | 11 => i11 | 100 => fun i => (ad i).1 | 101 => fun i => (ad i).2 | 102 => fun _ => wa | _ => i12), fun t => match t with | .int => a_int | .long => a_long | .byte => a_byte | .boolean => a_boolean | _ => ca, ⟨?_, ?_⟩, ?_, hov, ⟨hz1, hz2⟩, ⟨hw1, hw2⟩, fun i hi => ?_⟩
  · intro k q hq
    match k, hq with
    | 0, hq => cases hq; exact k0
    | 1, hq => cases hq; exact k1
    | 2, hq => cases hq; exact k2
    | 3, hq => cases hq; exact k3
    | 4, hq => cases hq; exact k4
    | 5, hq => cases hq; exact k5
    | 6, hq => cases hq; exact k6
    | 7, hq => cases hq; exact k7
    | 8, hq => cases hq; exact k8
    | 9, hq => cases hq; exact k9
    | 10, hq => cases hq; exact k10
    | 11, hq => cases hq; exact k11
    | 12, hq => cases hq; exact k12
    | k + 13, hq => simp [vwCl] at hq
  · intro k q hq
    match k, hq with
    | 0, hq => cases hq; exact ⟨fun n z => ⟨fun k h => (by cases h), q_int, g_int, m_int, h_int⟩, f_int⟩
    | 1, hq => cases hq; exact ⟨fun n z => ⟨fun k h => (by cases h), q_long, g_long, m_long, h_long⟩, f_long⟩
    | 2, hq => cases hq; exact ⟨fun n z => ⟨fun k h => (by cases h), q_byte, g_byte, m_byte, h_byte⟩, f_byte⟩
    | 3, hq => cases hq; exact ⟨fun n z => ⟨fun k h => (by cases h), q_boolean, g_boolean, m_boolean, h_boolean⟩, f_boolean⟩
    | 4, hq => cases hq; exact ⟨fun n z => ⟨fun k h => (by cases h), ka, o3, co, o4⟩, o5⟩
    | k + 5, hq => simp [sTy] at hq
  · exact fun w hw => va_Nw.of (nst_on (List.mem_filter.mp hw).2) (hts0 w (List.mem_filter.mp hw).1)
  · have q := had i hi
    exact ⟨vk_R.of (hts0 _ (tbl_S i hi)) q.1, q.2⟩
