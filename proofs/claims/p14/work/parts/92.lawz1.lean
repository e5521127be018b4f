/-! new long[n][k]; the fresh memory -/
theorem vr_outer (c : ClassId) (N h0 : Nat) : ∀ i : Nat, Jvm.Free.Multi.outerC c N h0 i = arrV c N (fun j => va_rf (if j < i then some (h0 + 1 + j) else none))
  | 0 => by
    show ({ cls := c, slots := Array.replicate N .null, vm := .none } : Cell) = _
    rw [arrV_new]
    refine congrArg (arrV c N) (funext fun j => ?_)
    simp [va_rf]
  | i + 1 => by
    show (Jvm.Free.Multi.outerC c N h0 i).setSlot i (.ref (h0 + 1 + i)) = _
    rw [vr_outer c N h0 i, arrV_store]
    refine congrArg (arrV c N) (funext fun j => ?_)
    by_cases e : j = i
    · subst e
      simp [updV, va_rf]
    · by_cases h : j < i
      · simp [updV, e, h, Nat.lt_succ_of_lt h]
      · simp [updV, e, h, show ¬ j < i + 1 by omega]
section SVM
variable {p : Program} {l : Launch} {e : Env} {R : Room} {s : State} {m : MethodId} {args : Array Value} {below : List Frame} {meth : Method} {c : Code} {H : Heap} {locs : List Loc} {cells slots : Nat} {Q : State → Prop}
variable {cc : ByteArray} {pc nL : Nat} {ls : Array Slot} {rest st0 : List Value} {G : sG} {n : Nat} {S : sS} {own : String}
theorem sMna (Cx : sC G p m c cc nL s args own) {index : Nat} (hcl : Cond.classLink own index ("[" ++ (FieldType.array .long).toString) ∈ tb) (harr : Cond.arrayClass .long ∈ tb) (hW : sW G n S H) {x k : Int32} {N K : Nat} (hx0 : ¬ x < 0) (hk0 : ¬ k < 0) (hN : x.toNatClampNeg = N) (hK1 : k.toNatClampNeg = K) (ht : tau n = .inr (.array .long, N)) (hti : ∀ i, i < N → tau (n + 1 + i) = .inr (.long, K))
    (hb1 : N * 4 ≤ 536870912) (hb2 : K * componentBytes .long ≤ 536870912) (hb3 : K ≤ 536870912) (hcells : cells + (1 + N) ≤ R.cells) (hslots : slots + (N + N * K) ≤ R.slots) (hdg : decode cc pc = .ok (.multianewarray index 2, 4))
    (kk : ∀ H1 : Heap, sW G (n + 1 + N) (sMk G.2.2.1 S n N) H1 → W p l e R s m args below meth c H1 locs (cells + 1 + N) (slots + N + N * K) Q (F0 m (pc + 4) ls (.ref (G.2.2.1 + n) :: rest))) : W p l e R s m args below meth c H locs cells slots Q (F0 m pc ls (.int k :: .int x :: rest)) := by
  obtain ⟨⟨hx, hb, hml, hown, hts⟩, hK, hN1, hov, -⟩ := Cx
  subst hN
  subst hK1
  intro T hT Xs
  obtain ⟨vm₁, cA, comp, -, fA, fC, hO, -, X', step⟩ := Xs.multianewarray2F hx hown (hts _ hcl) (show (Cond.arrayOver (.array .long)).before args s = true from hov) (hts _ harr) (g := F0 m pc ls (.int k :: .int x :: rest)) rfl (by rw [hb]; exact hdg) rfl hx0 hk0 hb1 hb2 hb3 rfl rfl hcells hslots
  have eA : cA = G.2.1 (.array .long) := Option.some.inj (fA.symm.trans (sArr hK 4 rfl).2)
  have eC : comp = G.2.1 .long := Option.some.inj (fC.symm.trans (sArr hK 1 rfl).2)
  subst eA
  subst eC
  generalize hF : Jvm.Free.Multi.fill (T.setVm vm₁) (G.2.1 (.array .long)) (G.2.1 .long) x.toNatClampNeg k.toNatClampNeg (defaultValue .long) x.toNatClampNeg = F at X' step
  have hTh : (T.setVm vm₁).heap = H := hT
  obtain ⟨f1, f2, -, -⟩ := Jvm.Free.Multi.fill_facts (T.setVm vm₁) (G.2.1 (.array .long)) (G.2.1 .long) x.toNatClampNeg k.toNatClampNeg (defaultValue .long) x.toNatClampNeg
  rw [hF, hTh] at f1 f2
  have hold : ∀ q : Nat, q < H.size → F.heap[q]? = H[q]? := fun q hq => by
    have := Jvm.Free.Multi.fill_old (T.setVm vm₁) (G.2.1 (.array .long)) (G.2.1 .long) x.toNatClampNeg k.toNatClampNeg (defaultValue .long) (a := q) (by rw [hTh]; exact hq) x.toNatClampNeg
    rw [hF, hTh] at this
    exact this
  have hrow : ∀ j : Nat, j < x.toNatClampNeg → F.heap[H.size + 1 + j]? = some (Jvm.Free.Multi.innerC (G.2.1 .long) k.toNatClampNeg (defaultValue .long)) := fun j hj => by
    have := Jvm.Free.Multi.fill_inner (T.setVm vm₁) (G.2.1 (.array .long)) (G.2.1 .long) x.toNatClampNeg k.toNatClampNeg (defaultValue .long) x.toNatClampNeg j hj
    rw [hF, hTh] at this
    exact this
  rw [vr_outer] at f2
  have hsz := hW.1
  have w : sW G (n + 1 + x.toNatClampNeg) (sMk G.2.2.1 S n x.toNatClampNeg) F.heap := by
    refine ⟨by rw [f1, hsz]; omega, fun q hq => (hold q (by omega)).trans (hW.2.1 q hq), fun a ha => ?_, fun a ha => ?_⟩
    · by_cases h1 : a < n
      · exact (hW.2.2.1 a h1).kept (hold _ (by omega)) (sM_off a (by omega))
      · by_cases h2 : a = n
        · subst h2
          rw [ht]
          show F.heap[G.2.2.1 + a]? = some (arrV _ _ _)
          rw [← hsz, f2]
          congr 2
          funext j
          by_cases hj : j < x.toNatClampNeg
          · have hj1 : Nat.blt j x.toNatClampNeg = true := Nat.blt_eq.mpr hj
            simp [av, sMk, va_rf, hj, hj1, hsz]
          · have hz := (hW.2.2.2 a (Nat.le_refl a)).2.2.2 j
            have hj2 : Nat.blt j x.toNatClampNeg = false := by
              cases h9 : Nat.blt j x.toNatClampNeg with
              | false => rfl
              | true => exact absurd (Nat.blt_eq.mp h9) hj
            simp [av, sMk, va_rf, hj, hj2, hz]
        · obtain ⟨i, rfl⟩ : ∃ i, a = n + 1 + i := ⟨a - (n + 1), by omega⟩
          rw [hti i (by omega)]
          show F.heap[G.2.2.1 + (n + 1 + i)]? = some (arrV _ _ _)
          have e9 : G.2.2.1 + (n + 1 + i) = H.size + 1 + i := by omega
          rw [e9, hrow i (by omega)]
          show some ({ cls := G.2.1 .long, slots := Array.replicate k.toNatClampNeg (defaultValue .long), vm := .none } : Cell) = _
          rw [arrV_new]
          congr 2
          funext j
          have hz := hW.2.2.2 (n + 1 + i) (by omega)
          exact (hz.dfltA (.inr rfl) j).symm
    · have hz := hW.2.2.2 a (by omega)
      have e9 : Nat.beq a n = false := by
        cases h9 : Nat.beq a n with
        | false => rfl
        | true => exact absurd (Nat.eq_of_beq_eq_true h9) (by omega)
      exact ⟨hz.1, hz.2.1, hz.2.2.1, fun i => by simp [sMk, e9, hz.2.2.2 i]⟩
  obtain ⟨t, a1, b1⟩ := kk F.heap w F rfl X'
  refine ⟨t, step t ?_, b1⟩
  have e2 : T.heap.size = G.2.2.1 + n := by rw [hT]; exact hsz
  rw [e2]
  exact a1
end SVM

set_option maxRecDepth 100000 in
set_option maxHeartbeats 4000000 in
theorem t6_X9_init (l : Launch) (G : sG) (S : sS) : Met l yX9_init (.code yX9_init cX9_init 1 none :: tb) (rmk 2 107 10186) (sPc G 12 S [.ref (G.2.2.1 + 11)]) (sQv G 119 (fun u => u = (uR (uR (uR (uR (uR (sMk G.2.2.1 (uR (sMk G.2.2.1 (uR (sMk G.2.2.1 (uR (uR (uR (uR (uR (uR (uR S 12 0 (.ref (G.2.2.1 + 13))) 12 1 (.ref (G.2.2.1 + 14))) 12 2 (.ref (G.2.2.1 + 15))) 11 0 (.ref (G.2.2.1 + 12))) 11 1 (.ref (G.2.2.1 + 16))) 11 2 (.ref (G.2.2.1 + 17))) 11 3 (.ref (G.2.2.1 + 18))) 19 31) 11 4 (.ref (G.2.2.1 + 19))) 51 31) 11 5 (.ref (G.2.2.1 + 51))) 83 31) 11 6 (.ref (G.2.2.1 + 83))) 11 7 (.ref (G.2.2.1 + 115))) 116 0 (.ref (G.2.2.1 + 117))) 116 1 (.ref (G.2.2.1 + 118))) 11 8 (.ref (G.2.2.1 + 116))))) 107 10186 (sF G) := by
  refine sEnter (by decide) (Nat.le_of_ble_eq_true rfl) ?_
  intro p e s m args below meth c Cx hr hlk hnm hW ls hl
  have Cx : sC G p m c cX9_init 1 s args RX9 := Cx
  obtain ⟨hx, hb, hml, hown, hts⟩ := id Cx.1
  have hL : sL G [] := sL_nil
  have hl : lv_has ls 1 [(0, .ref (G.2.2.1 + 11))] := hl
  refine lv_aload_n hx hb dX9_init_0 rfl (lv_at hl 0 rfl) ?_
  refine W.objInit hx hb hown (hts _ w_301) (hts _ w_233) (hts _ w_234) rfl (by rw [hml]; exact hl.1) rfl dX9_init_1 (Nat.le_of_ble_eq_true rfl) (Nat.le_of_ble_eq_true rfl) ?_
  refine W.eq (g2 := F0 m 4 ls []) rfl ?_
  refine lv_aload_n hx hb dX9_init_4 rfl (lv_at hl 0 rfl) ?_
  refine n_X9_11 Cx hW rfl (Nat.le_of_ble_eq_true rfl) (Nat.le_of_ble_eq_true rfl) dX9_init_5 (fun H hW => ?_)
  refine lv_dup hx hb dX9_init_8 rfl ?_
  refine sBv (sInN (As := []) (rest := [.ref (G.2.2.1 + 12), .ref (G.2.2.1 + 11)]) (k := 12) Cx (t7_X8_init l G S) (c_X9_13 Cx rfl rfl ⟨Nat.le_of_ble_eq_true rfl, Nat.le_of_ble_eq_true rfl⟩) hW rfl hl.1 rfl (Nat.le_of_ble_eq_true rfl) dX9_init_9 ⟨Nat.le_of_ble_eq_true rfl, Nat.le_of_ble_eq_true rfl⟩) hL (fun u H locs hq hW hL => ?_)
  subst hq
  refine p_X9_14 Cx hnm hW hL (k := 11) (by decide) rfl dX9_init_12 (fun H locs hW hL => ?_)
  refine lv_aload_n hx hb dX9_init_15 rfl (lv_at hl 0 rfl) ?_
  refine lv_sipush (v := iv 128) hx hb dX9_init_16 (by decide) ?_
  refine sNewa (atype := .long) (ty := .long) Cx (N := 128) rfl 1 rfl (fun U h => h) w_324 hW rfl (.inr rfl) (by decide) (by decide) (Nat.le_of_ble_eq_true rfl) (Nat.le_of_ble_eq_true rfl) (Nat.le_of_ble_eq_true rfl) dX9_init_19 (fun H hW => ?_)
  refine p_X9_18 Cx hnm hW hL (k := 11) (by decide) rfl dX9_init_21 (fun H locs hW hL => ?_)
  refine lv_aload_n hx hb dX9_init_24 rfl (lv_at hl 0 rfl) ?_
  refine lv_sipush (v := iv 768) hx hb dX9_init_25 (by decide) ?_
  refine sNewa (atype := .int) (ty := .int) Cx (N := 768) rfl 0 rfl (fun U h => h) w_294 hW rfl (.inl rfl) (by decide) (by decide) (Nat.le_of_ble_eq_true rfl) (Nat.le_of_ble_eq_true rfl) (Nat.le_of_ble_eq_true rfl) dX9_init_28 (fun H hW => ?_)
  refine p_X9_22 Cx hnm hW hL (k := 11) (by decide) rfl dX9_init_30 (fun H locs hW hL => ?_)
  refine lv_aload_n hx hb dX9_init_33 rfl (lv_at hl 0 rfl) ?_
  refine lv_sipush (v := iv 1728) hx hb dX9_init_34 (by decide) ?_
  refine sNewa (atype := .int) (ty := .int) Cx (N := 1728) rfl 0 rfl (fun U h => h) w_294 hW rfl (.inl rfl) (by decide) (by decide) (Nat.le_of_ble_eq_true rfl) (Nat.le_of_ble_eq_true rfl) (Nat.le_of_ble_eq_true rfl) dX9_init_37 (fun H hW => ?_)
  refine p_X9_26 Cx hnm hW hL (k := 11) (by decide) rfl dX9_init_39 (fun H locs hW hL => ?_)
  refine lv_aload_n hx hb dX9_init_42 rfl (lv_at hl 0 rfl) ?_
  refine lv_bipush (v := iv 31) hx hb dX9_init_43 (by decide) ?_
  refine lv_bipush (v := iv 13) hx hb dX9_init_45 (by decide) ?_
  refine sMna Cx (N := 31) (K := 13) w_325 w_324 hW (by decide) (by decide) (by decide) (by decide) rfl (by decide) (Nat.le_of_ble_eq_true rfl) (Nat.le_of_ble_eq_true rfl) (Nat.le_of_ble_eq_true rfl) (Nat.le_of_ble_eq_true rfl) (Nat.le_of_ble_eq_true rfl) dX9_init_47 (fun H hW => ?_)
  refine p_X9_31 Cx hnm hW hL (k := 11) (by decide) rfl dX9_init_51 (fun H locs hW hL => ?_)
  refine lv_aload_n hx hb dX9_init_54 rfl (lv_at hl 0 rfl) ?_
  refine lv_bipush (v := iv 31) hx hb dX9_init_55 (by decide) ?_
  refine lv_bipush (v := iv 13) hx hb dX9_init_57 (by decide) ?_
  refine sMna Cx (N := 31) (K := 13) w_325 w_324 hW (by decide) (by decide) (by decide) (by decide) rfl (by decide) (Nat.le_of_ble_eq_true rfl) (Nat.le_of_ble_eq_true rfl) (Nat.le_of_ble_eq_true rfl) (Nat.le_of_ble_eq_true rfl) (Nat.le_of_ble_eq_true rfl) dX9_init_59 (fun H hW => ?_)
  refine p_X9_34 Cx hnm hW hL (k := 11) (by decide) rfl dX9_init_63 (fun H locs hW hL => ?_)
  refine lv_aload_n hx hb dX9_init_66 rfl (lv_at hl 0 rfl) ?_
  refine lv_bipush (v := iv 31) hx hb dX9_init_67 (by decide) ?_
  refine lv_bipush (v := iv 13) hx hb dX9_init_69 (by decide) ?_
  refine sMna Cx (N := 31) (K := 13) w_325 w_324 hW (by decide) (by decide) (by decide) (by decide) rfl (by decide) (Nat.le_of_ble_eq_true rfl) (Nat.le_of_ble_eq_true rfl) (Nat.le_of_ble_eq_true rfl) (Nat.le_of_ble_eq_true rfl) (Nat.le_of_ble_eq_true rfl) dX9_init_71 (fun H hW => ?_)
  refine p_X9_37 Cx hnm hW hL (k := 11) (by decide) rfl dX9_init_75 (fun H locs hW hL => ?_)
  refine lv_aload_n hx hb dX9_init_78 rfl (lv_at hl 0 rfl) ?_
  refine lv_bipush (v := iv 13) hx hb dX9_init_79 (by decide) ?_
  refine sNewa (atype := .long) (ty := .long) Cx (N := 13) rfl 1 rfl (fun U h => h) w_324 hW rfl (.inr rfl) (by decide) (by decide) (Nat.le_of_ble_eq_true rfl) (Nat.le_of_ble_eq_true rfl) (Nat.le_of_ble_eq_true rfl) dX9_init_81 (fun H hW => ?_)
  refine p_X9_40 Cx hnm hW hL (k := 11) (by decide) rfl dX9_init_83 (fun H locs hW hL => ?_)
  refine lv_aload_n hx hb dX9_init_86 rfl (lv_at hl 0 rfl) ?_
  refine n_X9_43 Cx hW rfl (Nat.le_of_ble_eq_true rfl) (Nat.le_of_ble_eq_true rfl) dX9_init_87 (fun H hW => ?_)
  refine lv_dup hx hb dX9_init_90 rfl ?_
  refine sBv (sInN (As := []) (rest := [.ref (G.2.2.1 + 116), .ref (G.2.2.1 + 11)]) (k := 116) Cx (t8_X3_init l G (uR (uR (sMk G.2.2.1 (uR (sMk G.2.2.1 (uR (sMk G.2.2.1 (uR (uR (uR (uR (uR (uR (uR S 12 0 (.ref (G.2.2.1 + 13))) 12 1 (.ref (G.2.2.1 + 14))) 12 2 (.ref (G.2.2.1 + 15))) 11 0 (.ref (G.2.2.1 + 12))) 11 1 (.ref (G.2.2.1 + 16))) 11 2 (.ref (G.2.2.1 + 17))) 11 3 (.ref (G.2.2.1 + 18))) 19 31) 11 4 (.ref (G.2.2.1 + 19))) 51 31) 11 5 (.ref (G.2.2.1 + 51))) 83 31) 11 6 (.ref (G.2.2.1 + 83))) 11 7 (.ref (G.2.2.1 + 115)))) (c_X9_45 Cx rfl rfl ⟨Nat.le_of_ble_eq_true rfl, Nat.le_of_ble_eq_true rfl⟩) hW rfl hl.1 rfl (Nat.le_of_ble_eq_true rfl) dX9_init_91 ⟨Nat.le_of_ble_eq_true rfl, Nat.le_of_ble_eq_true rfl⟩) hL (fun u H locs hq hW hL => ?_)
  subst hq
  refine p_X9_46 Cx hW hL (k := 11) (by decide) rfl dX9_init_94 (fun H locs hW hL => ?_)
  exact sVret Cx hr hlk hW hL rfl dX9_init_97

set_option maxRecDepth 100000 in
set_option maxHeartbeats 4000000 in
theorem t1_X11_init (l : Launch) (G : sG) (S : sS) : Met l yX11_init (.code yX11_init cX11_init 1 none :: tb) (rmk 4 230 225966) (sPc G 1 S [.ref (G.2.2.1 + 0)]) (sQv G 231 (fun u => u = (uF (uR (uR (uR (uR (uR (uR (uR (uR (uR (uR (uR (uR (uR (uR (uR (uR (uR (uR (uR (uR (uR (uR (uR (uR (uR (uR (uR (uR (uR (uR (uR (uR (uR (uR (uR (uR (uR (uR (uR (uR (uR (uR (uR (uR (uR (uR (uR (uR (uR (uR (uR (uR (uR (uR (uR (uR (uR (uR (uR (uR (uR (uR (uR (uR (uR (uR (uR (uR (uR (uR (uR (uR (uR (uR (uR (uR (uR (uR (uR (uR (uR (uR (uR (uR (uR (uR (uR (uR (uR (uR (uR (uR (uR (uR (uR (uR (uR (uR (uR (uR (uR (uR (uR (uR (uR (uR (uR (uR (uR (uR (uR (uR (uR (uR (uR (uR (uR (uR (sMk G.2.2.1 (uR (sMk G.2.2.1 (uR (sMk G.2.2.1 (uR (uR (uR (uR (uR (uR (uR (uR (uR (uR (uR (uR (uR (uR (uR (uR (uR S 1 0 (.ref (G.2.2.1 + 2))) 0 0 (.ref (G.2.2.1 + 1))) 3 0 (.ref (G.2.2.1 + 4))) 0 1 (.ref (G.2.2.1 + 3))) 5 0 (.ref (G.2.2.1 + 6))) 5 1 (.ref (G.2.2.1 + 7))) 0 5 (.ref (G.2.2.1 + 5))) 8 0 (.ref (G.2.2.1 + 9))) 8 1 (.ref (G.2.2.1 + 10))) 0 6 (.ref (G.2.2.1 + 8))) 12 0 (.ref (G.2.2.1 + 13))) 12 1 (.ref (G.2.2.1 + 14))) 12 2 (.ref (G.2.2.1 + 15))) 11 0 (.ref (G.2.2.1 + 12))) 11 1 (.ref (G.2.2.1 + 16))) 11 2 (.ref (G.2.2.1 + 17))) 11 3 (.ref (G.2.2.1 + 18))) 19 31) 11 4 (.ref (G.2.2.1 + 19))) 51 31) 11 5 (.ref (G.2.2.1 + 51))) 83 31) 11 6 (.ref (G.2.2.1 + 83))) 11 7 (.ref (G.2.2.1 + 115))) 116 0 (.ref (G.2.2.1 + 117))) 116 1 (.ref (G.2.2.1 + 118))) 11 8 (.ref (G.2.2.1 + 116))) 0 2 (.ref (G.2.2.1 + 11))) 120 0 (.ref (G.2.2.1 + 121))) 120 1 (.ref (G.2.2.1 + 122))) 123 0 (.ref (G.2.2.1 + 124))) 120 2 (.ref (G.2.2.1 + 123))) 125 0 (.ref (G.2.2.1 + 126))) 120 3 (.ref (G.2.2.1 + 125))) 127 0 (.ref (G.2.2.1 + 128))) 120 4 (.ref (G.2.2.1 + 127))) 129 0 (.ref (G.2.2.1 + 130))) 120 5 (.ref (G.2.2.1 + 129))) 131 0 (.ref (G.2.2.1 + 132))) 120 6 (.ref (G.2.2.1 + 131))) 133 0 (.ref (G.2.2.1 + 134))) 120 7 (.ref (G.2.2.1 + 133))) 119 0 (.ref (G.2.2.1 + 120))) 135 0 (.ref (G.2.2.1 + 136))) 135 1 (.ref (G.2.2.1 + 137))) 135 2 (.ref (G.2.2.1 + 138))) 135 3 (.ref (G.2.2.1 + 139))) 135 4 (.ref (G.2.2.1 + 140))) 141 0 (.ref (G.2.2.1 + 142))) 135 5 (.ref (G.2.2.1 + 141))) 143 0 (.ref (G.2.2.1 + 144))) 135 6 (.ref (G.2.2.1 + 143))) 145 0 (.ref (G.2.2.1 + 146))) 135 7 (.ref (G.2.2.1 + 145))) 147 0 (.ref (G.2.2.1 + 148))) 135 8 (.ref (G.2.2.1 + 147))) 149 0 (.ref (G.2.2.1 + 150))) 135 9 (.ref (G.2.2.1 + 149))) 151 0 (.ref (G.2.2.1 + 152))) 135 10 (.ref (G.2.2.1 + 151))) 153 0 (.ref (G.2.2.1 + 154))) 135 11 (.ref (G.2.2.1 + 153))) 155 0 (.ref (G.2.2.1 + 156))) 135 12 (.ref (G.2.2.1 + 155))) 119 1 (.ref (G.2.2.1 + 135))) 158 0 (.ref (G.2.2.1 + 159))) 157 0 (.ref (G.2.2.1 + 158))) 160 0 (.ref (G.2.2.1 + 161))) 157 1 (.ref (G.2.2.1 + 160))) 157 2 (.ref (G.2.2.1 + 162))) 163 0 (.ref (G.2.2.1 + 164))) 157 3 (.ref (G.2.2.1 + 163))) 165 0 (.ref (G.2.2.1 + 166))) 157 4 (.ref (G.2.2.1 + 165))) 167 0 (.ref (G.2.2.1 + 168))) 157 5 (.ref (G.2.2.1 + 167))) 169 0 (.ref (G.2.2.1 + 170))) 157 6 (.ref (G.2.2.1 + 169))) 171 0 (.ref (G.2.2.1 + 172))) 157 7 (.ref (G.2.2.1 + 171))) 173 0 (.ref (G.2.2.1 + 174))) 157 8 (.ref (G.2.2.1 + 173))) 175 0 (.ref (G.2.2.1 + 176))) 157 9 (.ref (G.2.2.1 + 175))) 119 2 (.ref (G.2.2.1 + 157))) 177 0 (.ref (G.2.2.1 + 178))) 119 3 (.ref (G.2.2.1 + 177))) 179 0 (.ref (G.2.2.1 + 180))) 119 4 (.ref (G.2.2.1 + 179))) 181 0 (.ref (G.2.2.1 + 182))) 119 5 (.ref (G.2.2.1 + 181))) 183 0 (.ref (G.2.2.1 + 184))) 119 6 (.ref (G.2.2.1 + 183))) 185 0 (.ref (G.2.2.1 + 186))) 185 1 (.ref (G.2.2.1 + 187))) 119 7 (.ref (G.2.2.1 + 185))) 0 3 (.ref (G.2.2.1 + 119))) 190 0 (.ref (G.2.2.1 + 191))) 189 0 (.ref (G.2.2.1 + 190))) 189 1 (.ref (G.2.2.1 + 192))) 188 0 (.ref (G.2.2.1 + 189))) 193 0 (.ref (G.2.2.1 + 194))) 193 1 (.ref (G.2.2.1 + 195))) 196 0 (.ref (G.2.2.1 + 197))) 193 2 (.ref (G.2.2.1 + 196))) 198 0 (.ref (G.2.2.1 + 199))) 193 3 (.ref (G.2.2.1 + 198))) 200 0 (.ref (G.2.2.1 + 201))) 193 4 (.ref (G.2.2.1 + 200))) 202 0 (.ref (G.2.2.1 + 203))) 193 5 (.ref (G.2.2.1 + 202))) 204 0 (.ref (G.2.2.1 + 205))) 193 6 (.ref (G.2.2.1 + 204))) 206 0 (.ref (G.2.2.1 + 207))) 193 7 (.ref (G.2.2.1 + 206))) 188 1 (.ref (G.2.2.1 + 193))) 188 2 (.ref (G.2.2.1 + 208))) 209 0 (.ref (G.2.2.1 + 210))) 188 3 (.ref (G.2.2.1 + 209))) 211 0 (.ref (G.2.2.1 + 212))) 188 4 (.ref (G.2.2.1 + 211))) 213 0 (.ref (G.2.2.1 + 214))) 188 5 (.ref (G.2.2.1 + 213))) 215 0 (.ref (G.2.2.1 + 216))) 188 6 (.ref (G.2.2.1 + 215))) 217 0 (.ref (G.2.2.1 + 218))) 188 7 (.ref (G.2.2.1 + 217))) 219 0 (.ref (G.2.2.1 + 220))) 188 8 (.ref (G.2.2.1 + 219))) 221 0 (.ref (G.2.2.1 + 222))) 188 9 (.ref (G.2.2.1 + 221))) 223 0 (.ref (G.2.2.1 + 224))) 188 10 (.ref (G.2.2.1 + 223))) 188 11 (.ref (G.2.2.1 + 225))) 188 12 (.ref (G.2.2.1 + 226))) 188 13 (.ref (G.2.2.1 + 227))) 228 0 (.ref (G.2.2.1 + 229))) 228 1 (.ref (G.2.2.1 + 230))) 188 15 (.ref (G.2.2.1 + 228))) 0 4 (.ref (G.2.2.1 + 188))) 0 10 (-1)))) 230 225966 (sF G) := by
  refine sEnter (by decide) (Nat.le_of_ble_eq_true rfl) ?_
  intro p e s m args below meth c Cx hr hlk hnm hW ls hl
  have Cx : sC G p m c cX11_init 1 s args RX11 := Cx
  obtain ⟨hx, hb, hml, hown, hts⟩ := id Cx.1
  have hL : sL G [] := sL_nil
  have hl : lv_has ls 1 [(0, .ref (G.2.2.1 + 0))] := hl
  refine lv_aload_n hx hb dX11_init_0 rfl (lv_at hl 0 rfl) ?_
  refine W.objInit hx hb hown (hts _ w_232) (hts _ w_233) (hts _ w_234) rfl (by rw [hml]; exact hl.1) rfl dX11_init_1 (Nat.le_of_ble_eq_true rfl) (Nat.le_of_ble_eq_true rfl) ?_
  refine W.eq (g2 := F0 m 4 ls []) rfl ?_
  refine lv_aload_n hx hb dX11_init_4 rfl (lv_at hl 0 rfl) ?_
  refine n_X11_7 Cx hW rfl (Nat.le_of_ble_eq_true rfl) (Nat.le_of_ble_eq_true rfl) dX11_init_5 (fun H hW => ?_)
  refine lv_dup hx hb dX11_init_8 rfl ?_
  refine lv_sipush (v := iv 30000) hx hb dX11_init_9 (by decide) ?_
  refine sBv (sIn (As := [.int (iv 30000)]) (rest := [.ref (G.2.2.1 + 1), .ref (G.2.2.1 + 0)]) (k := 1) Cx (t2_X10_init l G S) (c_X11_11 Cx rfl rfl ⟨Nat.le_of_ble_eq_true rfl, Nat.le_of_ble_eq_true rfl⟩) hW rfl hl.1 rfl (Nat.le_of_ble_eq_true rfl) dX11_init_12 ⟨Nat.le_of_ble_eq_true rfl, Nat.le_of_ble_eq_true rfl⟩) hL (fun u H locs hq hW hL => ?_)
  subst hq
  refine p_X11_14 Cx hnm hW hL (k := 0) (by decide) rfl dX11_init_15 (fun H locs hW hL => ?_)
  refine lv_aload_n hx hb dX11_init_18 rfl (lv_at hl 0 rfl) ?_
  refine n_X11_7 Cx hW rfl (Nat.le_of_ble_eq_true rfl) (Nat.le_of_ble_eq_true rfl) dX11_init_19 (fun H hW => ?_)
  refine lv_dup hx hb dX11_init_22 rfl ?_
  refine lv_bipush (v := iv 120) hx hb dX11_init_23 (by decide) ?_
  refine sBv (sIn (As := [.int (iv 120)]) (rest := [.ref (G.2.2.1 + 3), .ref (G.2.2.1 + 0)]) (k := 3) Cx (t3_X10_init l G (uR (uR S 1 0 (.ref (G.2.2.1 + 2))) 0 0 (.ref (G.2.2.1 + 1)))) (c_X11_11 Cx rfl rfl ⟨Nat.le_of_ble_eq_true rfl, Nat.le_of_ble_eq_true rfl⟩) hW rfl hl.1 rfl (Nat.le_of_ble_eq_true rfl) dX11_init_25 ⟨Nat.le_of_ble_eq_true rfl, Nat.le_of_ble_eq_true rfl⟩) hL (fun u H locs hq hW hL => ?_)
  subst hq
  refine p_X11_18 Cx hnm hW hL (k := 0) (by decide) rfl dX11_init_28 (fun H locs hW hL => ?_)
  refine lv_aload_n hx hb dX11_init_31 rfl (lv_at hl 0 rfl) ?_
  refine n_X11_21 Cx hW rfl (Nat.le_of_ble_eq_true rfl) (Nat.le_of_ble_eq_true rfl) dX11_init_32 (fun H hW => ?_)
  refine lv_dup hx hb dX11_init_35 rfl ?_
  refine sBv (sInN (As := []) (rest := [.ref (G.2.2.1 + 5), .ref (G.2.2.1 + 0)]) (k := 5) Cx (t4_X3_init l G (uR (uR (uR (uR S 1 0 (.ref (G.2.2.1 + 2))) 0 0 (.ref (G.2.2.1 + 1))) 3 0 (.ref (G.2.2.1 + 4))) 0 1 (.ref (G.2.2.1 + 3)))) (c_X11_23 Cx rfl rfl ⟨Nat.le_of_ble_eq_true rfl, Nat.le_of_ble_eq_true rfl⟩) hW rfl hl.1 rfl (Nat.le_of_ble_eq_true rfl) dX11_init_36 ⟨Nat.le_of_ble_eq_true rfl, Nat.le_of_ble_eq_true rfl⟩) hL (fun u H locs hq hW hL => ?_)
  subst hq
  refine p_X11_24 Cx hW hL (k := 0) (by decide) rfl dX11_init_39 (fun H locs hW hL => ?_)
  refine lv_aload_n hx hb dX11_init_42 rfl (lv_at hl 0 rfl) ?_
  refine n_X11_21 Cx hW rfl (Nat.le_of_ble_eq_true rfl) (Nat.le_of_ble_eq_true rfl) dX11_init_43 (fun H hW => ?_)
  refine lv_dup hx hb dX11_init_46 rfl ?_
  refine sBv (sInN (As := []) (rest := [.ref (G.2.2.1 + 8), .ref (G.2.2.1 + 0)]) (k := 8) Cx (t5_X3_init l G (uR (uR (uR (uR (uR (uR (uR S 1 0 (.ref (G.2.2.1 + 2))) 0 0 (.ref (G.2.2.1 + 1))) 3 0 (.ref (G.2.2.1 + 4))) 0 1 (.ref (G.2.2.1 + 3))) 5 0 (.ref (G.2.2.1 + 6))) 5 1 (.ref (G.2.2.1 + 7))) 0 5 (.ref (G.2.2.1 + 5)))) (c_X11_23 Cx rfl rfl ⟨Nat.le_of_ble_eq_true rfl, Nat.le_of_ble_eq_true rfl⟩) hW rfl hl.1 rfl (Nat.le_of_ble_eq_true rfl) dX11_init_47 ⟨Nat.le_of_ble_eq_true rfl, Nat.le_of_ble_eq_true rfl⟩) hL (fun u H locs hq hW hL => ?_)
  subst hq
  refine p_X11_28 Cx hW hL (k := 0) (by decide) rfl dX11_init_50 (fun H locs hW hL => ?_)
  refine lv_aload_n hx hb dX11_init_53 rfl (lv_at hl 0 rfl) ?_
  refine n_X11_31 Cx hW rfl (Nat.le_of_ble_eq_true rfl) (Nat.le_of_ble_eq_true rfl) dX11_init_54 (fun H hW => ?_)
  refine lv_dup hx hb dX11_init_57 rfl ?_
  refine sBv (sInN (As := []) (rest := [.ref (G.2.2.1 + 11), .ref (G.2.2.1 + 0)]) (k := 11) Cx (t6_X9_init l G (uR (uR (uR (uR (uR (uR (uR (uR (uR (uR S 1 0 (.ref (G.2.2.1 + 2))) 0 0 (.ref (G.2.2.1 + 1))) 3 0 (.ref (G.2.2.1 + 4))) 0 1 (.ref (G.2.2.1 + 3))) 5 0 (.ref (G.2.2.1 + 6))) 5 1 (.ref (G.2.2.1 + 7))) 0 5 (.ref (G.2.2.1 + 5))) 8 0 (.ref (G.2.2.1 + 9))) 8 1 (.ref (G.2.2.1 + 10))) 0 6 (.ref (G.2.2.1 + 8)))) (c_X11_33 Cx rfl rfl ⟨Nat.le_of_ble_eq_true rfl, Nat.le_of_ble_eq_true rfl⟩) hW rfl hl.1 rfl (Nat.le_of_ble_eq_true rfl) dX11_init_58 ⟨Nat.le_of_ble_eq_true rfl, Nat.le_of_ble_eq_true rfl⟩) hL (fun u H locs hq hW hL => ?_)
  subst hq
  refine p_X11_34 Cx hnm hW hL (k := 0) (by decide) rfl dX11_init_61 (fun H locs hW hL => ?_)
  refine lv_aload_n hx hb dX11_init_64 rfl (lv_at hl 0 rfl) ?_
  refine n_X11_38 Cx hW rfl (Nat.le_of_ble_eq_true rfl) (Nat.le_of_ble_eq_true rfl) dX11_init_65 (fun H hW => ?_)
  refine lv_dup hx hb dX11_init_68 rfl ?_
  refine sBv (sInN (As := []) (rest := [.ref (G.2.2.1 + 119), .ref (G.2.2.1 + 0)]) (k := 119) Cx (t9_X7_init l G (uR (uR (uR (uR (uR (uR (sMk G.2.2.1 (uR (sMk G.2.2.1 (uR (sMk G.2.2.1 (uR (uR (uR (uR (uR (uR (uR (uR (uR (uR (uR (uR (uR (uR (uR (uR (uR S 1 0 (.ref (G.2.2.1 + 2))) 0 0 (.ref (G.2.2.1 + 1))) 3 0 (.ref (G.2.2.1 + 4))) 0 1 (.ref (G.2.2.1 + 3))) 5 0 (.ref (G.2.2.1 + 6))) 5 1 (.ref (G.2.2.1 + 7))) 0 5 (.ref (G.2.2.1 + 5))) 8 0 (.ref (G.2.2.1 + 9))) 8 1 (.ref (G.2.2.1 + 10))) 0 6 (.ref (G.2.2.1 + 8))) 12 0 (.ref (G.2.2.1 + 13))) 12 1 (.ref (G.2.2.1 + 14))) 12 2 (.ref (G.2.2.1 + 15))) 11 0 (.ref (G.2.2.1 + 12))) 11 1 (.ref (G.2.2.1 + 16))) 11 2 (.ref (G.2.2.1 + 17))) 11 3 (.ref (G.2.2.1 + 18))) 19 31) 11 4 (.ref (G.2.2.1 + 19))) 51 31) 11 5 (.ref (G.2.2.1 + 51))) 83 31) 11 6 (.ref (G.2.2.1 + 83))) 11 7 (.ref (G.2.2.1 + 115))) 116 0 (.ref (G.2.2.1 + 117))) 116 1 (.ref (G.2.2.1 + 118))) 11 8 (.ref (G.2.2.1 + 116))) 0 2 (.ref (G.2.2.1 + 11)))) (c_X11_40 Cx rfl rfl ⟨Nat.le_of_ble_eq_true rfl, Nat.le_of_ble_eq_true rfl⟩) hW rfl hl.1 rfl (Nat.le_of_ble_eq_true rfl) dX11_init_69 ⟨Nat.le_of_ble_eq_true rfl, Nat.le_of_ble_eq_true rfl⟩) hL (fun u H locs hq hW hL => ?_)
  subst hq
  refine p_X11_41 Cx hnm hW hL (k := 0) (by decide) rfl dX11_init_72 (fun H locs hW hL => ?_)
  refine lv_aload_n hx hb dX11_init_75 rfl (lv_at hl 0 rfl) ?_
  refine n_X11_45 Cx hW rfl (Nat.le_of_ble_eq_true rfl) (Nat.le_of_ble_eq_true rfl) dX11_init_76 (fun H hW => ?_)
  refine lv_dup hx hb dX11_init_79 rfl ?_
  refine sBv (sInN (As := []) (rest := [.ref (G.2.2.1 + 188), .ref (G.2.2.1 + 0)]) (k := 188) Cx (t41_X1_init l G (uR (uR (uR (uR (uR (uR (uR (uR (uR (uR (uR (uR (uR (uR (uR (uR (uR (uR (uR (uR (uR (uR (uR (uR (uR (uR (uR (uR (uR (uR (uR (uR (uR (uR (uR (uR (uR (uR (uR (uR (uR (uR (uR (uR (uR (uR (uR (uR (uR (uR (uR (uR (uR (uR (uR (uR (uR (uR (uR (uR (uR (uR (uR (uR (uR (uR (uR (uR (uR (uR (uR (uR (uR (uR (uR (sMk G.2.2.1 (uR (sMk G.2.2.1 (uR (sMk G.2.2.1 (uR (uR (uR (uR (uR (uR (uR (uR (uR (uR (uR (uR (uR (uR (uR (uR (uR S 1 0 (.ref (G.2.2.1 + 2))) 0 0 (.ref (G.2.2.1 + 1))) 3 0 (.ref (G.2.2.1 + 4))) 0 1 (.ref (G.2.2.1 + 3))) 5 0 (.ref (G.2.2.1 + 6))) 5 1 (.ref (G.2.2.1 + 7))) 0 5 (.ref (G.2.2.1 + 5))) 8 0 (.ref (G.2.2.1 + 9))) 8 1 (.ref (G.2.2.1 + 10))) 0 6 (.ref (G.2.2.1 + 8))) 12 0 (.ref (G.2.2.1 + 13))) 12 1 (.ref (G.2.2.1 + 14))) 12 2 (.ref (G.2.2.1 + 15))) 11 0 (.ref (G.2.2.1 + 12))) 11 1 (.ref (G.2.2.1 + 16))) 11 2 (.ref (G.2.2.1 + 17))) 11 3 (.ref (G.2.2.1 + 18))) 19 31) 11 4 (.ref (G.2.2.1 + 19))) 51 31) 11 5 (.ref (G.2.2.1 + 51))) 83 31) 11 6 (.ref (G.2.2.1 + 83))) 11 7 (.ref (G.2.2.1 + 115))) 116 0 (.ref (G.2.2.1 + 117))) 116 1 (.ref (G.2.2.1 + 118))) 11 8 (.ref (G.2.2.1 + 116))) 0 2 (.ref (G.2.2.1 + 11))) 120 0 (.ref (G.2.2.1 + 121))) 120 1 (.ref (G.2.2.1 + 122))) 123 0 (.ref (G.2.2.1 + 124))) 120 2 (.ref (G.2.2.1 + 123))) 125 0 (.ref (G.2.2.1 + 126))) 120 3 (.ref (G.2.2.1 + 125))) 127 0 (.ref (G.2.2.1 + 128))) 120 4 (.ref (G.2.2.1 + 127))) 129 0 (.ref (G.2.2.1 + 130))) 120 5 (.ref (G.2.2.1 + 129))) 131 0 (.ref (G.2.2.1 + 132))) 120 6 (.ref (G.2.2.1 + 131))) 133 0 (.ref (G.2.2.1 + 134))) 120 7 (.ref (G.2.2.1 + 133))) 119 0 (.ref (G.2.2.1 + 120))) 135 0 (.ref (G.2.2.1 + 136))) 135 1 (.ref (G.2.2.1 + 137))) 135 2 (.ref (G.2.2.1 + 138))) 135 3 (.ref (G.2.2.1 + 139))) 135 4 (.ref (G.2.2.1 + 140))) 141 0 (.ref (G.2.2.1 + 142))) 135 5 (.ref (G.2.2.1 + 141))) 143 0 (.ref (G.2.2.1 + 144))) 135 6 (.ref (G.2.2.1 + 143))) 145 0 (.ref (G.2.2.1 + 146))) 135 7 (.ref (G.2.2.1 + 145))) 147 0 (.ref (G.2.2.1 + 148))) 135 8 (.ref (G.2.2.1 + 147))) 149 0 (.ref (G.2.2.1 + 150))) 135 9 (.ref (G.2.2.1 + 149))) 151 0 (.ref (G.2.2.1 + 152))) 135 10 (.ref (G.2.2.1 + 151))) 153 0 (.ref (G.2.2.1 + 154))) 135 11 (.ref (G.2.2.1 + 153))) 155 0 (.ref (G.2.2.1 + 156))) 135 12 (.ref (G.2.2.1 + 155))) 119 1 (.ref (G.2.2.1 + 135))) 158 0 (.ref (G.2.2.1 + 159))) 157 0 (.ref (G.2.2.1 + 158))) 160 0 (.ref (G.2.2.1 + 161))) 157 1 (.ref (G.2.2.1 + 160))) 157 2 (.ref (G.2.2.1 + 162))) 163 0 (.ref (G.2.2.1 + 164))) 157 3 (.ref (G.2.2.1 + 163))) 165 0 (.ref (G.2.2.1 + 166))) 157 4 (.ref (G.2.2.1 + 165))) 167 0 (.ref (G.2.2.1 + 168))) 157 5 (.ref (G.2.2.1 + 167))) 169 0 (.ref (G.2.2.1 + 170))) 157 6 (.ref (G.2.2.1 + 169))) 171 0 (.ref (G.2.2.1 + 172))) 157 7 (.ref (G.2.2.1 + 171))) 173 0 (.ref (G.2.2.1 + 174))) 157 8 (.ref (G.2.2.1 + 173))) 175 0 (.ref (G.2.2.1 + 176))) 157 9 (.ref (G.2.2.1 + 175))) 119 2 (.ref (G.2.2.1 + 157))) 177 0 (.ref (G.2.2.1 + 178))) 119 3 (.ref (G.2.2.1 + 177))) 179 0 (.ref (G.2.2.1 + 180))) 119 4 (.ref (G.2.2.1 + 179))) 181 0 (.ref (G.2.2.1 + 182))) 119 5 (.ref (G.2.2.1 + 181))) 183 0 (.ref (G.2.2.1 + 184))) 119 6 (.ref (G.2.2.1 + 183))) 185 0 (.ref (G.2.2.1 + 186))) 185 1 (.ref (G.2.2.1 + 187))) 119 7 (.ref (G.2.2.1 + 185))) 0 3 (.ref (G.2.2.1 + 119)))) (c_X11_47 Cx rfl rfl ⟨Nat.le_of_ble_eq_true rfl, Nat.le_of_ble_eq_true rfl⟩) hW rfl hl.1 rfl (Nat.le_of_ble_eq_true rfl) dX11_init_80 ⟨Nat.le_of_ble_eq_true rfl, Nat.le_of_ble_eq_true rfl⟩) hL (fun u H locs hq hW hL => ?_)
  subst hq
  refine p_X11_48 Cx hnm hW hL (k := 0) (by decide) rfl dX11_init_83 (fun H locs hW hL => ?_)
  refine lv_aload_n hx hb dX11_init_86 rfl (lv_at hl 0 rfl) ?_
  refine lv_iconst (v := iv (-1)) hx hb dX11_init_87 (by decide) ?_
  refine p_X11_52 Cx hW hL (k := 0) (by decide) rfl dX11_init_88 (fun H locs hW hL => ?_)
  exact sVret Cx hr hlk hW hL rfl dX11_init_91

theorem whole_start {p : Program} {e : Env} {s : State} {m : MethodId} {below : List Frame} {meth : Method} {c : Code} (l : Launch) {b L : Nat} {xs : Nat → Int32} (hL6 : L ≤ 3072) (C0 : lw_At p s m meth c b L xs) : W p l e room_1 s m #[Value.ref b] below meth c s.heap [] 0 0 (lw_Z below #[Value.ref b] s) (entryFrame m ([Value.ref b] : List Value).toArray 4) := whole0 t1_X11_init l hL6 C0
set_option maxHeartbeats 4000000 in
theorem lw_walk (l : Launch) (b : Addr) (xs : List Int32) : MetFree l x (headSpec (Jvm.Cond.code x code maxLocals ret :: tables_1) room_1) (lw_P b xs) (fun _ _ _ _ _ => True) lw_Q := by
  refine MetFree.of_bodyS (code := code) (maxLocals := maxLocals) (ret := ret) (by decide) ?_ ?_
  · intro args s m h hn
    obtain ⟨meth, c, h1, h2, h3, h4, h5, h6, -, -⟩ := Cond.code_spec hn (atoms_spec (ws := Jvm.Cond.code x code maxLocals ret :: tables_1) h _ List.mem_cons_self)
    exact ⟨meth, c, h1, h2, h3, h4, h5, h6⟩
  · intro p e s m args below meth c s₁ B hml0 hP _
    obtain ⟨rfl, hx, hbd, hgv⟩ := hP
    obtain ⟨scr, harrAt, hlist, hof, hsmall⟩ := hx
    obtain ⟨hcb, hkn, -, -⟩ := State.arrayAt?_spec harrAt
    have hown : s.vm.findClass R_law = some m.cls := findClass_of_methodNamed B.named
    have hts0 : ∀ c ∈ (Jvm.Cond.code x code maxLocals ret :: tables_1), c.before #[Value.ref b] s = true := atoms_spec (ws := Jvm.Cond.code x code maxLocals ret :: tables_1) B.pre
    have hts : ∀ w ∈ lw_tbl, w.before #[Value.ref b] s = true := k2_hts_sels lw_privs (fun w hw => hts0 w (List.mem_cons_of_mem _ hw)) lw_privs_ok
    have hml : c.maxLocals = 4 := B.maxLocals_eq (hts0 _ List.mem_cons_self)
    have X₀ : Stand p l e room_1 s m #[Value.ref b] below meth c s₁ [] 0 0 := Stand.of_body B
    have hh0 : s₁.heap = s.heap := by rw [B.state]; rfl
    have hsz : scr.slots.size = xs.length := by rw [← Array.length_toList, hlist, List.length_map]
    have hval : ∀ j : Nat, j < xs.length → scr.slots[j]? = some (.int (xs.getD j 0)) := fun j hj => by
      rw [← Array.getElem?_toList, hlist]
      simp [hj]
    have hbl : b < s.heap.size := (Array.getElem?_eq_some_iff.mp hcb).1
    have hX : va_X b xs.length (fun j => xs.getD j 0) s s.heap := ⟨scr, hcb, hof, hkn, hsz, hval⟩
    have K : W p l e room_1 s m #[Value.ref b] below meth c s₁.heap [] 0 0 (lw_Z below #[Value.ref b] s) (entryFrame m ([Value.ref b] : List Value).toArray 4) := by
      rw [hh0]
      exact whole_start l hbd ⟨B.exec, B.bytes, B.returns, hml, hown, hts, hX, hbl, B.notSynchronized, hgv⟩
    obtain ⟨t, a1, o, b1, b2, b3⟩ := K s₁ rfl X₀
    exact ⟨t, o, a1, b1, b2, b3⟩
theorem lw_pre_spec {args : Array Value} {s : State} (h : (Jvm.Cond.and given_1 narrow_1).before args s = true) (hr : rest_1_c.before args s = true) : ∃ (b : Addr) (xs : List Int32), lw_P b xs args s := by
  have hs := flat_of_before _ h
  have hq := flat_of_before _ hr
  have hc : (Cond.count 1).before args s = true := hs _ (by decide +kernel)
  have harr : (Cond.arrayOf (.arg 0) .int).before args s = true := hs _ (by decide +kernel)
  have hle : (Cond.le (.length (.arg 0)) (.int 3072)).before args s = true := hs _ (by decide +kernel)
  have hlen : (Cond.isInt (.length (.arg 0))).before args s = true := hq _ (by decide +kernel)
  have hall : (Cond.all (.arg 0) (.isInt (.elem (.arg 0) (.index 0)))).before args s = true := hq _ (by decide +kernel)
  obtain ⟨b, xs, hb, hx⟩ := State.ints_of_pre rfl harr hlen hall
  have hsm : xs.length < 2 ^ 31 := hx.choose_spec.2.2.2
  have hev : (Term.length (.arg 0)).eval args s none [] s = some (.int xs.length.toInt32) := hx.length_eval hb
  have hv := Cond.le_ints hev (show (Term.int 3072).eval args s none [] s = some (.int 3072) from rfl)
  have hd : xs.length.toInt32 ≤ 3072 := by
    simpa [Cond.before, Cond.holds, hv] using hle
  have hN : xs.length ≤ 3072 := (Int32.ofNat_le_ofNat hsm (by decide)).mp (show Int32.ofNat xs.length ≤ Int32.ofNat 3072 from hd)
  exact ⟨b, xs, Cond.one_arg hc (show args[0]? = some (.ref b) from hb), hx, hN, h⟩
theorem lw_comes (l : Launch) : Comes l x (Jvm.Cond.code x code maxLocals ret :: tables_1) room_1 (fun tb e args s => Calls_1 tb e args s ∧ rest_1 tb e args s ∧ Pre_1 tb e args s)
    (fun _ _ args s o t => lw_Q args s o t) := by
  intro p e ha hc hk s m args below hf hfit hheap happ hpre
  obtain ⟨b, xs, hP⟩ := lw_pre_spec hpre.2.2 hpre.2.1
  obtain ⟨k, o, h1, h2, h3, hQ⟩ := lw_walk l b xs p e ha hc hk s m args below hf ((Spec.applies_iff_loose hf).mp happ).1 hP trivial
  exact ⟨k, o, h1, h2, h3, hQ⟩
theorem lw_frame {s t : State} {o : Outcome} {args : Array Value} (h : Framed s o t [] 600000 7302250) :
    Framed s o t (fieldLocs frame_1_writes args s ++ arrayLocs frame_1_arrays args s ++ staticLocs frame_1_statics s) 600000 7302250 := h
theorem lw_limb (L : Cond) (hL : ∀ (args : Array Value) (s t : State), L.after args s (.returned (some (.int 1))) t = true) :
    ArmFor flags0 classFile x code maxLocals ret World_1 tables_1 room_1 Calls_1 rest_1 Pre_1
      (fun tb e a s o t => postC L tb e a s o t ∧ Framed s o t (fieldLocs frame_1_writes a s ++ arrayLocs frame_1_arrays a s ++ staticLocs frame_1_statics s) 600000 7302250) := by
  intro l _ _ _ p e ha hc hk s m args below hf hfit hheap happ hpre
  obtain ⟨k, o, h1, h2, h3, rfl, hF⟩ := lw_comes l p e ha hc hk s m args below hf hfit hheap happ hpre
  exact ⟨k, _, h1, h2, h3, hL args s _, lw_frame hF⟩
theorem i_vc : Claimed_1_1 ∧ Claimed_1_2 := ⟨lw_limb limb_1_1 (fun args s t => by simp [limb_1_1, Cond.after, Cond.holds, Cond.value]), lw_limb limb_1_2 (fun args s t => Cond.after_iff.mpr (by
  first | (rw [show limb_1_2 = Cond.eq .result (.int 1) from rfl, Cond.eq_ints (x := 1) (y := 1) rfl rfl]; simp; done) | (simp [limb_1_2, Cond.value, Term.eval]; done)))⟩
