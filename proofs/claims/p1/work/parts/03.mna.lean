/-! new long[n][k] -/
theorem vr_outer (c : ClassId) (N h0 : Nat) : ∀ i : Nat, Jvm.Free.Multi.outerC c N h0 i = arrV c N (fun j => va_rf (if j < i then some (h0 + 1 + j) else none))
  | 0 => by
    show ({ cls := c, slots := Array.replicate N .null, vm := .none } : Cell) = _
    rw [arrV_new]
    refine congrArg (arrV c N) (funext fun j => ?_)
    simp [va_rf]
  | i + 1 => by
    show (Jvm.Free.Multi.outerC c N h0 i).setSlot i (.ref (h0 + 1 + i)) = _
    rw [vr_outer c N h0 i, arrV_store]
    refine congrArg (arrV c N) (funext fun j => ?_)
    by_cases e : j = i
    · subst e
      simp [updV, va_rf]
    · by_cases h : j < i
      · simp [updV, e, h, Nat.lt_succ_of_lt h]
      · simp [updV, e, h, show ¬ j < i + 1 by omega]
def sM (b : Nat) (S : sS) (n N : Nat) : sS := (S.1, S.2.1, fun q i => cond (Nat.beq q n && Nat.blt i N) (.ref (b + n + 1 + i)) (S.2.2 q i))
theorem sM_off {b : Nat} {S : sS} {n N : Nat} (ty : FieldType) (q i : Nat) (h : q ≠ n) : sv (sM b S n N) ty q i = sv S ty q i := by
  have e : Nat.beq q n = false := by
    cases h1 : Nat.beq q n with
    | false => rfl
    | true => exact absurd (Nat.eq_of_beq_eq_true h1) h
  cases ty <;> simp [sv, sM, e]
section SVM
variable {p : Program} {l : Launch} {e : Env} {R : Room} {s : State} {m : MethodId} {args : Array Value} {below : List Frame} {meth : Method} {c : Code} {H : Heap} {locs : List Loc} {cells slots : Nat} {Q : State → Prop}
variable {cc : ByteArray} {pc nL : Nat} {ls : Array Slot} {rest st0 : List Value} {G : sG} {n : Nat} {S : sS} {own : String}
theorem sMna (Cx : sC G p m c cc nL s args own) {index : Nat} (hcl : Cond.classLink own index ("[" ++ (FieldType.array .long).toString) ∈ tb) (harr : Cond.arrayClass .long ∈ tb) (hW : sW G n S H) {x k : Int32} {N K : Nat} (hx0 : ¬ x < 0) (hk0 : ¬ k < 0) (hN : x.toNatClampNeg = N) (hK1 : k.toNatClampNeg = K) (ht : tau n = .inr (.array .long, N)) (hti : ∀ i, i < N → tau (n + 1 + i) = .inr (.long, K))
    (hb1 : N * 4 ≤ 536870912) (hb2 : K * componentBytes .long ≤ 536870912) (hb3 : K ≤ 536870912) (hcells : cells + (1 + N) ≤ R.cells) (hslots : slots + (N + N * K) ≤ R.slots) (hdg : decode cc pc = .ok (.multianewarray index 2, 4))
    (kk : ∀ H1 : Heap, sW G (n + 1 + N) (sM G.2.2.1 S n N) H1 → W p l e R s m args below meth c H1 locs (cells + 1 + N) (slots + N + N * K) Q (F0 m (pc + 4) ls (.ref (G.2.2.1 + n) :: rest))) : W p l e R s m args below meth c H locs cells slots Q (F0 m pc ls (.int k :: .int x :: rest)) := by
  obtain ⟨⟨hx, hb, hml, hown, hts⟩, hK, hN1, hov⟩ := Cx
  subst hN
  subst hK1
  intro T hT Xs
  obtain ⟨vm₁, cA, comp, -, fA, fC, hO, -, X', step⟩ := Xs.multianewarray2F hx hown (hts _ hcl) (show (Cond.arrayOver (.array .long)).before args s = true from hov) (hts _ harr) (g := F0 m pc ls (.int k :: .int x :: rest)) rfl (by rw [hb]; exact hdg) rfl hx0 hk0 hb1 hb2 hb3 rfl rfl hcells hslots
  have eA : cA = G.2.1 (.array .long) := Option.some.inj (fA.symm.trans (sArr hK 4 rfl).2)
  have eC : comp = G.2.1 .long := Option.some.inj (fC.symm.trans (sArr hK 1 rfl).2)
  subst eA
  subst eC
  generalize hF : Jvm.Free.Multi.fill (T.setVm vm₁) (G.2.1 (.array .long)) (G.2.1 .long) x.toNatClampNeg k.toNatClampNeg (defaultValue .long) x.toNatClampNeg = F at X' step
  have hTh : (T.setVm vm₁).heap = H := hT
  obtain ⟨f1, f2, -, -⟩ := Jvm.Free.Multi.fill_facts (T.setVm vm₁) (G.2.1 (.array .long)) (G.2.1 .long) x.toNatClampNeg k.toNatClampNeg (defaultValue .long) x.toNatClampNeg
  rw [hF, hTh] at f1 f2
  have hold : ∀ q : Nat, q < H.size → F.heap[q]? = H[q]? := fun q hq => by
    have := Jvm.Free.Multi.fill_old (T.setVm vm₁) (G.2.1 (.array .long)) (G.2.1 .long) x.toNatClampNeg k.toNatClampNeg (defaultValue .long) (a := q) (by rw [hTh]; exact hq) x.toNatClampNeg
    rw [hF, hTh] at this
    exact this
  have hrow : ∀ j : Nat, j < x.toNatClampNeg → F.heap[H.size + 1 + j]? = some (Jvm.Free.Multi.innerC (G.2.1 .long) k.toNatClampNeg (defaultValue .long)) := fun j hj => by
    have := Jvm.Free.Multi.fill_inner (T.setVm vm₁) (G.2.1 (.array .long)) (G.2.1 .long) x.toNatClampNeg k.toNatClampNeg (defaultValue .long) x.toNatClampNeg j hj
    rw [hF, hTh] at this
    exact this
  rw [vr_outer] at f2
  have hsz := hW.1
  have w : sW G (n + 1 + x.toNatClampNeg) (sM G.2.2.1 S n x.toNatClampNeg) F.heap := by
    refine ⟨by rw [f1, hsz]; omega, fun q hq => (hold q (by omega)).trans (hW.2.1 q hq), fun a ha => ?_, fun a ha => ?_⟩
    · by_cases h1 : a < n
      · exact (hW.2.2.1 a h1).kept (hold _ (by omega)) (fun ty i => sM_off ty a i (by omega))
      · by_cases h2 : a = n
        · subst h2
          rw [ht]
          show F.heap[G.2.2.1 + a]? = some (arrV _ _ _)
          rw [← hsz, f2]
          congr 2
          funext j
          by_cases hj : j < x.toNatClampNeg
          · have hj1 : Nat.blt j x.toNatClampNeg = true := Nat.blt_eq.mpr hj
            simp [sv, sM, va_rf, hj, hj1, hsz]
          · have hz := (hW.2.2.2 a (Nat.le_refl a)).2.2 j
            have hj2 : Nat.blt j x.toNatClampNeg = false := by
              cases h9 : Nat.blt j x.toNatClampNeg with
              | false => rfl
              | true => exact absurd (Nat.blt_eq.mp h9) hj
            simp [sv, sM, va_rf, hj, hj2, hz]
        · obtain ⟨i, rfl⟩ : ∃ i, a = n + 1 + i := ⟨a - (n + 1), by omega⟩
          rw [hti i (by omega)]
          show F.heap[G.2.2.1 + (n + 1 + i)]? = some (arrV _ _ _)
          have e9 : G.2.2.1 + (n + 1 + i) = H.size + 1 + i := by omega
          rw [e9, hrow i (by omega)]
          show some ({ cls := G.2.1 .long, slots := Array.replicate k.toNatClampNeg (defaultValue .long), vm := .none } : Cell) = _
          rw [arrV_new]
          congr 2
          funext j
          rw [sM_off _ _ _ (by omega)]
          exact ((hW.2.2.2 (n + 1 + i) (by omega)).dflt rfl j).symm
    · have hz := hW.2.2.2 a (by omega)
      have e9 : Nat.beq a n = false := by
        cases h9 : Nat.beq a n with
        | false => rfl
        | true => exact absurd (Nat.eq_of_beq_eq_true h9) (by omega)
      exact ⟨hz.1, hz.2.1, fun i => by simp [sM, e9, hz.2.2 i]⟩
  obtain ⟨t, a1, b1⟩ := kk F.heap w F rfl X'
  refine ⟨t, step t ?_, b1⟩
  have e2 : T.heap.size = G.2.2.1 + n := by rw [hT]; exact hsz
  rw [e2]
  exact a1
end SVM
