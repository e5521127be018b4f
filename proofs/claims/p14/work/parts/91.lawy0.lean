theorem dL_law_0 : decode cL_law 0 = .ok (.new 7, 3) := by decide +kernel
theorem dL_law_3 : decode cL_law 3 = .ok (.dup, 1) := by decide +kernel
theorem dL_law_4 : decode cL_law 4 = .ok (.invokespecial 9, 3) := by decide +kernel
theorem dL_law_7 : decode cL_law 7 = .ok (.astore_n 1, 1) := by decide +kernel
theorem dL_law_8 : decode cL_law 8 = .ok (.new 10, 3) := by decide +kernel
theorem dL_law_11 : decode cL_law 11 = .ok (.dup, 1) := by decide +kernel
theorem dL_law_12 : decode cL_law 12 = .ok (.invokespecial 12, 3) := by decide +kernel
theorem dL_law_15 : decode cL_law 15 = .ok (.astore_n 2, 1) := by decide +kernel
theorem dL_law_16 : decode cL_law 16 = .ok (.iconst 0, 1) := by decide +kernel
theorem dL_law_17 : decode cL_law 17 = .ok (.istore_n 3, 1) := by decide +kernel
theorem w_227 : Cond.classLink RL 7 RX11 ∈ tb := tbc_1 24 (by decide +kernel) rfl
theorem w_229 : Cond.methodLink RL 9 yX11_init ∈ tb := tbc_1 26 (by decide +kernel) rfl
theorem w_230 : Cond.instanceMethod yX11_init ∈ tb := tbc_1 27 (by decide +kernel) rfl
theorem w_231 : Cond.code yX11_init cX11_init 1 none ∈ tb := tbc_1 28 (by decide +kernel) rfl
theorem w_1952 : Cond.classLink RL 10 RX12 ∈ tb := tbc_8 69 (by decide +kernel) rfl
theorem w_1954 : Cond.methodLink RL 12 yX12_init ∈ tb := tbc_8 71 (by decide +kernel) rfl
theorem w_1955 : Cond.instanceMethod yX12_init ∈ tb := tbc_8 72 (by decide +kernel) rfl
theorem w_1956 : Cond.code yX12_init cX12_init 1 none ∈ tb := tbc_8 73 (by decide +kernel) rfl
section RW91
variable {p : Program} {l : Launch} {e : Env} {R : Room} {s : State} {m : MethodId} {args : Array Value} {below : List Frame} {meth : Method} {c : Code} {H : Heap} {locs : List Loc} {cells slots : Nat} {Q : State → Prop}
variable {cc : ByteArray} {pc nL : Nat} {ls : Array Slot} {rest st0 : List Value} {G : sG} {n : Nat} {S : sS}
theorem n_L_7 (Cx : sC G p m c cc nL s args RL) (hW : sW G n S H) (ht : tau n = .inl 11) (hcells : cells + 1 ≤ R.cells) (hslots : slots + 11 ≤ R.slots) (hdg : decode cc pc = .ok (.new 7, 3)) (kk : ∀ H1 : Heap, sW G (n + 1) S H1 → W p l e R s m args below meth c H1 locs (cells + 1) (slots + 11) Q (F0 m (pc + 3) ls (.ref (G.2.2.1 + n) :: rest))) : W p l e R s m args below meth c H locs cells slots Q (F0 m pc ls rest) :=
  sNew (ci := 11) Cx inX11 tyX11_ok rfl w_227 w_228 w_204 hW ht (by decide) hcells hslots hdg kk
theorem n_L_10 (Cx : sC G p m c cc nL s args RL) (hW : sW G n S H) (ht : tau n = .inl 12) (hcells : cells + 1 ≤ R.cells) (hslots : slots + 105 ≤ R.slots) (hdg : decode cc pc = .ok (.new 10, 3)) (kk : ∀ H1 : Heap, sW G (n + 1) S H1 → W p l e R s m args below meth c H1 locs (cells + 1) (slots + 105) Q (F0 m (pc + 3) ls (.ref (G.2.2.1 + n) :: rest))) : W p l e R s m args below meth c H locs cells slots Q (F0 m pc ls rest) :=
  sNew (ci := 12) Cx inX12 tyX12_ok rfl w_1952 w_1953 w_217 hW ht (by decide) hcells hslots hdg kk
theorem c_L_9 (Cx : sC G p m c cc nL s args RL) {rm : Room} {mc ms : Nat} (h1 : rm.cells = mc) (h2 : rm.slots = ms) (h3 : rm.frames + 1 ≤ R.frames ∧ 8 + (1 + 11) + rm.locals ≤ R.locals) : CallB R s args RL 9 yX11_init cX11_init 1 none (.code yX11_init cX11_init 1 none :: tb) rm mc ms 0 ∧ yX11_init.name = "<init>" ∧ (Cond.instanceMethod yX11_init).before args s = true :=
  sCI Cx 0 w_229 w_230 w_204 w_231 rfl (by decide +kernel) h1 h2 h3
theorem c_L_12 (Cx : sC G p m c cc nL s args RL) {rm : Room} {mc ms : Nat} (h1 : rm.cells = mc) (h2 : rm.slots = ms) (h3 : rm.frames + 1 ≤ R.frames ∧ 8 + (1 + 11) + rm.locals ≤ R.locals) : CallB R s args RL 12 yX12_init cX12_init 1 none (.code yX12_init cX12_init 1 none :: tb) rm mc ms 0 ∧ yX12_init.name = "<init>" ∧ (Cond.instanceMethod yX12_init).before args s = true :=
  sCI Cx 0 w_1954 w_1955 w_217 w_1956 rfl (by decide +kernel) h1 h2 h3
end RW91
