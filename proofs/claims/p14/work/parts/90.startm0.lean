theorem w_228 : Cond.instantiable RX11 11 ∈ tb := tbc_1 25 (by decide +kernel) rfl
theorem w_1953 : Cond.instantiable RX12 105 ∈ tb := tbc_8 70 (by decide +kernel) rfl
