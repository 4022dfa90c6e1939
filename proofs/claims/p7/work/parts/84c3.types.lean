/-! the types of all tagged slots, the last ones (own work) -/
theorem wr_c3 : wini4 (fun M x m o => wceF 12 16384 mc_ktn M (wacc M x m o)) = true := by decide +kernel
