/-! the types of all tagged slots (own work) -/
theorem wr_c0 : wini4 (fun M x m o => wceF 11 0 mc_ktn M (wacc M x m o)) = true := by decide +kernel
theorem wr_c1 : wini4 (fun M x m o => wceF 11 2048 mc_ktn M (wacc M x m o) && wceF 12 4096 mc_ktn M (wacc M x m o)) = true := by decide +kernel
