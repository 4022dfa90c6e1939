/-! the types of all tagged slots (own work) -/
theorem wr_c0 : wini4 (fun M x m o => wceR 11 0 mc_ktn M (wacc M x m o)) = true := by decide +kernel
theorem wr_c1 : wini4 (fun M x m o => wceR 11 2048 mc_ktn M (wacc M x m o) && wceR 12 4096 mc_ktn M (wacc M x m o)) = true := by decide +kernel
theorem wr_c2 : wini4 (fun M x m o => wceR 13 8192 mc_ktn M (wacc M x m o)) = true := by decide +kernel
theorem wr_c3 : wini4 (fun M x m o => wceR 12 16384 mc_ktn M (wacc M x m o)) = true := by decide +kernel
