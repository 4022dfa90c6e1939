/-! the types of tagged slots, 84c (own work) -/
theorem wr_2A : wini4 (fun M x m o => wceF 11 0 mc_ktn M (wacc M x m o)) = true := by decide +kernel
theorem wr_2B : wini4 (fun M x m o => wceF 11 2048 mc_ktn M (wacc M x m o) && wceF 12 4096 mc_ktn M (wacc M x m o)) = true := by decide +kernel
