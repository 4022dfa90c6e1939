/-! the types of tagged slots, 84c2 (own work) -/
theorem wr_2C : wini4 (fun M x m o => wceF 13 8192 mc_ktn M (wacc M x m o)) = true := by decide +kernel
