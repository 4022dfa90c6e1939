/-! the types of tagged slots, 84c3 (own work) -/
theorem wr_2D : wini4 (fun M x m o => wceF 12 16384 mc_ktn M (wacc M x m o)) = true := by decide +kernel
