/-! the types of all tagged slots, further ones (own work) -/
theorem wr_c2 : wini4 (fun M x m o => wceF 13 8192 mc_ktn M (wacc M x m o)) = true := by decide +kernel
