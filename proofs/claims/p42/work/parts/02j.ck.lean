/-! words, a piece (own work) -/
theorem mc_ck_ok : (List.range 11).all mc_ck = true := by decide +kernel
