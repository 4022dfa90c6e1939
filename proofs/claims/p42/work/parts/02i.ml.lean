/-! words, a piece (own work) -/
theorem mc_ml_ok : mc_each mc_ml (fun own e => mc_tb e.2.2.2.2 (mc_mw own e) e.2.2.1) = true := by decide +kernel
