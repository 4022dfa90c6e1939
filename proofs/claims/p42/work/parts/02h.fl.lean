/-! words, a piece (own work) -/
theorem mc_fl_ok : mc_each mc_fl (fun own e => mc_tb e.2.2.2.2.2 (mc_fw own e) e.2.2.2.1) = true := by decide +kernel
