/-! the kinds of all slots beyond (own work) -/
theorem wr_b1 : wini4 (fun M _ _ _ => M.all (fun e => wokR 11 2048 e && wokR 12 4096 e)) = true := by decide +kernel
theorem wr_b2 : wini4 (fun M _ _ _ => M.all (wokR 13 8192)) = true := by decide +kernel
theorem wr_b3 : wini4 (fun M _ _ _ => M.all (wokR 12 16384)) = true := by decide +kernel
