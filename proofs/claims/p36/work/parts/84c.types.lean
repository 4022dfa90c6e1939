/-! the long arrays at the law's entry, 84c (own work) -/
noncomputable def wPJ (j : Nat) : Bool := wini4 (fun M x m o => M.all (wokJ j) && wceJ mc_ktn M (wacc M x m o) j)
theorem wr_J : wPJ (hil wPJ) = true := by decide +kernel
theorem wr_Ja (j : Nat) : wini4 (fun M x m o => M.all (wokJ j) && wceJ mc_ktn M (wacc M x m o) j) = true := hil_ok wr_J j
