/-! the types of all tagged slots (own work) -/
noncomputable def wceA (kt : Nat → Option mc_E) (M : mc_M) (acc : List (Nat × Nat)) : Bool := (((wceF 11 0 kt M acc && wceF 11 2048 kt M acc) && wceF 12 4096 kt M acc) && wceF 13 8192 kt M acc) && wceF 12 16384 kt M acc
theorem wr_2 : wini4 (fun M x m o => wceA mc_ktn M (wacc M x m o)) = true := by decide +kernel
