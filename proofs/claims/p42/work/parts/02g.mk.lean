/-! words, a piece (own work) -/
theorem mc_mk_0 : (List.range 32).all (fun j => mc_mk (0 + j)) = true := by decide +kernel
theorem mc_mk_1 : (List.range 32).all (fun j => mc_mk (32 + j)) = true := by decide +kernel
theorem mc_mk_2 : (List.range 32).all (fun j => mc_mk (64 + j)) = true := by decide +kernel
theorem mc_mk_3 : (List.range 32).all (fun j => mc_mk (96 + j)) = true := by decide +kernel
theorem mc_mk_4 : (List.range 32).all (fun j => mc_mk (128 + j)) = true := by decide +kernel
theorem mc_mk_5 : (List.range 32).all (fun j => mc_mk (160 + j)) = true := by decide +kernel
theorem mc_mk_6 : (List.range 32).all (fun j => mc_mk (192 + j)) = true := by decide +kernel
theorem mc_mk_7 : (List.range 32).all (fun j => mc_mk (224 + j)) = true := by decide +kernel
theorem mc_mk_8 : (List.range 32).all (fun j => mc_mk (256 + j)) = true := by decide +kernel
theorem mc_mk_9 : (List.range 8).all (fun j => mc_mk (288 + j)) = true := by decide +kernel
