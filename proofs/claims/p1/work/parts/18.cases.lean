/-! the law, from each of its cases to its end (own work): decided by the kernel -/
theorem mcA_ok_0 : mcA_chk mcA_bA mcA_bC [256, 354, 367, 380, 405, 454, 503, 517, 554, 579, 604, 617] = true := by decide +kernel
theorem mcA_ok_1 : mcA_chk mcA_bA mcA_bC [630, 643, 656, 669, 706, 720, 757, 794, 831, 884, 921, 946] = true := by decide +kernel
theorem mcA_ok_2 : mcA_chk mcA_bA mcA_bC [960, 997, 1023, 1060, 1113, 1166, 1179, 1204, 1229, 1254, 1267, 1320] = true := by decide +kernel
theorem mcA_ok_3 : mcA_chk mcA_bA mcA_bC [1333, 1346, 1371, 1408, 1433, 1458, 1471, 1508, 1521, 1535, 1673] = true := by decide +kernel
theorem mcA_ok_b : mcA_chk mcA_bB [mcA_top] [329, 1648, 1686] = true := by decide +kernel
theorem mcA_ok0_0 : mcA_chk0 0 = true := by decide +kernel
theorem mcA_ok0_1 : mcA_chk0 1 = true := by decide +kernel
theorem mcA_ok0_2 : mcA_chk0 2 = true := by decide +kernel
theorem mcA_ok0_3 : mcA_chk0 3 = true := by decide +kernel
theorem mcA_ok0_4 : mcA_chk0 4 = true := by decide +kernel
theorem mcA_ok0_5 : mcA_chk0 5 = true := by decide +kernel
