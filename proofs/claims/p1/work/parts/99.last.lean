theorem t_5 : (mcA_call (mcA_kt 6 (fun _ => mcA_top)) 1000 3 7 [.inl (.ref 256)] [.inr (7, (List.range 19).map (fun k => .inl (defaultValue (mc_t 7 k))))]).isSome = true := by decide +kernel
theorem t_7 : (mcA_call (mcA_kt 6 (fun _ => mcA_top)) 1000 3 4 [.inl (.ref 256)] [.inr (4, (List.range 10).map (fun k => .inl (defaultValue (mc_t 4 k))))]).isSome = true := by decide +kernel
theorem t_1 : (mcA_lseg (fun _ => mcA_top) 3).isSome = true := by decide +kernel
theorem t_2 : (mcA_lseg (fun _ => mcA_top) 23).isSome = true := by decide +kernel
theorem i_vc : Claimed_1_1 ∧ Claimed_1_2 := sorry
