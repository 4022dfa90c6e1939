theorem t_5 : (mcA_call (mcA_kt 6 (fun _ => mcA_top)) 1000 3 7 [.inl (.ref 256)] [.inr (7, (List.range 19).map (fun k => .inl (defaultValue (mc_t 7 k))))]).isSome = true := by decide +kernel
theorem i_vc : Claimed_1_1 ∧ Claimed_1_2 := sorry
