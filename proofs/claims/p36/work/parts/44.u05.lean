/-! StrikeAwake$Parish.allHours()I  -/
abbrev uq_45 (r0 : Nat) (T : wq_T) (H : wq_H) : Option Value → wq_T → wq_H → Prop := fun r T' H' => T = T' ∧ H = H' ∧ ∃ z : Int, some (vI z) = r ∧ (0 ≤ z ∧ z ≤ 16777215) ∧ (((z = xhs 0 (H r0 7))))
set_option maxHeartbeats 4000000 in
theorem u_45 {kt : Nat → Option mc_E} {T : wq_T} {H : wq_H} {r0 : Nat} (hW : WT T H) (g0 : T.2.2.2 r0 = some 27) : wpc kt 2 45 [.ref r0] T H (uq_45 r0 T H) := by
  sorry
