/-! StrikeAwakeModel.has(II)Z  -/
abbrev uq_205 (a0 : Int) (a1 : Int) (T : wq_T) (H : wq_H) : Option Value → wq_T → wq_H → Prop := fun r T' H' => T = T' ∧ H = H' ∧ ∃ z : Int, some (vI z) = r ∧ (0 ≤ z ∧ z ≤ 1) ∧ (((z = 1) ∧ (wq_and (wq_shr a0 a1) 1 = 1)) ∨ ((z = 0) ∧ (wq_and (wq_shr a0 a1) 1 ≠ 1)))
set_option maxHeartbeats 4000000 in
theorem u_205 {kt : Nat → Option mc_E} {T : wq_T} {H : wq_H} {a0 : Int} {a1 : Int} (hW : WT T H) (i0 : (-2147483648) ≤ a0 ∧ a0 ≤ 2147483647) (i1 : (-2147483648) ≤ a1 ∧ a1 ≤ 2147483647) : wpc kt 1 205 [vI a0, vI a1] T H (uq_205 a0 a1 T H) := by
  sorry
/-! StrikeAwakeModel.struckHours()I  -/
abbrev uq_207 (r0 : Nat) (f : Nat → Int) (T : wq_T) (H : wq_H) : Option Value → wq_T → wq_H → Prop := fun r T' H' => T = T' ∧ H = H' ∧ ∃ z : Int, some (vI z) = r ∧ (0 ≤ z ∧ z ≤ 16777215) ∧ (((z = xob (fun h => decide (f h > 0)) 24)))
set_option maxHeartbeats 4000000 in
theorem u_207 {kt : Nat → Option mc_E} {T : wq_T} {H : wq_H} {r0 : Nat} {f : Nat → Int} (hW : WT T H) (g0 : T.2.2.2 r0 = some 42) (hMN20_r0 : MN20 T H r0 24 f) : wpc kt 1 207 [.ref r0] T H (uq_207 r0 f T H) := by
  sorry
