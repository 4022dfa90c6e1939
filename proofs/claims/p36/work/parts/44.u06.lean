/-! StrikeAwake.barOfLots(Z)I  -/
abbrev uq_84 (r0 : Nat) (a1 : Int) (cu : Nat) (e : xD) (d : xD) (n : Int) (T : wq_T) (H : wq_H) : Option Value → wq_T → wq_H → Prop := fun r T' H' => T = T' ∧ H = H' ∧ ∃ z : Int, some (vI z) = r ∧ (0 ≤ z ∧ z ≤ 6) ∧ (((z = 0) ∧ (a1 = 1) ∧ (n ≤ 20000)) ∨ ((1 ≤ z ∧ z ≤ 6) ∧ (a1 ≠ 1 ∨ 20000 < n)))
set_option maxHeartbeats 4000000 in
theorem u_84 {kt : Nat → Option mc_E} {T : wq_T} {H : wq_H} {r0 : Nat} {a1 : Int} {cu : Nat} {e : xD} {d : xD} {n : Int} (hW : WT T H) (g0 : T.2.2.2 r0 = some 1) (i1 : 0 ≤ a1 ∧ a1 ≤ 1) (qcu : H r0 6 = (cu : Int)) (gcu : T.2.2.2 cu = some 27) (hCU_cu : CU T H cu e d n) : wpc kt 1 84 [.ref r0, vI a1] T H (uq_84 r0 a1 cu e d n T H) := by
  sorry
