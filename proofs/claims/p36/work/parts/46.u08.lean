/-! StrikeAwakeModel.bits(I)I  -/
abbrev uq_269 (a0 : Int) (T : wq_T) (H : wq_H) : Option Value → wq_T → wq_H → Prop := fun r T' H' => T = T' ∧ H = H' ∧ ∃ z : Int, some (vI z) = r ∧ (0 ≤ z ∧ z ≤ 16777215) ∧ (((z = ((nbf 24 (a0).toNat : Nat) : Int))))
set_option maxHeartbeats 4000000 in
theorem u_269 {kt : Nat → Option mc_E} {T : wq_T} {H : wq_H} {a0 : Int} (hW : WT T H) (i0 : 0 ≤ a0 ∧ a0 ≤ 16777215) : wpc kt 1 269 [vI a0] T H (uq_269 a0 T H) := by
  sorry
/-! StrikeAwakeModel.takes(I)V  -/
abbrev uq_243 (r0 : Nat) (a1 : Int) (pp : Nat) (e : xD) (d : xD) (T : wq_T) (H : wq_H) : Option Value → wq_T → wq_H → Prop := fun r T' H' => T = T' ∧ WT T H' ∧ wfr [(51, 999)] T H H' ∧ none = r ∧ ((LQ27 T H' r0 0 (d 0 3) (xlot d a1)))
set_option maxHeartbeats 4000000 in
theorem u_243 {kt : Nat → Option mc_E} {T : wq_T} {H : wq_H} {r0 : Nat} {a1 : Int} {pp : Nat} {e : xD} {d : xD} (hW : WT T H) (g0 : T.2.2.2 r0 = some 42) (i1 : 0 ≤ a1 ∧ a1 ≤ 2147483647) (qpp : H r0 3 = (pp : Int)) (gpp : T.2.2.2 pp = some 54) (p0 : 0 < xlots d) (hRB_r0 : RB T H r0 e d) : wpc kt 1 243 [.ref r0, vI a1] T H (uq_243 r0 a1 pp e d T H) := by
  sorry
/-! StrikeAwakeModel.strikesIn([II)I l -/
abbrev uq_228_l (r0 : Nat) (r1 : Nat) (a2 : Int) (pp : Nat) (e : xD) (d : xD) (g : Nat → Int) (T : wq_T) (H : wq_H) : Option Value → wq_T → wq_H → Prop := fun r T' H' => T = T' ∧ H = H' ∧ ∃ z : Int, some (vI z) = r ∧ (0 ≤ z ∧ z ≤ 9) ∧ (((z = ((xdue d g (a2).toNat : Nat) : Int))))
set_option maxHeartbeats 4000000 in
theorem u_228_l {kt : Nat → Option mc_E} {T : wq_T} {H : wq_H} {r0 : Nat} {r1 : Nat} {a2 : Int} {pp : Nat} {e : xD} {d : xD} {g : Nat → Int} (hW : WT T H) (g0 : T.2.2.2 r0 = some 42) (g1 : T.2.2.2 r1 = some 51) (i2 : 0 ≤ a2 ∧ a2 ≤ 23) (qpp : H r0 3 = (pp : Int)) (gpp : T.2.2.2 pp = some 54) (p0 : XW d) (p1 : SL d g) (hRB_r0 : RB T H r0 e d) (hRR_r1 : RR T H r1 (d 0 3) g) : wpc kt 2 228 [.ref r0, .ref r1, vI a2] T H (uq_228_l r0 r1 a2 pp e d g T H) := by
  sorry
