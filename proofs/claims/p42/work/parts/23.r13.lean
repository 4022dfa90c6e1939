/-! methods of the reference (own work, written by wip/gen2/sx.py) -/
/-! StrikeAwakeModel.trouble()I -/
theorem e295 : wq_en 295 = some (9, 1, false, some FieldType.int) := rfl
theorem c295_0 : mc_cd 295 0 = some (.aload_n 0, 1) := by decide +kernel
theorem c295_1 : mc_cd 295 1 = some (.iconst 0, 1) := by decide +kernel
theorem c295_2 : mc_cd 295 2 = some (.putfield 48, 3) := by decide +kernel
theorem c295_5 : mc_cd 295 5 = some (.aload_n 0, 1) := by decide +kernel
theorem c295_6 : mc_cd 295 6 = some (.getfield 51, 3) := by decide +kernel
theorem c295_9 : mc_cd 295 9 = some (.ireturn, 1) := by decide +kernel
abbrev q_295 (r0 : Nat) (T : wq_T) (H : wq_H) : Option Value → wq_T → wq_H → Prop := fun r T' H' => T = T' ∧ WT T H' ∧ wfr [(42, 0)] T H H' ∧ ∃ z : Int, some (vI z) = r ∧ ((-2147483648) ≤ z ∧ z ≤ 2147483647) ∧ (wKI H' r0 = 1)
set_option maxHeartbeats 4000000 in
theorem s_295 {kt : Nat → Option mc_E} {T : wq_T} {H : wq_H} {r0 : Nat} (hW : WT T H) (g0 : T.2.2.2 r0 = some 42) (p0 : wKI H r0 = 1) : wpc kt 1 295 [.ref r0] T H (q_295 r0 T H) := by
  refine wp_enter e295 (Nat.le_of_ble_eq_true rfl) rfl ?_
  have f0 : wfr [(42, 0)] T H H := wfr.rf
  show wp _ _ 295 0 [(0, .ref r0)] [] _ H _
  refine wp_of e295 c295_0 (rw_aload_n (pc' := 1) (v := .ref r0) rfl rfl rfl ?_)
  refine wp_of e295 c295_1 (rw_iconst (pc' := 2) rfl ?_)
  refine wp_of e295 c295_2 (xp_I (pc' := 5) lf_9_48 hW g0 sh_42 (by decide) (by decide) ty_42_0 rfl rfl (by omega) (by omega) ⟨by omega, by omega⟩ rfl (fun H226882 e226883 w226884 => ?_))
  have f226885 := f0.put' e226883 g0 rfl
  have k226886 : H226882 r0 0 = 0 := wq_u_s e226883
  refine wp_of e295 c295_5 (rw_aload_n (pc' := 6) (v := .ref r0) rfl rfl rfl ?_)
  refine wp_of e295 c295_6 (xg_I (pc' := 9) lf_9_51 w226884 g0 sh_42 (by decide) (by decide) ty_42_1 rfl rfl (fun b226887 b226888 => ?_))
  have k226889 : wKI H226882 r0 = wKI H r0 := (wKI_fr hW g0 ((wfr.rf (l := [(42, 0)])).put' e226883 g0 rfl) rfl)
  exact wp_ireturn e295 c295_9 rfl ⟨rfl, w226884, f226885, H226882 r0 1, rfl, ⟨by omega, by omega⟩, by omega⟩
