/-! StrikeAwakeModel.lotsMany()J -/
theorem e220 : wq_en 220 = some (9, 4, false, some FieldType.long) := rfl
theorem c220_0 : mc_cd 220 0 = some (.lconst 1, 1) := by decide +kernel
theorem c220_1 : mc_cd 220 1 = some (.lstore_n 1, 1) := by decide +kernel
theorem c220_2 : mc_cd 220 2 = some (.iconst 0, 1) := by decide +kernel
theorem c220_3 : mc_cd 220 3 = some (.istore_n 3, 1) := by decide +kernel
theorem c220_4 : mc_cd 220 4 = some (.iload_n 3, 1) := by decide +kernel
theorem c220_5 : mc_cd 220 5 = some (.aload_n 0, 1) := by decide +kernel
theorem c220_6 : mc_cd 220 6 = some (.getfield 337, 3) := by decide +kernel
theorem c220_9 : mc_cd 220 9 = some (.getfield 188, 3) := by decide +kernel
theorem c220_12 : mc_cd 220 12 = some (.if_icmp .ge 19, 3) := by decide +kernel
theorem c220_15 : mc_cd 220 15 = some (.lload_n 1, 1) := by decide +kernel
theorem c220_16 : mc_cd 220 16 = some (.aload_n 0, 1) := by decide +kernel
theorem c220_17 : mc_cd 220 17 = some (.getfield 21, 3) := by decide +kernel
theorem c220_20 : mc_cd 220 20 = some (.iload_n 3, 1) := by decide +kernel
theorem c220_21 : mc_cd 220 21 = some (.iaload, 1) := by decide +kernel
theorem c220_22 : mc_cd 220 22 = some (.i2l, 1) := by decide +kernel
theorem c220_23 : mc_cd 220 23 = some (.lmul, 1) := by decide +kernel
theorem c220_24 : mc_cd 220 24 = some (.lstore_n 1, 1) := by decide +kernel
theorem c220_25 : mc_cd 220 25 = some (.iinc 3 1, 3) := by decide +kernel
theorem c220_28 : mc_cd 220 28 = some (.goto (-24), 3) := by decide +kernel
theorem c220_31 : mc_cd 220 31 = some (.lload_n 1, 1) := by decide +kernel
theorem c220_32 : mc_cd 220 32 = some (.lreturn, 1) := by decide +kernel
abbrev q_220 (r0 : Nat) (pp : Nat) (T : wq_T) (H : wq_H) : Option Value → wq_T → wq_H → Prop := fun r T' H' => T = T' ∧ H = H' ∧ ∃ z : Int, some (vL z) = r ∧ (0 ≤ z ∧ z ≤ 4096000000) ∧ (z = wLM H r0)
set_option maxHeartbeats 4000000 in
theorem s_220 {kt : Nat → Option mc_E} {T : wq_T} {H : wq_H} {r0 : Nat} {pp : Nat} (hW : WT T H) (g0 : T.2.2.2 r0 = some 42) (qpp : H r0 3 = (pp : Int)) (gpp : T.2.2.2 pp = some 54) : wpc kt 1 220 [.ref r0] T H (q_220 r0 pp T H) := by
  refine wp_enter e220 (Nat.le_of_ble_eq_true rfl) rfl ?_
  show wp _ _ 220 0 [(0, .ref r0)] [] _ H _
  refine wp_of e220 c220_0 (rw_lconst (pc' := 1) (z := 1) rfl rfl ?_)
  refine wp_of e220 c220_1 (rw_lstore_n (pc' := 2) (z := 1) (L' := [(1, vL 1), (0, .ref r0)]) rfl rfl rfl ?_)
  refine wp_of e220 c220_2 (rw_iconst (pc' := 3) rfl ?_)
  refine wp_of e220 c220_3 (rw_istore_n (pc' := 4) (z := 0) (L' := [(3, vI 0), (1, vL 1), (0, .ref r0)]) rfl rfl rfl ?_)
  obtain ⟨r129821, q129822, g129823⟩ := hW.ref g0 (t' := 45) (n := 33) (j := 21) (p := 0) (q := 0) rfl (by decide) rfl
  have b129824 : 0 ≤ H pp 3 ∧ H pp 3 ≤ 6 := hW.box gpp (n := 27) rfl (by decide) rfl
  have lp129816 : ∀ (n129817 : Nat) (v129819 : Int) (v129820 : Int), (0 ≤ v129819 ∧ v129819 ≤ 6) → (0 ≤ v129820 ∧ v129820 ≤ 4096000000) → (v129819 ≤ H pp 3) → (v129820 = wpr (H r129821) (v129819).toNat) → (6 - v129819).toNat = n129817 → wp kt 0 220 4 [(3, vI v129819), (1, vL v129820), (0, .ref r0)] [] T H (q_220 r0 pp T H) := by
    intro n129817
    induction n129817 using Nat.strongRecOn with
    | _ n129817 ih129818 =>
      intro v129819 v129820 b129827 b129828 x129829 x129830 m129831
      have hx : H pp 3 = v129819 → v129820 = wLM H r0 := fun q => by
        rw [wLM_eq qpp q129822, q]
        assumption
      have hb := (wpr_b (f := H r129821) (fun j hj => hW.box g129823 (n := 6) rfl hj rfl) (v129819).toNat (by omega)).2
      have hc := w40 (n := (v129819).toNat) (by omega)
      refine wp_of e220 c220_4 (rw_iload_n (pc' := 5) (z := v129819) rfl rfl ?_)
      refine wp_of e220 c220_5 (rw_aload_n (pc' := 6) (v := .ref r0) rfl rfl rfl ?_)
      refine wp_of e220 c220_6 (xg_K (pc' := 9) lf_9_337 hW g0 sh_42 (by decide) (by decide) rfl qpp rfl ?_)
      refine wp_of e220 c220_9 (xg_I (pc' := 12) lf_9_188 hW gpp sh_54 (by decide) (by decide) ty_54_3 rfl rfl (fun b129832 b129833 => ?_))
      refine wp_of e220 c220_12 (rw_icmp_ge (p1 := 31) (p2 := 15) (by decide) rfl ⟨by omega, by omega⟩ ⟨by omega, by omega⟩ (fun c129834 => ?_) (fun c129834 => ?_))
      · refine wp_of e220 c220_31 (rw_lload_n (pc' := 32) (z := v129820) rfl rfl ?_)
        exact wp_lreturn e220 c220_32 rfl ⟨rfl, rfl, v129820, rfl, ⟨by omega, by omega⟩, by omega⟩
      · refine wp_of e220 c220_15 (rw_lload_n (pc' := 16) (z := v129820) rfl rfl ?_)
        refine wp_of e220 c220_16 (rw_aload_n (pc' := 17) (v := .ref r0) rfl rfl rfl ?_)
        refine wp_of e220 c220_17 (xg_K (pc' := 20) lf_9_21 hW g0 sh_42 (by decide) (by decide) rfl q129822 rfl ?_)
        refine wp_of e220 c220_20 (rw_iload_n (pc' := 21) (z := v129819) rfl rfl ?_)
        refine wp_of e220 c220_21 (xa_I (so := 0) (pc' := 22) hW g129823 sh_45 (by decide) (ty_45 _) (by omega) (by omega) rfl (fun b129835 b129836 => ?_))
        refine wp_of e220 c220_22 (rw_i2l (pc' := 23) rfl ⟨by omega, by omega⟩ ?_)
        refine wp_of e220 c220_23 (rw_lmul (pc' := 24) rfl ?_)
        obtain ⟨v129837, e129838⟩ : ∃ x : Int, x = v129820 * (H r129821 (v129819.toNat)) := ⟨_, rfl⟩
        rw [← e129838]
        have b129839 : 0 ≤ v129837 ∧ v129837 ≤ 163840000000 := by
          rw [e129838]
          exact wl_mul_b (a := 4096000000) (b := 40) ⟨by omega, by omega⟩ ⟨by omega, by omega⟩
        refine wp_of e220 c220_24 (rw_lstore_n (pc' := 25) (z := v129837) (L' := [(1, vL v129837), (3, vI v129819), (0, .ref r0)]) rfl rfl rfl ?_)
        refine wp_of e220 c220_25 (rw_iinc (pc' := 28) (z := v129819) (L' := [(3, vI (v129819 + 1)), (1, vL v129837), (0, .ref r0)]) rfl rfl rfl rfl ?_)
        refine wp_of e220 c220_28 (rw_goto (p1 := 4) (by decide) ?_)
        have hy : v129837 = wpr (H r129821) ((v129819 + 1)).toNat := wpr_s (by assumption) (by assumption) (by omega)
        have hz := (wpr_b (f := H r129821) (fun j hj => hW.box g129823 (n := 6) rfl hj rfl) ((v129819 + 1)).toNat (by omega)).2
        have hw := w40 (n := ((v129819 + 1)).toNat) (by omega)
        exact wp_lc (ks := [3, 1, 0]) (wl_c rfl (wl_c rfl (wl_c rfl wl_n))) rfl (by decide) (ih129818 _ (by omega) (v129819 + 1) v129837 ⟨by omega, by omega⟩ ⟨by omega, by omega⟩ (by omega) (by assumption) rfl)
  exact wp_lc (ks := [3, 1, 0]) (wl_c rfl (wl_c rfl (wl_c rfl wl_n))) rfl (by decide) (lp129816 _ 0 1 ⟨by omega, by omega⟩ ⟨by omega, by omega⟩ (by omega) (rfl) rfl)
