/-! methods of the reference (own work, written by wip/gen2/sx.py) -/
/-! StrikeAwakeModel.agrees()I -/
theorem e237 : wq_en 237 = some (9, 2, false, some FieldType.int) := rfl
theorem c237_0 : mc_cd 237 0 = some (.aload_n 0, 1) := by decide +kernel
theorem c237_1 : mc_cd 237 1 = some (.iconst 0, 1) := by decide +kernel
theorem c237_2 : mc_cd 237 2 = some (.putfield 48, 3) := by decide +kernel
theorem c237_5 : mc_cd 237 5 = some (.aload_n 0, 1) := by decide +kernel
theorem c237_6 : mc_cd 237 6 = some (.invokevirtual 412, 3) := by decide +kernel
theorem c237_9 : mc_cd 237 9 = some (.istore_n 1, 1) := by decide +kernel
theorem c237_10 : mc_cd 237 10 = some (.iload_n 1, 1) := by decide +kernel
theorem c237_11 : mc_cd 237 11 = some (.ifCond .le 11, 3) := by decide +kernel
theorem c237_14 : mc_cd 237 14 = some (.aload_n 0, 1) := by decide +kernel
theorem c237_15 : mc_cd 237 15 = some (.iload_n 1, 1) := by decide +kernel
theorem c237_16 : mc_cd 237 16 = some (.invokevirtual 54, 3) := by decide +kernel
theorem c237_19 : mc_cd 237 19 = some (.goto 23, 3) := by decide +kernel
theorem c237_22 : mc_cd 237 22 = some (.aload_n 0, 1) := by decide +kernel
theorem c237_23 : mc_cd 237 23 = some (.aload_n 0, 1) := by decide +kernel
theorem c237_24 : mc_cd 237 24 = some (.aload_n 0, 1) := by decide +kernel
theorem c237_25 : mc_cd 237 25 = some (.getfield 36, 3) := by decide +kernel
theorem c237_28 : mc_cd 237 28 = some (.invokevirtual 418, 3) := by decide +kernel
theorem c237_31 : mc_cd 237 31 = some (.ifCond .eq 7, 3) := by decide +kernel
theorem c237_34 : mc_cd 237 34 = some (.iconst 1, 1) := by decide +kernel
theorem c237_35 : mc_cd 237 35 = some (.goto 4, 3) := by decide +kernel
theorem c237_38 : mc_cd 237 38 = some (.iconst 0, 1) := by decide +kernel
theorem c237_39 : mc_cd 237 39 = some (.invokevirtual 58, 3) := by decide +kernel
theorem c237_42 : mc_cd 237 42 = some (.ireturn, 1) := by decide +kernel
abbrev q_237 (r0 : Nat) (T : wq_T) (H : wq_H) : Option Value → wq_T → wq_H → Prop := fun r T' H' => T = T' ∧ WT T H' ∧ wfr [(42, 0), (42, 1), (42, 2)] T H H' ∧ ∃ z : Int, some (vI z) = r ∧ ((-2147483648) ≤ z ∧ z ≤ 2147483647) ∧ (wKI H' r0 = 1)
set_option maxHeartbeats 4000000 in
theorem s_237 {kt : Nat → Option mc_E} {T : wq_T} {H : wq_H} {r0 : Nat} (hW : WT T H) (g0 : T.2.2.2 r0 = some 42) (p0 : wKI H r0 = 1) : wpc kt 6 237 [.ref r0] T H (q_237 r0 T H) := by
  refine wp_enter e237 (Nat.le_of_ble_eq_true rfl) rfl ?_
  have f0 : wfr [(42, 0), (42, 1), (42, 2)] T H H := wfr.rf
  show wp _ _ 237 0 [(0, .ref r0)] [] _ H _
  refine wp_of e237 c237_0 (rw_aload_n (pc' := 1) (v := .ref r0) rfl rfl rfl ?_)
  refine wp_of e237 c237_1 (rw_iconst (pc' := 2) rfl ?_)
  refine wp_of e237 c237_2 (xp_I (pc' := 5) lf_9_48 hW g0 sh_42 (by decide) (by decide) ty_42_0 rfl rfl (by omega) (by omega) ⟨by omega, by omega⟩ rfl (fun H130668 e130669 w130670 => ?_))
  have f130671 := f0.put' e130669 g0 rfl
  have k130672 : H130668 r0 0 = 0 := wq_u_s e130669
  refine wp_of e237 c237_5 (rw_aload_n (pc' := 6) (v := .ref r0) rfl rfl rfl ?_)
  refine wp_of e237 c237_6 (xc_V (pc' := 9) (r := r0) (as := []) (st := []) (lm_9_412) rfl rfl (Nat.le_of_ble_eq_true rfl) w130670 g0 sh_42 (by decide) rfl (by decide) (s_231 w130670 g0) (fun R130673 T130674 H130675 p130676 => ?_))
  obtain ⟨e130677, e130679, z130681, e130678, b130682, p130680⟩ := p130676
  subst e130677
  subst e130678
  subst e130679
  show wp _ _ 237 9 [(0, .ref r0)] [vI z130681] _ H130668 _
  refine wp_of e237 c237_9 (rw_istore_n (pc' := 10) (z := z130681) (L' := [(1, vI z130681), (0, .ref r0)]) rfl rfl rfl ?_)
  refine wp_of e237 c237_10 (rw_iload_n (pc' := 11) (z := z130681) rfl rfl ?_)
  refine wp_of e237 c237_11 (rw_if_le (p1 := 22) (p2 := 14) (by decide) rfl ⟨by omega, by omega⟩ (fun c130683 => ?_) (fun c130683 => ?_))
  · refine wp_of e237 c237_22 (rw_aload_n (pc' := 23) (v := .ref r0) rfl rfl rfl ?_)
    refine wp_of e237 c237_23 (rw_aload_n (pc' := 24) (v := .ref r0) rfl rfl rfl ?_)
    refine wp_of e237 c237_24 (rw_aload_n (pc' := 25) (v := .ref r0) rfl rfl rfl ?_)
    refine wp_of e237 c237_25 (xg_R (pc' := 28) lf_9_36 w130670 g0 sh_42 (by decide) (by decide) ty_42_26 rfl rfl (fun r130684 q130685 g130686 => ?_))
    obtain ⟨r130687, q130688, g130689⟩ := (w130670.opt g0 (t' := 54) (n := 33) (j := 3) (p := 0) (q := 0) rfl (by decide) rfl).resolve_left (by omega)
    refine wp_of e237 c237_28 (xc_V (pc' := 31) (r := r0) (as := [.ref r130684]) (st := [.ref r0]) (lm_9_418) rfl rfl (Nat.le_of_ble_eq_true rfl) w130670 g0 sh_42 (by decide) rfl (by decide) (s_238_m_said w130670 g0 g130686 q130688 g130689) (fun R130690 T130691 H130692 p130693 => ?_))
    obtain ⟨e130694, e130696, z130697, e130695, b130698⟩ := p130693
    subst e130694
    subst e130695
    subst e130696
    show wp _ _ 237 31 [(1, vI z130681), (0, .ref r0)] [vI z130697, .ref r0] _ H130668 _
    refine wp_of e237 c237_31 (rw_if_eq (p1 := 38) (p2 := 34) (by decide) rfl ⟨by omega, by omega⟩ (fun c130699 => ?_) (fun c130699 => ?_))
    · refine wp_of e237 c237_38 (rw_iconst (pc' := 39) rfl ?_)
      refine wp_of e237 c237_39 (xc_V (pc' := 42) (r := r0) (as := [vI 0]) (st := []) (lm_9_58) rfl rfl (Nat.le_of_ble_eq_true rfl) w130670 g0 sh_42 (by decide) rfl (by decide) (s_209 w130670 g0 ⟨by omega, by omega⟩) (fun R130700 T130701 H130702 p130703 => ?_))
      obtain ⟨e130704, w130706, f130707, z130708, e130705, b130709⟩ := p130703
      subst e130704
      subst e130705
      have f130710 := f130671.tr f130707 rfl
      show wp _ _ 237 42 [(1, vI z130681), (0, .ref r0)] [vI z130708] _ H130702 _
      have k130711 : wKI H130702 r0 = wKI H r0 := ((wKI_fr w130670 g0 f130707 rfl).trans (wKI_fr hW g0 ((wfr.rf (l := [(42, 0)])).put' e130669 g0 rfl) rfl))
      exact wp_ireturn e237 c237_42 rfl ⟨rfl, w130706, f130710, z130708, rfl, ⟨by omega, by omega⟩, by omega⟩
    · refine wp_of e237 c237_34 (rw_iconst (pc' := 35) rfl ?_)
      refine wp_of e237 c237_35 (rw_goto (p1 := 39) (by decide) ?_)
      refine wp_of e237 c237_39 (xc_V (pc' := 42) (r := r0) (as := [vI 1]) (st := []) (lm_9_58) rfl rfl (Nat.le_of_ble_eq_true rfl) w130670 g0 sh_42 (by decide) rfl (by decide) (s_209 w130670 g0 ⟨by omega, by omega⟩) (fun R130712 T130713 H130714 p130715 => ?_))
      obtain ⟨e130716, w130718, f130719, z130720, e130717, b130721⟩ := p130715
      subst e130716
      subst e130717
      have f130722 := f130671.tr f130719 rfl
      show wp _ _ 237 42 [(1, vI z130681), (0, .ref r0)] [vI z130720] _ H130714 _
      have k130723 : wKI H130714 r0 = wKI H r0 := ((wKI_fr w130670 g0 f130719 rfl).trans (wKI_fr hW g0 ((wfr.rf (l := [(42, 0)])).put' e130669 g0 rfl) rfl))
      exact wp_ireturn e237 c237_42 rfl ⟨rfl, w130718, f130722, z130720, rfl, ⟨by omega, by omega⟩, by omega⟩
  · refine wp_of e237 c237_14 (rw_aload_n (pc' := 15) (v := .ref r0) rfl rfl rfl ?_)
    refine wp_of e237 c237_15 (rw_iload_n (pc' := 16) (z := z130681) rfl rfl ?_)
    refine wp_of e237 c237_16 (xc_V (pc' := 19) (r := r0) (as := [vI z130681]) (st := []) (lm_9_54) rfl rfl (Nat.le_of_ble_eq_true rfl) w130670 g0 sh_42 (by decide) rfl (by decide) (s_170 w130670 g0 ⟨by omega, by omega⟩) (fun R130724 T130725 H130726 p130727 => ?_))
    obtain ⟨e130728, w130730, f130731, z130732, e130729, b130733⟩ := p130727
    subst e130728
    subst e130729
    have f130734 := f130671.tr f130731 rfl
    show wp _ _ 237 19 [(1, vI z130681), (0, .ref r0)] [vI z130732] _ H130726 _
    refine wp_of e237 c237_19 (rw_goto (p1 := 42) (by decide) ?_)
    have k130735 : wKI H130726 r0 = wKI H r0 := ((wKI_fr w130670 g0 f130731 rfl).trans (wKI_fr hW g0 ((wfr.rf (l := [(42, 0)])).put' e130669 g0 rfl) rfl))
    exact wp_ireturn e237 c237_42 rfl ⟨rfl, w130730, f130734, z130732, rfl, ⟨by omega, by omega⟩, by omega⟩
/-! StrikeAwakeModel.takes(I)V -/
theorem e243 : wq_en 243 = some (9, 4, false, none) := rfl
theorem c243_0 : mc_cd 243 0 = some (.iload_n 1, 1) := by decide +kernel
theorem c243_1 : mc_cd 243 1 = some (.istore_n 2, 1) := by decide +kernel
theorem c243_2 : mc_cd 243 2 = some (.aload_n 0, 1) := by decide +kernel
theorem c243_3 : mc_cd 243 3 = some (.getfield 337, 3) := by decide +kernel
theorem c243_6 : mc_cd 243 6 = some (.getfield 188, 3) := by decide +kernel
theorem c243_9 : mc_cd 243 9 = some (.iconst 1, 1) := by decide +kernel
theorem c243_10 : mc_cd 243 10 = some (.isub, 1) := by decide +kernel
theorem c243_11 : mc_cd 243 11 = some (.istore_n 3, 1) := by decide +kernel
theorem c243_12 : mc_cd 243 12 = some (.iload_n 3, 1) := by decide +kernel
theorem c243_13 : mc_cd 243 13 = some (.ifCond .lt 32, 3) := by decide +kernel
theorem c243_16 : mc_cd 243 16 = some (.aload_n 0, 1) := by decide +kernel
theorem c243_17 : mc_cd 243 17 = some (.getfield 39, 3) := by decide +kernel
theorem c243_20 : mc_cd 243 20 = some (.iload_n 3, 1) := by decide +kernel
theorem c243_21 : mc_cd 243 21 = some (.iload_n 2, 1) := by decide +kernel
theorem c243_22 : mc_cd 243 22 = some (.aload_n 0, 1) := by decide +kernel
theorem c243_23 : mc_cd 243 23 = some (.getfield 21, 3) := by decide +kernel
theorem c243_26 : mc_cd 243 26 = some (.iload_n 3, 1) := by decide +kernel
theorem c243_27 : mc_cd 243 27 = some (.iaload, 1) := by decide +kernel
theorem c243_28 : mc_cd 243 28 = some (.irem, 1) := by decide +kernel
theorem c243_29 : mc_cd 243 29 = some (.iastore, 1) := by decide +kernel
theorem c243_30 : mc_cd 243 30 = some (.iload_n 2, 1) := by decide +kernel
theorem c243_31 : mc_cd 243 31 = some (.aload_n 0, 1) := by decide +kernel
theorem c243_32 : mc_cd 243 32 = some (.getfield 21, 3) := by decide +kernel
theorem c243_35 : mc_cd 243 35 = some (.iload_n 3, 1) := by decide +kernel
theorem c243_36 : mc_cd 243 36 = some (.iaload, 1) := by decide +kernel
theorem c243_37 : mc_cd 243 37 = some (.idiv, 1) := by decide +kernel
theorem c243_38 : mc_cd 243 38 = some (.istore_n 2, 1) := by decide +kernel
theorem c243_39 : mc_cd 243 39 = some (.iinc 3 (-1), 3) := by decide +kernel
theorem c243_42 : mc_cd 243 42 = some (.goto (-30), 3) := by decide +kernel
theorem c243_45 : mc_cd 243 45 = some (.return_, 1) := by decide +kernel
abbrev q_243 (r0 : Nat) (a1 : Int) (pp : Nat) (T : wq_T) (H : wq_H) : Option Value → wq_T → wq_H → Prop := fun r T' H' => T = T' ∧ WT T H' ∧ wfr [(51, 999)] T H H' ∧ none = r
set_option maxHeartbeats 4000000 in
theorem s_243 {kt : Nat → Option mc_E} {T : wq_T} {H : wq_H} {r0 : Nat} {a1 : Int} {pp : Nat} (hW : WT T H) (g0 : T.2.2.2 r0 = some 42) (i1 : 0 ≤ a1 ∧ a1 ≤ 2147483647) (qpp : H r0 3 = (pp : Int)) (gpp : T.2.2.2 pp = some 54) (p0 : 0 < wLM H r0) : wpc kt 1 243 [.ref r0, vI a1] T H (q_243 r0 a1 pp T H) := by
  refine wp_enter e243 (Nat.le_of_ble_eq_true rfl) rfl ?_
  have f0 : wfr [(51, 999)] T H H := wfr.rf
  show wp _ _ 243 0 [(0, .ref r0), (1, vI a1)] [] _ H _
  refine wp_of e243 c243_0 (rw_iload_n (pc' := 1) (z := a1) rfl rfl ?_)
  refine wp_of e243 c243_1 (rw_istore_n (pc' := 2) (z := a1) (L' := [(2, vI a1), (0, .ref r0), (1, vI a1)]) rfl rfl rfl ?_)
  refine wp_of e243 c243_2 (rw_aload_n (pc' := 3) (v := .ref r0) rfl rfl rfl ?_)
  refine wp_of e243 c243_3 (xg_K (pc' := 6) lf_9_337 hW g0 sh_42 (by decide) (by decide) rfl qpp rfl ?_)
  refine wp_of e243 c243_6 (xg_I (pc' := 9) lf_9_188 hW gpp sh_54 (by decide) (by decide) ty_54_3 rfl rfl (fun b130805 b130806 => ?_))
  refine wp_of e243 c243_9 (rw_iconst (pc' := 10) rfl ?_)
  refine wp_of e243 c243_10 (rw_isub (pc' := 11) rfl ?_)
  refine wp_of e243 c243_11 (rw_istore_n (pc' := 12) (z := (H pp 3) - 1) (L' := [(3, vI ((H pp 3) - 1)), (2, vI a1), (0, .ref r0), (1, vI a1)]) rfl rfl rfl ?_)
  have lp130851 : ∀ (n130852 : Nat) (v130854 : Int) (v130855 : Int) (H130856 : wq_H), WT T H130856 → wfr [(51, 999)] T H H130856 → ((-1) ≤ v130854 ∧ v130854 ≤ 5) → (0 ≤ v130855 ∧ v130855 ≤ 2147483647) → (v130854 ≤ H130856 pp 3 - 1) → (v130854 - (-1)).toNat = n130852 → wp kt 0 243 12 [(3, vI v130854), (2, vI v130855), (0, .ref r0)] [] T H130856 (q_243 r0 a1 pp T H) := by
    intro n130852
    induction n130852 using Nat.strongRecOn with
    | _ n130852 ih130853 =>
      intro v130854 v130855 H130856 w130857 f130858 b130859 b130860 x130861 m130862
      have f130863 := f0.tr f130858 rfl
      have k130864 : H130856 pp 3 = H pp 3 := (f130858 pp 3 _ gpp rfl)
      have k130865 : wLM H130856 r0 = wLM H r0 := (wLM_fr hW g0 f130858 rfl)
      obtain ⟨r130866, q130867, g130868⟩ := w130857.ref g0 (t' := 45) (n := 33) (j := 21) (p := 0) (q := 0) rfl (by decide) rfl
      have k130869 : H130856 r0 3 = H r0 3 := (f130858 r0 3 _ g0 rfl)
      have q130870 : H130856 r0 3 = (pp : Int) := k130869.trans qpp
      have hx : 0 ≤ v130854 → 0 < H130856 r130866 (v130854).toNat := fun q => wLM_sp w130857 gpp g130868 q130870 q130867 (by omega) (by omega)
      refine wp_of e243 c243_12 (rw_iload_n (pc' := 13) (z := v130854) rfl rfl ?_)
      refine wp_of e243 c243_13 (rw_if_lt (p1 := 45) (p2 := 16) (by decide) rfl ⟨by omega, by omega⟩ (fun c130871 => ?_) (fun c130871 => ?_))
      · exact wp_return e243 c243_45 rfl ⟨rfl, w130857, f130863, rfl⟩
      · refine wp_of e243 c243_16 (rw_aload_n (pc' := 17) (v := .ref r0) rfl rfl rfl ?_)
        refine wp_of e243 c243_17 (xg_R (pc' := 20) lf_9_39 w130857 g0 sh_42 (by decide) (by decide) ty_42_27 rfl rfl (fun r130872 q130873 g130874 => ?_))
        refine wp_of e243 c243_20 (rw_iload_n (pc' := 21) (z := v130854) rfl rfl ?_)
        refine wp_of e243 c243_21 (rw_iload_n (pc' := 22) (z := v130855) rfl rfl ?_)
        refine wp_of e243 c243_22 (rw_aload_n (pc' := 23) (v := .ref r0) rfl rfl rfl ?_)
        refine wp_of e243 c243_23 (xg_K (pc' := 26) lf_9_21 w130857 g0 sh_42 (by decide) (by decide) rfl q130867 rfl ?_)
        refine wp_of e243 c243_26 (rw_iload_n (pc' := 27) (z := v130854) rfl rfl ?_)
        refine wp_of e243 c243_27 (xa_I (so := 0) (pc' := 28) w130857 g130868 sh_45 (by decide) (ty_45 _) (by omega) (by omega) rfl (fun b130875 b130876 => ?_))
        refine wp_of e243 c243_28 (rw_irem (pc' := 29) rfl ⟨by omega, by omega⟩ (by omega) ?_)
        obtain ⟨v130877, e130878⟩ : ∃ x : Int, x = wq_rem v130855 (H130856 r130866 (v130854.toNat)) := ⟨_, rfl⟩
        rw [← e130878]
        have b130879 : 0 ≤ v130877 ∧ v130877 < (H130856 r130866 (v130854.toNat)) := by
          rw [e130878]
          rw [wq_rem_e ⟨by omega, by omega⟩ ⟨by omega, by omega⟩]; exact ⟨Int.emod_nonneg _ (by omega), Int.emod_lt_of_pos _ (by omega)⟩
        refine wp_of e243 c243_29 (xs_I (pc' := 30) w130857 g130874 (by decide) sh_51 (by decide) (ty_51 _) (by omega) (by omega) ⟨by omega, by omega⟩ (by omega) (by omega) rfl (fun H130880 e130881 w130882 => ?_))
        have f130883 := f130863.put' e130881 g130874 rfl
        have f130884 := f130858.put' e130881 g130874 rfl
        refine wp_of e243 c243_30 (rw_iload_n (pc' := 31) (z := v130855) rfl rfl ?_)
        refine wp_of e243 c243_31 (rw_aload_n (pc' := 32) (v := .ref r0) rfl rfl rfl ?_)
        have k130885 : H130880 r0 21 = H130856 r0 21 := (wq_u_t e130881 g130874 g0 rfl 21)
        have q130886 : H130880 r0 21 = (r130866 : Int) := k130885.trans q130867
        refine wp_of e243 c243_32 (xg_K (pc' := 35) lf_9_21 w130882 g0 sh_42 (by decide) (by decide) rfl q130886 rfl ?_)
        refine wp_of e243 c243_35 (rw_iload_n (pc' := 36) (z := v130854) rfl rfl ?_)
        have k130887 : H130880 r130866 (v130854.toNat) = H130856 r130866 (v130854.toNat) := (wq_u_t e130881 g130874 g130868 rfl (v130854.toNat))
        refine wp_of e243 c243_36 (xa_I (so := 0) (pc' := 37) w130882 g130868 sh_45 (by decide) (ty_45 _) (by omega) (by omega) rfl (fun b130888 b130889 => ?_))
        refine wp_of e243 c243_37 (rw_idiv (pc' := 38) rfl ⟨by omega, by omega⟩ (by omega) ?_)
        obtain ⟨v130890, e130891⟩ : ∃ x : Int, x = wq_div v130855 (H130880 r130866 (v130854.toNat)) := ⟨_, rfl⟩
        rw [← e130891]
        have b130892 : 0 ≤ v130890 ∧ v130890 ≤ v130855 := by
          rw [e130891]
          rw [wq_div_e ⟨by omega, by omega⟩ ⟨by omega, by omega⟩]; exact ⟨Int.ediv_nonneg (by omega) (by omega), Int.ediv_le_self _ (by omega)⟩
        refine wp_of e243 c243_38 (rw_istore_n (pc' := 39) (z := v130890) (L' := [(2, vI v130890), (3, vI v130854), (0, .ref r0)]) rfl rfl rfl ?_)
        refine wp_of e243 c243_39 (rw_iinc (pc' := 42) (z := v130854) (L' := [(3, vI (v130854 + (-1))), (2, vI v130890), (0, .ref r0)]) rfl rfl rfl rfl ?_)
        refine wp_of e243 c243_42 (rw_goto (p1 := 12) (by decide) ?_)
        have k130893 : H130880 pp 3 = H130856 pp 3 := (wq_u_t e130881 g130874 gpp rfl 3)
        have k130894 : wLM H130880 r0 = wLM H130856 r0 := (wLM_fr w130857 g0 ((wfr.rf (l := [(51, 999)])).put' e130881 g130874 rfl) rfl)
        exact wp_lc (ks := [3, 2, 0]) (wl_c rfl (wl_c rfl (wl_c rfl wl_n))) rfl (by decide) (ih130853 _ (by omega) (v130854 + (-1)) v130890 H130880 w130882 f130884 ⟨by omega, by omega⟩ ⟨by omega, by omega⟩ (by omega) rfl)
  exact wp_lc (ks := [3, 2, 0, 1]) (wl_c rfl (wl_c rfl (wl_c rfl wl_n))) rfl (by decide) (lp130851 _ ((H pp 3) - 1) a1 H hW wfr.rf ⟨by omega, by omega⟩ ⟨by omega, by omega⟩ (by omega) rfl)
/-! StrikeAwakeModel.knows()V -/
theorem e242 : wq_en 242 = some (9, 2, false, none) := rfl
theorem c242_0 : mc_cd 242 0 = some (.aload_n 0, 1) := by decide +kernel
theorem c242_1 : mc_cd 242 1 = some (.getfield 353, 3) := by decide +kernel
theorem c242_4 : mc_cd 242 4 = some (.ifCond .eq 4, 3) := by decide +kernel
theorem c242_7 : mc_cd 242 7 = some (.return_, 1) := by decide +kernel
theorem c242_8 : mc_cd 242 8 = some (.aload_n 0, 1) := by decide +kernel
theorem c242_9 : mc_cd 242 9 = some (.iconst 0, 1) := by decide +kernel
theorem c242_10 : mc_cd 242 10 = some (.putfield 422, 3) := by decide +kernel
theorem c242_13 : mc_cd 242 13 = some (.iconst 0, 1) := by decide +kernel
theorem c242_14 : mc_cd 242 14 = some (.istore_n 1, 1) := by decide +kernel
theorem c242_15 : mc_cd 242 15 = some (.iload_n 1, 1) := by decide +kernel
theorem c242_16 : mc_cd 242 16 = some (.i2l, 1) := by decide +kernel
theorem c242_17 : mc_cd 242 17 = some (.aload_n 0, 1) := by decide +kernel
theorem c242_18 : mc_cd 242 18 = some (.invokevirtual 376, 3) := by decide +kernel
theorem c242_21 : mc_cd 242 21 = some (.lcmp, 1) := by decide +kernel
theorem c242_22 : mc_cd 242 22 = some (.ifCond .ge 48, 3) := by decide +kernel
theorem c242_25 : mc_cd 242 25 = some (.aload_n 0, 1) := by decide +kernel
theorem c242_26 : mc_cd 242 26 = some (.iload_n 1, 1) := by decide +kernel
theorem c242_27 : mc_cd 242 27 = some (.invokevirtual 425, 3) := by decide +kernel
theorem c242_30 : mc_cd 242 30 = some (.aload_n 0, 1) := by decide +kernel
theorem c242_31 : mc_cd 242 31 = some (.aload_n 0, 1) := by decide +kernel
theorem c242_32 : mc_cd 242 32 = some (.getfield 39, 3) := by decide +kernel
theorem c242_35 : mc_cd 242 35 = some (.invokevirtual 418, 3) := by decide +kernel
theorem c242_38 : mc_cd 242 38 = some (.ifCond .ne 6, 3) := by decide +kernel
theorem c242_41 : mc_cd 242 41 = some (.goto 23, 3) := by decide +kernel
theorem c242_44 : mc_cd 242 44 = some (.aload_n 0, 1) := by decide +kernel
theorem c242_45 : mc_cd 242 45 = some (.getfield 42, 3) := by decide +kernel
theorem c242_48 : mc_cd 242 48 = some (.aload_n 0, 1) := by decide +kernel
theorem c242_49 : mc_cd 242 49 = some (.getfield 422, 3) := by decide +kernel
theorem c242_52 : mc_cd 242 52 = some (.iload_n 1, 1) := by decide +kernel
theorem c242_53 : mc_cd 242 53 = some (.iastore, 1) := by decide +kernel
theorem c242_54 : mc_cd 242 54 = some (.aload_n 0, 1) := by decide +kernel
theorem c242_55 : mc_cd 242 55 = some (.dup, 1) := by decide +kernel
theorem c242_56 : mc_cd 242 56 = some (.getfield 422, 3) := by decide +kernel
theorem c242_59 : mc_cd 242 59 = some (.iconst 1, 1) := by decide +kernel
theorem c242_60 : mc_cd 242 60 = some (.iadd, 1) := by decide +kernel
theorem c242_61 : mc_cd 242 61 = some (.putfield 422, 3) := by decide +kernel
theorem c242_64 : mc_cd 242 64 = some (.iinc 1 1, 3) := by decide +kernel
theorem c242_67 : mc_cd 242 67 = some (.goto (-52), 3) := by decide +kernel
theorem c242_70 : mc_cd 242 70 = some (.aload_n 0, 1) := by decide +kernel
theorem c242_71 : mc_cd 242 71 = some (.iconst 1, 1) := by decide +kernel
theorem c242_72 : mc_cd 242 72 = some (.putfield 353, 3) := by decide +kernel
theorem c242_75 : mc_cd 242 75 = some (.return_, 1) := by decide +kernel
abbrev q_242 (r0 : Nat) (pp : Nat) (T : wq_T) (H : wq_H) : Option Value → wq_T → wq_H → Prop := fun r T' H' => T = T' ∧ WT T H' ∧ wfr [(42, 28), (42, 29), (51, 999), (52, 999)] T H H' ∧ none = r ∧ (wKI H' r0 = 1) ∧ (H' r0 29 = 0 ∨ 0 < wLM H' r0) ∧ (wLM H' r0 = wLM H r0)
set_option maxHeartbeats 4000000 in
theorem s_242 {kt : Nat → Option mc_E} {T : wq_T} {H : wq_H} {r0 : Nat} {pp : Nat} (hW : WT T H) (g0 : T.2.2.2 r0 = some 42) (qpp : H r0 3 = (pp : Int)) (gpp : T.2.2.2 pp = some 54) (p0 : wKI H r0 = 1) (p1 : wLM H r0 ≤ 20000) : wpc kt 6 242 [.ref r0] T H (q_242 r0 pp T H) := by
  refine wp_enter e242 (Nat.le_of_ble_eq_true rfl) rfl ?_
  have f0 : wfr [(42, 28), (42, 29), (51, 999), (52, 999)] T H H := wfr.rf
  show wp _ _ 242 0 [(0, .ref r0)] [] _ H _
  have hk := wKI_1.mp p0
  refine wp_of e242 c242_0 (rw_aload_n (pc' := 1) (v := .ref r0) rfl rfl rfl ?_)
  refine wp_of e242 c242_1 (xg_I (pc' := 4) lf_9_353 hW g0 sh_42 (by decide) (by decide) ty_42_28 rfl rfl (fun b131416 b131417 => ?_))
  refine wp_of e242 c242_4 (rw_if_eq (p1 := 8) (p2 := 7) (by decide) rfl ⟨by omega, by omega⟩ (fun c131418 => ?_) (fun c131418 => ?_))
  · refine wp_of e242 c242_8 (rw_aload_n (pc' := 9) (v := .ref r0) rfl rfl rfl ?_)
    refine wp_of e242 c242_9 (rw_iconst (pc' := 10) rfl ?_)
    refine wp_of e242 c242_10 (xp_I (pc' := 13) lf_9_422 hW g0 sh_42 (by decide) (by decide) ty_42_29 rfl rfl (by omega) (by omega) ⟨by omega, by omega⟩ rfl (fun H131419 e131420 w131421 => ?_))
    have f131422 := f0.put' e131420 g0 rfl
    have k131423 : H131419 r0 29 = 0 := wq_u_s e131420
    refine wp_of e242 c242_13 (rw_iconst (pc' := 14) rfl ?_)
    refine wp_of e242 c242_14 (rw_istore_n (pc' := 15) (z := 0) (L' := [(1, vI 0), (0, .ref r0)]) rfl rfl rfl ?_)
    have k131878 : wLM H131419 r0 = wLM H r0 := (wLM_fr hW g0 ((wfr.rf (l := [(42, 29)])).put' e131420 g0 rfl) rfl)
    have lp131873 : ∀ (n131874 : Nat) (v131876 : Int) (H131877 : wq_H), WT T H131877 → wfr [(42, 29), (51, 999), (52, 999)] T H131419 H131877 → (0 ≤ v131876 ∧ v131876 ≤ 20000) → (H131877 r0 29 ≤ v131876) → (H131877 r0 29 = 0 ∨ 0 < wLM H131877 r0) → (20000 - v131876).toNat = n131874 → wp kt 5 242 15 [(1, vI v131876), (0, .ref r0)] [] T H131877 (q_242 r0 pp T H) := by
      intro n131874
      induction n131874 using Nat.strongRecOn with
      | _ n131874 ih131875 =>
        intro v131876 H131877 w131879 f131880 b131881 x131882 x131883 m131884
        have f131885 := f131422.tr f131880 rfl
        have k131886 : wLM H131877 r0 = wLM H131419 r0 := (wLM_fr w131421 g0 f131880 rfl)
        refine wp_of e242 c242_15 (rw_iload_n (pc' := 16) (z := v131876) rfl rfl ?_)
        refine wp_of e242 c242_16 (rw_i2l (pc' := 17) rfl ⟨by omega, by omega⟩ ?_)
        refine wp_of e242 c242_17 (rw_aload_n (pc' := 18) (v := .ref r0) rfl rfl rfl ?_)
        have k131887 : H131877 r0 3 = H r0 3 := ((f131880 r0 3 _ g0 rfl).trans (wq_u_j e131420 rfl))
        have q131888 : H131877 r0 3 = (pp : Int) := k131887.trans qpp
        refine wp_of e242 c242_18 (xc_V (pc' := 21) (r := r0) (as := []) (st := [vL v131876]) (lm_9_376) rfl rfl (Nat.le_of_ble_eq_true rfl) w131879 g0 sh_42 (by decide) rfl (by decide) (s_220 w131879 g0 q131888 gpp) (fun R131889 T131890 H131891 p131892 => ?_))
        obtain ⟨e131893, e131895, z131897, e131894, b131898, p131896⟩ := p131892
        subst e131893
        subst e131894
        subst e131895
        show wp _ _ 242 21 [(1, vI v131876), (0, .ref r0)] [vL z131897, vL v131876] _ H131877 _
        refine wp_of e242 c242_21 (rw_lcmp (pc' := 22) rfl ⟨by omega, by omega⟩ ⟨by omega, by omega⟩ ?_)
        have b131899 := wq_cmp_b v131876 z131897
        refine wp_of e242 c242_22 (rw_if_ge (p1 := 70) (p2 := 25) (by decide) rfl ⟨by omega, by omega⟩ (fun c131900 => ?_) (fun c131900 => ?_))
        · refine wp_of e242 c242_70 (rw_aload_n (pc' := 71) (v := .ref r0) rfl rfl rfl ?_)
          refine wp_of e242 c242_71 (rw_iconst (pc' := 72) rfl ?_)
          refine wp_of e242 c242_72 (xp_Z (pc' := 75) lf_9_353 w131879 g0 sh_42 (by decide) (by decide) ty_42_28 rfl rfl (by omega) (by omega) rfl (fun H131901 e131902 w131903 => ?_))
          have f131904 := f131885.put' e131902 g0 rfl
          have k131905 : H131901 r0 28 = 1 := wq_u_s e131902
          have k131906 : H131901 r0 29 = H131877 r0 29 := (wq_u_j e131902 rfl)
          have k131907 : wLM H131901 r0 = wLM H131877 r0 := (wLM_fr w131879 g0 ((wfr.rf (l := [(42, 28)])).put' e131902 g0 rfl) rfl)
          have k131908 : wKI H131901 r0 = 1 := wKI_1.mpr (by omega)
          exact wp_return e242 c242_75 rfl ⟨rfl, w131903, f131904, rfl, by omega, by omega, by omega⟩
        · refine wp_of e242 c242_25 (rw_aload_n (pc' := 26) (v := .ref r0) rfl rfl rfl ?_)
          refine wp_of e242 c242_26 (rw_iload_n (pc' := 27) (z := v131876) rfl rfl ?_)
          refine wp_of e242 c242_27 (xc_V (pc' := 30) (r := r0) (as := [vI v131876]) (st := []) (lm_9_425) rfl rfl (Nat.le_of_ble_eq_true rfl) w131879 g0 sh_42 (by decide) rfl (by decide) (s_243 w131879 g0 ⟨by omega, by omega⟩ q131888 gpp (by omega)) (fun R131909 T131910 H131911 p131912 => ?_))
          obtain ⟨e131913, w131915, f131916, e131914⟩ := p131912
          subst e131913
          subst e131914
          have f131917 := f131885.tr f131916 rfl
          have f131918 := f131880.tr f131916 rfl
          show wp _ _ 242 30 [(1, vI v131876), (0, .ref r0)] [] _ H131911 _
          refine wp_of e242 c242_30 (rw_aload_n (pc' := 31) (v := .ref r0) rfl rfl rfl ?_)
          refine wp_of e242 c242_31 (rw_aload_n (pc' := 32) (v := .ref r0) rfl rfl rfl ?_)
          refine wp_of e242 c242_32 (xg_R (pc' := 35) lf_9_39 w131915 g0 sh_42 (by decide) (by decide) ty_42_27 rfl rfl (fun r131919 q131920 g131921 => ?_))
          have k131922 : H131911 r0 3 = H131877 r0 3 := (f131916 r0 3 _ g0 rfl)
          have q131923 : H131911 r0 3 = (pp : Int) := k131922.trans q131888
          refine wp_of e242 c242_35 (xc_V (pc' := 38) (r := r0) (as := [.ref r131919]) (st := []) (lm_9_418) rfl rfl (Nat.le_of_ble_eq_true rfl) w131915 g0 sh_42 (by decide) rfl (by decide) (s_238_m_lot w131915 g0 g131921 q131923 gpp) (fun R131924 T131925 H131926 p131927 => ?_))
          obtain ⟨e131928, e131930, z131931, e131929, b131932⟩ := p131927
          subst e131928
          subst e131929
          subst e131930
          show wp _ _ 242 38 [(1, vI v131876), (0, .ref r0)] [vI z131931] _ H131911 _
          refine wp_of e242 c242_38 (rw_if_ne (p1 := 44) (p2 := 41) (by decide) rfl ⟨by omega, by omega⟩ (fun c131933 => ?_) (fun c131933 => ?_))
          · refine wp_of e242 c242_44 (rw_aload_n (pc' := 45) (v := .ref r0) rfl rfl rfl ?_)
            refine wp_of e242 c242_45 (xg_R (pc' := 48) lf_9_42 w131915 g0 sh_42 (by decide) (by decide) ty_42_30 rfl rfl (fun r131934 q131935 g131936 => ?_))
            refine wp_of e242 c242_48 (rw_aload_n (pc' := 49) (v := .ref r0) rfl rfl rfl ?_)
            have k131937 : H131911 r0 29 = H131877 r0 29 := (f131916 r0 29 _ g0 rfl)
            refine wp_of e242 c242_49 (xg_I (pc' := 52) lf_9_422 w131915 g0 sh_42 (by decide) (by decide) ty_42_29 rfl rfl (fun b131938 b131939 => ?_))
            refine wp_of e242 c242_52 (rw_iload_n (pc' := 53) (z := v131876) rfl rfl ?_)
            refine wp_of e242 c242_53 (xs_I (pc' := 54) w131915 g131936 (by decide) sh_52 (by decide) (ty_52 _) (by omega) (by omega) ⟨by omega, by omega⟩ (by omega) (by omega) rfl (fun H131940 e131941 w131942 => ?_))
            have f131943 := f131917.put' e131941 g131936 rfl
            have f131944 := f131918.put' e131941 g131936 rfl
            refine wp_of e242 c242_54 (rw_aload_n (pc' := 55) (v := .ref r0) rfl rfl rfl ?_)
            refine wp_of e242 c242_55 (rw_dup (pc' := 56) rfl rfl ?_)
            have k131945 : H131940 r0 29 = H131911 r0 29 := (wq_u_t e131941 g131936 g0 rfl 29)
            refine wp_of e242 c242_56 (xg_I (pc' := 59) lf_9_422 w131942 g0 sh_42 (by decide) (by decide) ty_42_29 rfl rfl (fun b131946 b131947 => ?_))
            refine wp_of e242 c242_59 (rw_iconst (pc' := 60) rfl ?_)
            refine wp_of e242 c242_60 (rw_iadd (pc' := 61) rfl ?_)
            refine wp_of e242 c242_61 (xp_I (pc' := 64) lf_9_422 w131942 g0 sh_42 (by decide) (by decide) ty_42_29 rfl rfl (by omega) (by omega) ⟨by omega, by omega⟩ rfl (fun H131948 e131949 w131950 => ?_))
            have f131951 := f131943.put' e131949 g0 rfl
            have f131952 := f131944.put' e131949 g0 rfl
            have k131953 : H131948 r0 29 = (H131940 r0 29) + 1 := wq_u_s e131949
            refine wp_of e242 c242_64 (rw_iinc (pc' := 67) (z := v131876) (L' := [(1, vI (v131876 + 1)), (0, .ref r0)]) rfl rfl rfl rfl ?_)
            refine wp_of e242 c242_67 (rw_goto (p1 := 15) (by decide) ?_)
            have k131954 : wLM H131948 r0 = wLM H131877 r0 := ((wLM_fr w131942 g0 ((wfr.rf (l := [(42, 29)])).put' e131949 g0 rfl) rfl).trans ((wLM_fr w131915 g0 ((wfr.rf (l := [(52, 999)])).put' e131941 g131936 rfl) rfl).trans (wLM_fr w131879 g0 f131916 rfl)))
            exact wp_lc (ks := [1, 0]) (wl_c rfl (wl_c rfl wl_n)) rfl (by decide) (ih131875 _ (by omega) (v131876 + 1) H131948 w131950 f131952 ⟨by omega, by omega⟩ (by omega) (by omega) rfl)
          · refine wp_of e242 c242_41 (rw_goto (p1 := 64) (by decide) ?_)
            refine wp_of e242 c242_64 (rw_iinc (pc' := 67) (z := v131876) (L' := [(1, vI (v131876 + 1)), (0, .ref r0)]) rfl rfl rfl rfl ?_)
            refine wp_of e242 c242_67 (rw_goto (p1 := 15) (by decide) ?_)
            have k131955 : H131911 r0 29 = H131877 r0 29 := (f131916 r0 29 _ g0 rfl)
            have k131956 : wLM H131911 r0 = wLM H131877 r0 := (wLM_fr w131879 g0 f131916 rfl)
            exact wp_lc (ks := [1, 0]) (wl_c rfl (wl_c rfl wl_n)) rfl (by decide) (ih131875 _ (by omega) (v131876 + 1) H131911 w131915 f131918 ⟨by omega, by omega⟩ (by omega) (by omega) rfl)
    exact wp_lc (ks := [1, 0]) (wl_c rfl (wl_c rfl wl_n)) rfl (by decide) (lp131873 _ 0 H131419 w131421 wfr.rf ⟨by omega, by omega⟩ (by omega) (by omega) rfl)
  · exact wp_return e242 c242_7 rfl ⟨rfl, hW, f0, rfl, by omega, by omega, by omega⟩
/-! StrikeAwakeModel.refusesWorlds(Z)I -/
theorem e241 : wq_en 241 = some (9, 2, false, some FieldType.int) := rfl
theorem c241_0 : mc_cd 241 0 = some (.iload_n 1, 1) := by decide +kernel
theorem c241_1 : mc_cd 241 1 = some (.ifCond .ne 5, 3) := by decide +kernel
theorem c241_4 : mc_cd 241 4 = some (.iconst 1, 1) := by decide +kernel
theorem c241_5 : mc_cd 241 5 = some (.ireturn, 1) := by decide +kernel
theorem c241_6 : mc_cd 241 6 = some (.aload_n 0, 1) := by decide +kernel
theorem c241_7 : mc_cd 241 7 = some (.invokevirtual 376, 3) := by decide +kernel
theorem c241_10 : mc_cd 241 10 = some (.ldc2_w 428, 3) := by decide +kernel
theorem c241_13 : mc_cd 241 13 = some (.lcmp, 1) := by decide +kernel
theorem c241_14 : mc_cd 241 14 = some (.ifCond .le 5, 3) := by decide +kernel
theorem c241_17 : mc_cd 241 17 = some (.iconst 3, 1) := by decide +kernel
theorem c241_18 : mc_cd 241 18 = some (.ireturn, 1) := by decide +kernel
theorem c241_19 : mc_cd 241 19 = some (.aload_n 0, 1) := by decide +kernel
theorem c241_20 : mc_cd 241 20 = some (.invokevirtual 430, 3) := by decide +kernel
theorem c241_23 : mc_cd 241 23 = some (.iconst 0, 1) := by decide +kernel
theorem c241_24 : mc_cd 241 24 = some (.ireturn, 1) := by decide +kernel
abbrev q_241 (r0 : Nat) (a1 : Int) (T : wq_T) (H : wq_H) : Option Value → wq_T → wq_H → Prop := fun r T' H' => T = T' ∧ WT T H' ∧ wfr [(42, 28), (42, 29), (51, 999), (52, 999)] T H H' ∧ ∃ z : Int, some (vI z) = r ∧ (0 ≤ z ∧ z ≤ 6) ∧ (z ≠ 0 ∨ a1 = 1) ∧ (z ≠ 0 ∨ wLM H' r0 ≤ 20000) ∧ (wKI H' r0 = 1) ∧ (z ≠ 0 ∨ H' r0 29 = 0 ∨ 0 < wLM H' r0)
set_option maxHeartbeats 4000000 in
theorem s_241 {kt : Nat → Option mc_E} {T : wq_T} {H : wq_H} {r0 : Nat} {a1 : Int} (hW : WT T H) (g0 : T.2.2.2 r0 = some 42) (i1 : 0 ≤ a1 ∧ a1 ≤ 1) (p0 : a1 = 0 ∨ H r0 3 ≠ -1) (p1 : wKI H r0 = 1) : wpc kt 7 241 [.ref r0, vI a1] T H (q_241 r0 a1 T H) := by
  refine wp_enter e241 (Nat.le_of_ble_eq_true rfl) rfl ?_
  have f0 : wfr [(42, 28), (42, 29), (51, 999), (52, 999)] T H H := wfr.rf
  show wp _ _ 241 0 [(0, .ref r0), (1, vI a1)] [] _ H _
  refine wp_of e241 c241_0 (rw_iload_n (pc' := 1) (z := a1) rfl rfl ?_)
  refine wp_of e241 c241_1 (rw_if_ne (p1 := 6) (p2 := 4) (by decide) rfl ⟨by omega, by omega⟩ (fun c131985 => ?_) (fun c131985 => ?_))
  · refine wp_of e241 c241_6 (rw_aload_n (pc' := 7) (v := .ref r0) rfl rfl rfl ?_)
    obtain ⟨r131986, q131987, g131988⟩ := (hW.opt g0 (t' := 54) (n := 33) (j := 3) (p := 0) (q := 0) rfl (by decide) rfl).resolve_left (by omega)
    refine wp_of e241 c241_7 (xc_V (pc' := 10) (r := r0) (as := []) (st := []) (lm_9_376) rfl rfl (Nat.le_of_ble_eq_true rfl) hW g0 sh_42 (by decide) rfl (by decide) (s_220 hW g0 q131987 g131988) (fun R131989 T131990 H131991 p131992 => ?_))
    obtain ⟨e131993, e131995, z131997, e131994, b131998, p131996⟩ := p131992
    subst e131993
    subst e131994
    subst e131995
    show wp _ _ 241 10 [(0, .ref r0), (1, vI a1)] [vL z131997] _ H _
    refine wp_of e241 c241_10 (rw_ldc2 (pc' := 13) (z := 20000) rfl rfl rfl ?_)
    refine wp_of e241 c241_13 (rw_lcmp (pc' := 14) rfl ⟨by omega, by omega⟩ ⟨by omega, by omega⟩ ?_)
    have b131999 := wq_cmp_b z131997 20000
    refine wp_of e241 c241_14 (rw_if_le (p1 := 19) (p2 := 17) (by decide) rfl ⟨by omega, by omega⟩ (fun c132000 => ?_) (fun c132000 => ?_))
    · refine wp_of e241 c241_19 (rw_aload_n (pc' := 20) (v := .ref r0) rfl rfl rfl ?_)
      refine wp_of e241 c241_20 (xc_V (pc' := 23) (r := r0) (as := []) (st := []) (lm_9_430) rfl rfl (Nat.le_of_ble_eq_true rfl) hW g0 sh_42 (by decide) rfl (by decide) (s_242 hW g0 q131987 g131988 (by omega) (by omega)) (fun R132001 T132002 H132003 p132004 => ?_))
      obtain ⟨e132005, w132007, f132008, e132006, p132009, p132010, p132011⟩ := p132004
      subst e132005
      subst e132006
      have f132012 := f0.tr f132008 rfl
      show wp _ _ 241 23 [(0, .ref r0), (1, vI a1)] [] _ H132003 _
      refine wp_of e241 c241_23 (rw_iconst (pc' := 24) rfl ?_)
      exact wp_ireturn e241 c241_24 rfl ⟨rfl, w132007, f132012, 0, rfl, ⟨by omega, by omega⟩, by omega, by omega, by omega, by omega⟩
    · refine wp_of e241 c241_17 (rw_iconst (pc' := 18) rfl ?_)
      exact wp_ireturn e241 c241_18 rfl ⟨rfl, hW, f0, 3, rfl, ⟨by omega, by omega⟩, by omega, by omega, by omega, by omega⟩
  · refine wp_of e241 c241_4 (rw_iconst (pc' := 5) rfl ?_)
    exact wp_ireturn e241 c241_5 rfl ⟨rfl, hW, f0, 1, rfl, ⟨by omega, by omega⟩, by omega, by omega, by omega, by omega⟩
/-! StrikeAwakeModel.worlds()I -/
theorem e240 : wq_en 240 = some (9, 2, false, some FieldType.int) := rfl
theorem c240_0 : mc_cd 240 0 = some (.aload_n 0, 1) := by decide +kernel
theorem c240_1 : mc_cd 240 1 = some (.iconst 0, 1) := by decide +kernel
theorem c240_2 : mc_cd 240 2 = some (.putfield 48, 3) := by decide +kernel
theorem c240_5 : mc_cd 240 5 = some (.aload_n 0, 1) := by decide +kernel
theorem c240_6 : mc_cd 240 6 = some (.aload_n 0, 1) := by decide +kernel
theorem c240_7 : mc_cd 240 7 = some (.getfield 337, 3) := by decide +kernel
theorem c240_10 : mc_cd 240 10 = some (.ifnull 7, 3) := by decide +kernel
theorem c240_13 : mc_cd 240 13 = some (.iconst 1, 1) := by decide +kernel
theorem c240_14 : mc_cd 240 14 = some (.goto 4, 3) := by decide +kernel
theorem c240_17 : mc_cd 240 17 = some (.iconst 0, 1) := by decide +kernel
theorem c240_18 : mc_cd 240 18 = some (.invokevirtual 433, 3) := by decide +kernel
theorem c240_21 : mc_cd 240 21 = some (.istore_n 1, 1) := by decide +kernel
theorem c240_22 : mc_cd 240 22 = some (.iload_n 1, 1) := by decide +kernel
theorem c240_23 : mc_cd 240 23 = some (.ifCond .le 11, 3) := by decide +kernel
theorem c240_26 : mc_cd 240 26 = some (.aload_n 0, 1) := by decide +kernel
theorem c240_27 : mc_cd 240 27 = some (.iload_n 1, 1) := by decide +kernel
theorem c240_28 : mc_cd 240 28 = some (.invokevirtual 54, 3) := by decide +kernel
theorem c240_31 : mc_cd 240 31 = some (.goto 11, 3) := by decide +kernel
theorem c240_34 : mc_cd 240 34 = some (.aload_n 0, 1) := by decide +kernel
theorem c240_35 : mc_cd 240 35 = some (.aload_n 0, 1) := by decide +kernel
theorem c240_36 : mc_cd 240 36 = some (.getfield 422, 3) := by decide +kernel
theorem c240_39 : mc_cd 240 39 = some (.invokevirtual 58, 3) := by decide +kernel
theorem c240_42 : mc_cd 240 42 = some (.ireturn, 1) := by decide +kernel
abbrev q_240 (r0 : Nat) (T : wq_T) (H : wq_H) : Option Value → wq_T → wq_H → Prop := fun r T' H' => T = T' ∧ WT T H' ∧ wfr [(42, 0), (42, 1), (42, 2), (42, 28), (42, 29), (51, 999), (52, 999)] T H H' ∧ ∃ z : Int, some (vI z) = r ∧ ((-2147483648) ≤ z ∧ z ≤ 2147483647) ∧ (wKI H' r0 = 1)
set_option maxHeartbeats 4000000 in
theorem s_240 {kt : Nat → Option mc_E} {T : wq_T} {H : wq_H} {r0 : Nat} (hW : WT T H) (g0 : T.2.2.2 r0 = some 42) (p0 : wKI H r0 = 1) : wpc kt 8 240 [.ref r0] T H (q_240 r0 T H) := by
  refine wp_enter e240 (Nat.le_of_ble_eq_true rfl) rfl ?_
  have f0 : wfr [(42, 0), (42, 1), (42, 2), (42, 28), (42, 29), (51, 999), (52, 999)] T H H := wfr.rf
  show wp _ _ 240 0 [(0, .ref r0)] [] _ H _
  refine wp_of e240 c240_0 (rw_aload_n (pc' := 1) (v := .ref r0) rfl rfl rfl ?_)
  refine wp_of e240 c240_1 (rw_iconst (pc' := 2) rfl ?_)
  refine wp_of e240 c240_2 (xp_I (pc' := 5) lf_9_48 hW g0 sh_42 (by decide) (by decide) ty_42_0 rfl rfl (by omega) (by omega) ⟨by omega, by omega⟩ rfl (fun H132093 e132094 w132095 => ?_))
  have f132096 := f0.put' e132094 g0 rfl
  have k132097 : H132093 r0 0 = 0 := wq_u_s e132094
  refine wp_of e240 c240_5 (rw_aload_n (pc' := 6) (v := .ref r0) rfl rfl rfl ?_)
  refine wp_of e240 c240_6 (rw_aload_n (pc' := 7) (v := .ref r0) rfl rfl rfl ?_)
  refine wp_of e240 c240_7 (xg_O (pc' := 10) lf_9_337 w132095 g0 sh_42 (by decide) (by decide) ty_42_3 rfl rfl (fun q132099 => ?_) (fun r132098 q132099 g132100 => ?_))
  · refine wp_of e240 c240_10 (rw_ifnull_n (p1 := 17) (p2 := 13) (by decide) rfl ?_)
    refine wp_of e240 c240_17 (rw_iconst (pc' := 18) rfl ?_)
    have k132101 : wKI H132093 r0 = wKI H r0 := (wKI_fr hW g0 ((wfr.rf (l := [(42, 0)])).put' e132094 g0 rfl) rfl)
    refine wp_of e240 c240_18 (xc_V (pc' := 21) (r := r0) (as := [vI 0]) (st := []) (lm_9_433) rfl rfl (Nat.le_of_ble_eq_true rfl) w132095 g0 sh_42 (by decide) rfl (by decide) (s_241 w132095 g0 ⟨by omega, by omega⟩ (by omega) (by omega)) (fun R132102 T132103 H132104 p132105 => ?_))
    obtain ⟨e132106, w132108, f132109, z132114, e132107, b132115, p132110, p132111, p132112, p132113⟩ := p132105
    subst e132106
    subst e132107
    have f132116 := f132096.tr f132109 rfl
    show wp _ _ 240 21 [(0, .ref r0)] [vI z132114] _ H132104 _
    refine wp_of e240 c240_21 (rw_istore_n (pc' := 22) (z := z132114) (L' := [(1, vI z132114), (0, .ref r0)]) rfl rfl rfl ?_)
    refine wp_of e240 c240_22 (rw_iload_n (pc' := 23) (z := z132114) rfl rfl ?_)
    refine wp_of e240 c240_23 (rw_if_le (p1 := 34) (p2 := 26) (by decide) rfl ⟨by omega, by omega⟩ (fun c132117 => ?_) (fun c132117 => ?_))
    · exfalso
      omega
    · refine wp_of e240 c240_26 (rw_aload_n (pc' := 27) (v := .ref r0) rfl rfl rfl ?_)
      refine wp_of e240 c240_27 (rw_iload_n (pc' := 28) (z := z132114) rfl rfl ?_)
      refine wp_of e240 c240_28 (xc_V (pc' := 31) (r := r0) (as := [vI z132114]) (st := []) (lm_9_54) rfl rfl (Nat.le_of_ble_eq_true rfl) w132108 g0 sh_42 (by decide) rfl (by decide) (s_170 w132108 g0 ⟨by omega, by omega⟩) (fun R132118 T132119 H132120 p132121 => ?_))
      obtain ⟨e132122, w132124, f132125, z132126, e132123, b132127⟩ := p132121
      subst e132122
      subst e132123
      have f132128 := f132116.tr f132125 rfl
      show wp _ _ 240 31 [(1, vI z132114), (0, .ref r0)] [vI z132126] _ H132120 _
      refine wp_of e240 c240_31 (rw_goto (p1 := 42) (by decide) ?_)
      have k132129 : wKI H132120 r0 = wKI H132104 r0 := (wKI_fr w132108 g0 f132125 rfl)
      exact wp_ireturn e240 c240_42 rfl ⟨rfl, w132124, f132128, z132126, rfl, ⟨by omega, by omega⟩, by omega⟩
  · refine wp_of e240 c240_10 (rw_ifnull_r (p1 := 17) (p2 := 13) (by decide) rfl ?_)
    refine wp_of e240 c240_13 (rw_iconst (pc' := 14) rfl ?_)
    refine wp_of e240 c240_14 (rw_goto (p1 := 18) (by decide) ?_)
    have k132130 : wKI H132093 r0 = wKI H r0 := (wKI_fr hW g0 ((wfr.rf (l := [(42, 0)])).put' e132094 g0 rfl) rfl)
    refine wp_of e240 c240_18 (xc_V (pc' := 21) (r := r0) (as := [vI 1]) (st := []) (lm_9_433) rfl rfl (Nat.le_of_ble_eq_true rfl) w132095 g0 sh_42 (by decide) rfl (by decide) (s_241 w132095 g0 ⟨by omega, by omega⟩ (by omega) (by omega)) (fun R132131 T132132 H132133 p132134 => ?_))
    obtain ⟨e132135, w132137, f132138, z132143, e132136, b132144, p132139, p132140, p132141, p132142⟩ := p132134
    subst e132135
    subst e132136
    have f132145 := f132096.tr f132138 rfl
    show wp _ _ 240 21 [(0, .ref r0)] [vI z132143] _ H132133 _
    refine wp_of e240 c240_21 (rw_istore_n (pc' := 22) (z := z132143) (L' := [(1, vI z132143), (0, .ref r0)]) rfl rfl rfl ?_)
    refine wp_of e240 c240_22 (rw_iload_n (pc' := 23) (z := z132143) rfl rfl ?_)
    refine wp_of e240 c240_23 (rw_if_le (p1 := 34) (p2 := 26) (by decide) rfl ⟨by omega, by omega⟩ (fun c132146 => ?_) (fun c132146 => ?_))
    · refine wp_of e240 c240_34 (rw_aload_n (pc' := 35) (v := .ref r0) rfl rfl rfl ?_)
      refine wp_of e240 c240_35 (rw_aload_n (pc' := 36) (v := .ref r0) rfl rfl rfl ?_)
      refine wp_of e240 c240_36 (xg_I (pc' := 39) lf_9_422 w132137 g0 sh_42 (by decide) (by decide) ty_42_29 rfl rfl (fun b132147 b132148 => ?_))
      refine wp_of e240 c240_39 (xc_V (pc' := 42) (r := r0) (as := [vI (H132133 r0 29)]) (st := []) (lm_9_58) rfl rfl (Nat.le_of_ble_eq_true rfl) w132137 g0 sh_42 (by decide) rfl (by decide) (s_209 w132137 g0 ⟨by omega, by omega⟩) (fun R132149 T132150 H132151 p132152 => ?_))
      obtain ⟨e132153, w132155, f132156, z132157, e132154, b132158⟩ := p132152
      subst e132153
      subst e132154
      have f132159 := f132145.tr f132156 rfl
      show wp _ _ 240 42 [(1, vI z132143), (0, .ref r0)] [vI z132157] _ H132151 _
      have k132160 : wKI H132151 r0 = wKI H132133 r0 := (wKI_fr w132137 g0 f132156 rfl)
      exact wp_ireturn e240 c240_42 rfl ⟨rfl, w132155, f132159, z132157, rfl, ⟨by omega, by omega⟩, by omega⟩
    · refine wp_of e240 c240_26 (rw_aload_n (pc' := 27) (v := .ref r0) rfl rfl rfl ?_)
      refine wp_of e240 c240_27 (rw_iload_n (pc' := 28) (z := z132143) rfl rfl ?_)
      refine wp_of e240 c240_28 (xc_V (pc' := 31) (r := r0) (as := [vI z132143]) (st := []) (lm_9_54) rfl rfl (Nat.le_of_ble_eq_true rfl) w132137 g0 sh_42 (by decide) rfl (by decide) (s_170 w132137 g0 ⟨by omega, by omega⟩) (fun R132161 T132162 H132163 p132164 => ?_))
      obtain ⟨e132165, w132167, f132168, z132169, e132166, b132170⟩ := p132164
      subst e132165
      subst e132166
      have f132171 := f132145.tr f132168 rfl
      show wp _ _ 240 31 [(1, vI z132143), (0, .ref r0)] [vI z132169] _ H132163 _
      refine wp_of e240 c240_31 (rw_goto (p1 := 42) (by decide) ?_)
      have k132172 : wKI H132163 r0 = wKI H132133 r0 := (wKI_fr w132137 g0 f132168 rfl)
      exact wp_ireturn e240 c240_42 rfl ⟨rfl, w132167, f132171, z132169, rfl, ⟨by omega, by omega⟩, by omega⟩
/-! StrikeAwakeModel.can()I -/
theorem e244 : wq_en 244 = some (9, 2, false, some FieldType.int) := rfl
theorem c244_0 : mc_cd 244 0 = some (.aload_n 0, 1) := by decide +kernel
theorem c244_1 : mc_cd 244 1 = some (.iconst 0, 1) := by decide +kernel
theorem c244_2 : mc_cd 244 2 = some (.putfield 48, 3) := by decide +kernel
theorem c244_5 : mc_cd 244 5 = some (.aload_n 0, 1) := by decide +kernel
theorem c244_6 : mc_cd 244 6 = some (.aload_n 0, 1) := by decide +kernel
theorem c244_7 : mc_cd 244 7 = some (.getfield 337, 3) := by decide +kernel
theorem c244_10 : mc_cd 244 10 = some (.ifnull 7, 3) := by decide +kernel
theorem c244_13 : mc_cd 244 13 = some (.iconst 1, 1) := by decide +kernel
theorem c244_14 : mc_cd 244 14 = some (.goto 4, 3) := by decide +kernel
theorem c244_17 : mc_cd 244 17 = some (.iconst 0, 1) := by decide +kernel
theorem c244_18 : mc_cd 244 18 = some (.invokevirtual 433, 3) := by decide +kernel
theorem c244_21 : mc_cd 244 21 = some (.istore_n 1, 1) := by decide +kernel
theorem c244_22 : mc_cd 244 22 = some (.iload_n 1, 1) := by decide +kernel
theorem c244_23 : mc_cd 244 23 = some (.ifCond .le 11, 3) := by decide +kernel
theorem c244_26 : mc_cd 244 26 = some (.aload_n 0, 1) := by decide +kernel
theorem c244_27 : mc_cd 244 27 = some (.iload_n 1, 1) := by decide +kernel
theorem c244_28 : mc_cd 244 28 = some (.invokevirtual 54, 3) := by decide +kernel
theorem c244_31 : mc_cd 244 31 = some (.goto 19, 3) := by decide +kernel
theorem c244_34 : mc_cd 244 34 = some (.aload_n 0, 1) := by decide +kernel
theorem c244_35 : mc_cd 244 35 = some (.aload_n 0, 1) := by decide +kernel
theorem c244_36 : mc_cd 244 36 = some (.getfield 422, 3) := by decide +kernel
theorem c244_39 : mc_cd 244 39 = some (.ifCond .le 7, 3) := by decide +kernel
theorem c244_42 : mc_cd 244 42 = some (.iconst 1, 1) := by decide +kernel
theorem c244_43 : mc_cd 244 43 = some (.goto 4, 3) := by decide +kernel
theorem c244_46 : mc_cd 244 46 = some (.iconst 0, 1) := by decide +kernel
theorem c244_47 : mc_cd 244 47 = some (.invokevirtual 58, 3) := by decide +kernel
theorem c244_50 : mc_cd 244 50 = some (.ireturn, 1) := by decide +kernel
abbrev q_244 (r0 : Nat) (T : wq_T) (H : wq_H) : Option Value → wq_T → wq_H → Prop := fun r T' H' => T = T' ∧ WT T H' ∧ wfr [(42, 0), (42, 1), (42, 2), (42, 28), (42, 29), (51, 999), (52, 999)] T H H' ∧ ∃ z : Int, some (vI z) = r ∧ ((-2147483648) ≤ z ∧ z ≤ 2147483647) ∧ (wKI H' r0 = 1)
set_option maxHeartbeats 4000000 in
theorem s_244 {kt : Nat → Option mc_E} {T : wq_T} {H : wq_H} {r0 : Nat} (hW : WT T H) (g0 : T.2.2.2 r0 = some 42) (p0 : wKI H r0 = 1) : wpc kt 8 244 [.ref r0] T H (q_244 r0 T H) := by
  refine wp_enter e244 (Nat.le_of_ble_eq_true rfl) rfl ?_
  have f0 : wfr [(42, 0), (42, 1), (42, 2), (42, 28), (42, 29), (51, 999), (52, 999)] T H H := wfr.rf
  show wp _ _ 244 0 [(0, .ref r0)] [] _ H _
  refine wp_of e244 c244_0 (rw_aload_n (pc' := 1) (v := .ref r0) rfl rfl rfl ?_)
  refine wp_of e244 c244_1 (rw_iconst (pc' := 2) rfl ?_)
  refine wp_of e244 c244_2 (xp_I (pc' := 5) lf_9_48 hW g0 sh_42 (by decide) (by decide) ty_42_0 rfl rfl (by omega) (by omega) ⟨by omega, by omega⟩ rfl (fun H132266 e132267 w132268 => ?_))
  have f132269 := f0.put' e132267 g0 rfl
  have k132270 : H132266 r0 0 = 0 := wq_u_s e132267
  refine wp_of e244 c244_5 (rw_aload_n (pc' := 6) (v := .ref r0) rfl rfl rfl ?_)
  refine wp_of e244 c244_6 (rw_aload_n (pc' := 7) (v := .ref r0) rfl rfl rfl ?_)
  refine wp_of e244 c244_7 (xg_O (pc' := 10) lf_9_337 w132268 g0 sh_42 (by decide) (by decide) ty_42_3 rfl rfl (fun q132272 => ?_) (fun r132271 q132272 g132273 => ?_))
  · refine wp_of e244 c244_10 (rw_ifnull_n (p1 := 17) (p2 := 13) (by decide) rfl ?_)
    refine wp_of e244 c244_17 (rw_iconst (pc' := 18) rfl ?_)
    have k132274 : wKI H132266 r0 = wKI H r0 := (wKI_fr hW g0 ((wfr.rf (l := [(42, 0)])).put' e132267 g0 rfl) rfl)
    refine wp_of e244 c244_18 (xc_V (pc' := 21) (r := r0) (as := [vI 0]) (st := []) (lm_9_433) rfl rfl (Nat.le_of_ble_eq_true rfl) w132268 g0 sh_42 (by decide) rfl (by decide) (s_241 w132268 g0 ⟨by omega, by omega⟩ (by omega) (by omega)) (fun R132275 T132276 H132277 p132278 => ?_))
    obtain ⟨e132279, w132281, f132282, z132287, e132280, b132288, p132283, p132284, p132285, p132286⟩ := p132278
    subst e132279
    subst e132280
    have f132289 := f132269.tr f132282 rfl
    show wp _ _ 244 21 [(0, .ref r0)] [vI z132287] _ H132277 _
    refine wp_of e244 c244_21 (rw_istore_n (pc' := 22) (z := z132287) (L' := [(1, vI z132287), (0, .ref r0)]) rfl rfl rfl ?_)
    refine wp_of e244 c244_22 (rw_iload_n (pc' := 23) (z := z132287) rfl rfl ?_)
    refine wp_of e244 c244_23 (rw_if_le (p1 := 34) (p2 := 26) (by decide) rfl ⟨by omega, by omega⟩ (fun c132290 => ?_) (fun c132290 => ?_))
    · exfalso
      omega
    · refine wp_of e244 c244_26 (rw_aload_n (pc' := 27) (v := .ref r0) rfl rfl rfl ?_)
      refine wp_of e244 c244_27 (rw_iload_n (pc' := 28) (z := z132287) rfl rfl ?_)
      refine wp_of e244 c244_28 (xc_V (pc' := 31) (r := r0) (as := [vI z132287]) (st := []) (lm_9_54) rfl rfl (Nat.le_of_ble_eq_true rfl) w132281 g0 sh_42 (by decide) rfl (by decide) (s_170 w132281 g0 ⟨by omega, by omega⟩) (fun R132291 T132292 H132293 p132294 => ?_))
      obtain ⟨e132295, w132297, f132298, z132299, e132296, b132300⟩ := p132294
      subst e132295
      subst e132296
      have f132301 := f132289.tr f132298 rfl
      show wp _ _ 244 31 [(1, vI z132287), (0, .ref r0)] [vI z132299] _ H132293 _
      refine wp_of e244 c244_31 (rw_goto (p1 := 50) (by decide) ?_)
      have k132302 : wKI H132293 r0 = wKI H132277 r0 := (wKI_fr w132281 g0 f132298 rfl)
      exact wp_ireturn e244 c244_50 rfl ⟨rfl, w132297, f132301, z132299, rfl, ⟨by omega, by omega⟩, by omega⟩
  · refine wp_of e244 c244_10 (rw_ifnull_r (p1 := 17) (p2 := 13) (by decide) rfl ?_)
    refine wp_of e244 c244_13 (rw_iconst (pc' := 14) rfl ?_)
    refine wp_of e244 c244_14 (rw_goto (p1 := 18) (by decide) ?_)
    have k132303 : wKI H132266 r0 = wKI H r0 := (wKI_fr hW g0 ((wfr.rf (l := [(42, 0)])).put' e132267 g0 rfl) rfl)
    refine wp_of e244 c244_18 (xc_V (pc' := 21) (r := r0) (as := [vI 1]) (st := []) (lm_9_433) rfl rfl (Nat.le_of_ble_eq_true rfl) w132268 g0 sh_42 (by decide) rfl (by decide) (s_241 w132268 g0 ⟨by omega, by omega⟩ (by omega) (by omega)) (fun R132304 T132305 H132306 p132307 => ?_))
    obtain ⟨e132308, w132310, f132311, z132316, e132309, b132317, p132312, p132313, p132314, p132315⟩ := p132307
    subst e132308
    subst e132309
    have f132318 := f132269.tr f132311 rfl
    show wp _ _ 244 21 [(0, .ref r0)] [vI z132316] _ H132306 _
    refine wp_of e244 c244_21 (rw_istore_n (pc' := 22) (z := z132316) (L' := [(1, vI z132316), (0, .ref r0)]) rfl rfl rfl ?_)
    refine wp_of e244 c244_22 (rw_iload_n (pc' := 23) (z := z132316) rfl rfl ?_)
    refine wp_of e244 c244_23 (rw_if_le (p1 := 34) (p2 := 26) (by decide) rfl ⟨by omega, by omega⟩ (fun c132319 => ?_) (fun c132319 => ?_))
    · refine wp_of e244 c244_34 (rw_aload_n (pc' := 35) (v := .ref r0) rfl rfl rfl ?_)
      refine wp_of e244 c244_35 (rw_aload_n (pc' := 36) (v := .ref r0) rfl rfl rfl ?_)
      refine wp_of e244 c244_36 (xg_I (pc' := 39) lf_9_422 w132310 g0 sh_42 (by decide) (by decide) ty_42_29 rfl rfl (fun b132320 b132321 => ?_))
      refine wp_of e244 c244_39 (rw_if_le (p1 := 46) (p2 := 42) (by decide) rfl ⟨by omega, by omega⟩ (fun c132322 => ?_) (fun c132322 => ?_))
      · refine wp_of e244 c244_46 (rw_iconst (pc' := 47) rfl ?_)
        refine wp_of e244 c244_47 (xc_V (pc' := 50) (r := r0) (as := [vI 0]) (st := []) (lm_9_58) rfl rfl (Nat.le_of_ble_eq_true rfl) w132310 g0 sh_42 (by decide) rfl (by decide) (s_209 w132310 g0 ⟨by omega, by omega⟩) (fun R132323 T132324 H132325 p132326 => ?_))
        obtain ⟨e132327, w132329, f132330, z132331, e132328, b132332⟩ := p132326
        subst e132327
        subst e132328
        have f132333 := f132318.tr f132330 rfl
        show wp _ _ 244 50 [(1, vI z132316), (0, .ref r0)] [vI z132331] _ H132325 _
        have k132334 : wKI H132325 r0 = wKI H132306 r0 := (wKI_fr w132310 g0 f132330 rfl)
        exact wp_ireturn e244 c244_50 rfl ⟨rfl, w132329, f132333, z132331, rfl, ⟨by omega, by omega⟩, by omega⟩
      · refine wp_of e244 c244_42 (rw_iconst (pc' := 43) rfl ?_)
        refine wp_of e244 c244_43 (rw_goto (p1 := 47) (by decide) ?_)
        refine wp_of e244 c244_47 (xc_V (pc' := 50) (r := r0) (as := [vI 1]) (st := []) (lm_9_58) rfl rfl (Nat.le_of_ble_eq_true rfl) w132310 g0 sh_42 (by decide) rfl (by decide) (s_209 w132310 g0 ⟨by omega, by omega⟩) (fun R132335 T132336 H132337 p132338 => ?_))
        obtain ⟨e132339, w132341, f132342, z132343, e132340, b132344⟩ := p132338
        subst e132339
        subst e132340
        have f132345 := f132318.tr f132342 rfl
        show wp _ _ 244 50 [(1, vI z132316), (0, .ref r0)] [vI z132343] _ H132337 _
        have k132346 : wKI H132337 r0 = wKI H132306 r0 := (wKI_fr w132310 g0 f132342 rfl)
        exact wp_ireturn e244 c244_50 rfl ⟨rfl, w132341, f132345, z132343, rfl, ⟨by omega, by omega⟩, by omega⟩
    · refine wp_of e244 c244_26 (rw_aload_n (pc' := 27) (v := .ref r0) rfl rfl rfl ?_)
      refine wp_of e244 c244_27 (rw_iload_n (pc' := 28) (z := z132316) rfl rfl ?_)
      refine wp_of e244 c244_28 (xc_V (pc' := 31) (r := r0) (as := [vI z132316]) (st := []) (lm_9_54) rfl rfl (Nat.le_of_ble_eq_true rfl) w132310 g0 sh_42 (by decide) rfl (by decide) (s_170 w132310 g0 ⟨by omega, by omega⟩) (fun R132347 T132348 H132349 p132350 => ?_))
      obtain ⟨e132351, w132353, f132354, z132355, e132352, b132356⟩ := p132350
      subst e132351
      subst e132352
      have f132357 := f132318.tr f132354 rfl
      show wp _ _ 244 31 [(1, vI z132316), (0, .ref r0)] [vI z132355] _ H132349 _
      refine wp_of e244 c244_31 (rw_goto (p1 := 50) (by decide) ?_)
      have k132358 : wKI H132349 r0 = wKI H132306 r0 := (wKI_fr w132310 g0 f132354 rfl)
      exact wp_ireturn e244 c244_50 rfl ⟨rfl, w132353, f132357, z132355, rfl, ⟨by omega, by omega⟩, by omega⟩
/-! StrikeAwakeModel.world(II)I -/
theorem e245 : wq_en 245 = some (9, 4, false, some FieldType.int) := rfl
theorem c245_0 : mc_cd 245 0 = some (.aload_n 0, 1) := by decide +kernel
theorem c245_1 : mc_cd 245 1 = some (.iconst 0, 1) := by decide +kernel
theorem c245_2 : mc_cd 245 2 = some (.putfield 48, 3) := by decide +kernel
theorem c245_5 : mc_cd 245 5 = some (.aload_n 0, 1) := by decide +kernel
theorem c245_6 : mc_cd 245 6 = some (.aload_n 0, 1) := by decide +kernel
theorem c245_7 : mc_cd 245 7 = some (.iload_n 2, 1) := by decide +kernel
theorem c245_8 : mc_cd 245 8 = some (.invokevirtual 364, 3) := by decide +kernel
theorem c245_11 : mc_cd 245 11 = some (.ifCond .eq 11, 3) := by decide +kernel
theorem c245_14 : mc_cd 245 14 = some (.iload_n 1, 1) := by decide +kernel
theorem c245_15 : mc_cd 245 15 = some (.ifCond .lt 7, 3) := by decide +kernel
theorem c245_18 : mc_cd 245 18 = some (.iconst 1, 1) := by decide +kernel
theorem c245_19 : mc_cd 245 19 = some (.goto 4, 3) := by decide +kernel
theorem c245_22 : mc_cd 245 22 = some (.iconst 0, 1) := by decide +kernel
theorem c245_23 : mc_cd 245 23 = some (.invokevirtual 433, 3) := by decide +kernel
theorem c245_26 : mc_cd 245 26 = some (.istore_n 3, 1) := by decide +kernel
theorem c245_27 : mc_cd 245 27 = some (.iload_n 3, 1) := by decide +kernel
theorem c245_28 : mc_cd 245 28 = some (.ifCond .ne 13, 3) := by decide +kernel
theorem c245_31 : mc_cd 245 31 = some (.iload_n 1, 1) := by decide +kernel
theorem c245_32 : mc_cd 245 32 = some (.aload_n 0, 1) := by decide +kernel
theorem c245_33 : mc_cd 245 33 = some (.getfield 422, 3) := by decide +kernel
theorem c245_36 : mc_cd 245 36 = some (.if_icmp .lt 5, 3) := by decide +kernel
theorem c245_39 : mc_cd 245 39 = some (.iconst 1, 1) := by decide +kernel
theorem c245_40 : mc_cd 245 40 = some (.istore_n 3, 1) := by decide +kernel
theorem c245_41 : mc_cd 245 41 = some (.iload_n 3, 1) := by decide +kernel
theorem c245_42 : mc_cd 245 42 = some (.ifCond .le 9, 3) := by decide +kernel
theorem c245_45 : mc_cd 245 45 = some (.aload_n 0, 1) := by decide +kernel
theorem c245_46 : mc_cd 245 46 = some (.iload_n 3, 1) := by decide +kernel
theorem c245_47 : mc_cd 245 47 = some (.invokevirtual 54, 3) := by decide +kernel
theorem c245_50 : mc_cd 245 50 = some (.ireturn, 1) := by decide +kernel
theorem c245_51 : mc_cd 245 51 = some (.aload_n 0, 1) := by decide +kernel
theorem c245_52 : mc_cd 245 52 = some (.aload_n 0, 1) := by decide +kernel
theorem c245_53 : mc_cd 245 53 = some (.getfield 42, 3) := by decide +kernel
theorem c245_56 : mc_cd 245 56 = some (.iload_n 1, 1) := by decide +kernel
theorem c245_57 : mc_cd 245 57 = some (.iaload, 1) := by decide +kernel
theorem c245_58 : mc_cd 245 58 = some (.invokevirtual 425, 3) := by decide +kernel
theorem c245_61 : mc_cd 245 61 = some (.aload_n 0, 1) := by decide +kernel
theorem c245_62 : mc_cd 245 62 = some (.aload_n 0, 1) := by decide +kernel
theorem c245_63 : mc_cd 245 63 = some (.getfield 39, 3) := by decide +kernel
theorem c245_66 : mc_cd 245 66 = some (.iload_n 2, 1) := by decide +kernel
theorem c245_67 : mc_cd 245 67 = some (.iaload, 1) := by decide +kernel
theorem c245_68 : mc_cd 245 68 = some (.invokevirtual 58, 3) := by decide +kernel
theorem c245_71 : mc_cd 245 71 = some (.ireturn, 1) := by decide +kernel
abbrev q_245 (r0 : Nat) (a1 : Int) (a2 : Int) (T : wq_T) (H : wq_H) : Option Value → wq_T → wq_H → Prop := fun r T' H' => T = T' ∧ WT T H' ∧ wfr [(42, 0), (42, 1), (42, 2), (42, 28), (42, 29), (51, 999), (52, 999)] T H H' ∧ ∃ z : Int, some (vI z) = r ∧ ((-2147483648) ≤ z ∧ z ≤ 2147483647) ∧ (wKI H' r0 = 1)
set_option maxHeartbeats 4000000 in
theorem s_245 {kt : Nat → Option mc_E} {T : wq_T} {H : wq_H} {r0 : Nat} {a1 : Int} {a2 : Int} (hW : WT T H) (g0 : T.2.2.2 r0 = some 42) (i1 : (-2147483648) ≤ a1 ∧ a1 ≤ 2147483647) (i2 : (-2147483648) ≤ a2 ∧ a2 ≤ 2147483647) (p0 : wKI H r0 = 1) : wpc kt 8 245 [.ref r0, vI a1, vI a2] T H (q_245 r0 a1 a2 T H) := by
  refine wp_enter e245 (Nat.le_of_ble_eq_true rfl) rfl ?_
  have f0 : wfr [(42, 0), (42, 1), (42, 2), (42, 28), (42, 29), (51, 999), (52, 999)] T H H := wfr.rf
  show wp _ _ 245 0 [(0, .ref r0), (1, vI a1), (2, vI a2)] [] _ H _
  refine wp_of e245 c245_0 (rw_aload_n (pc' := 1) (v := .ref r0) rfl rfl rfl ?_)
  refine wp_of e245 c245_1 (rw_iconst (pc' := 2) rfl ?_)
  refine wp_of e245 c245_2 (xp_I (pc' := 5) lf_9_48 hW g0 sh_42 (by decide) (by decide) ty_42_0 rfl rfl (by omega) (by omega) ⟨by omega, by omega⟩ rfl (fun H132518 e132519 w132520 => ?_))
  have f132521 := f0.put' e132519 g0 rfl
  have k132522 : H132518 r0 0 = 0 := wq_u_s e132519
  refine wp_of e245 c245_5 (rw_aload_n (pc' := 6) (v := .ref r0) rfl rfl rfl ?_)
  refine wp_of e245 c245_6 (rw_aload_n (pc' := 7) (v := .ref r0) rfl rfl rfl ?_)
  refine wp_of e245 c245_7 (rw_iload_n (pc' := 8) (z := a2) rfl rfl ?_)
  refine wp_of e245 c245_8 (xc_V (pc' := 11) (r := r0) (as := [vI a2]) (st := [.ref r0]) (lm_9_364) rfl rfl (Nat.le_of_ble_eq_true rfl) w132520 g0 sh_42 (by decide) rfl (by decide) (s_213 w132520 g0 ⟨by omega, by omega⟩) (fun R132523 T132524 H132525 p132526 => ?_))
  obtain ⟨e132527, e132529, z132531, e132528, b132532, p132530⟩ := p132526
  subst e132527
  subst e132528
  subst e132529
  show wp _ _ 245 11 [(0, .ref r0), (1, vI a1), (2, vI a2)] [vI z132531, .ref r0] _ H132518 _
  refine wp_of e245 c245_11 (rw_if_eq (p1 := 22) (p2 := 14) (by decide) rfl ⟨by omega, by omega⟩ (fun c132533 => ?_) (fun c132533 => ?_))
  · refine wp_of e245 c245_22 (rw_iconst (pc' := 23) rfl ?_)
    have k132534 : wKI H132518 r0 = wKI H r0 := (wKI_fr hW g0 ((wfr.rf (l := [(42, 0)])).put' e132519 g0 rfl) rfl)
    refine wp_of e245 c245_23 (xc_V (pc' := 26) (r := r0) (as := [vI 0]) (st := []) (lm_9_433) rfl rfl (Nat.le_of_ble_eq_true rfl) w132520 g0 sh_42 (by decide) rfl (by decide) (s_241 w132520 g0 ⟨by omega, by omega⟩ (by omega) (by omega)) (fun R132535 T132536 H132537 p132538 => ?_))
    obtain ⟨e132539, w132541, f132542, z132547, e132540, b132548, p132543, p132544, p132545, p132546⟩ := p132538
    subst e132539
    subst e132540
    have f132549 := f132521.tr f132542 rfl
    show wp _ _ 245 26 [(0, .ref r0), (1, vI a1), (2, vI a2)] [vI z132547] _ H132537 _
    refine wp_of e245 c245_26 (rw_istore_n (pc' := 27) (z := z132547) (L' := [(3, vI z132547), (0, .ref r0), (1, vI a1), (2, vI a2)]) rfl rfl rfl ?_)
    refine wp_of e245 c245_27 (rw_iload_n (pc' := 28) (z := z132547) rfl rfl ?_)
    refine wp_of e245 c245_28 (rw_if_ne (p1 := 41) (p2 := 31) (by decide) rfl ⟨by omega, by omega⟩ (fun c132550 => ?_) (fun c132550 => ?_))
    · refine wp_of e245 c245_41 (rw_iload_n (pc' := 42) (z := z132547) rfl rfl ?_)
      refine wp_of e245 c245_42 (rw_if_le (p1 := 51) (p2 := 45) (by decide) rfl ⟨by omega, by omega⟩ (fun c132551 => ?_) (fun c132551 => ?_))
      · exfalso
        omega
      · refine wp_of e245 c245_45 (rw_aload_n (pc' := 46) (v := .ref r0) rfl rfl rfl ?_)
        refine wp_of e245 c245_46 (rw_iload_n (pc' := 47) (z := z132547) rfl rfl ?_)
        refine wp_of e245 c245_47 (xc_V (pc' := 50) (r := r0) (as := [vI z132547]) (st := []) (lm_9_54) rfl rfl (Nat.le_of_ble_eq_true rfl) w132541 g0 sh_42 (by decide) rfl (by decide) (s_170 w132541 g0 ⟨by omega, by omega⟩) (fun R132552 T132553 H132554 p132555 => ?_))
        obtain ⟨e132556, w132558, f132559, z132560, e132557, b132561⟩ := p132555
        subst e132556
        subst e132557
        have f132562 := f132549.tr f132559 rfl
        show wp _ _ 245 50 [(3, vI z132547), (0, .ref r0), (1, vI a1), (2, vI a2)] [vI z132560] _ H132554 _
        have k132563 : wKI H132554 r0 = wKI H132537 r0 := (wKI_fr w132541 g0 f132559 rfl)
        exact wp_ireturn e245 c245_50 rfl ⟨rfl, w132558, f132562, z132560, rfl, ⟨by omega, by omega⟩, by omega⟩
    · exfalso
      omega
  · refine wp_of e245 c245_14 (rw_iload_n (pc' := 15) (z := a1) rfl rfl ?_)
    refine wp_of e245 c245_15 (rw_if_lt (p1 := 22) (p2 := 18) (by decide) rfl ⟨by omega, by omega⟩ (fun c132564 => ?_) (fun c132564 => ?_))
    · refine wp_of e245 c245_22 (rw_iconst (pc' := 23) rfl ?_)
      have k132565 : wKI H132518 r0 = wKI H r0 := (wKI_fr hW g0 ((wfr.rf (l := [(42, 0)])).put' e132519 g0 rfl) rfl)
      refine wp_of e245 c245_23 (xc_V (pc' := 26) (r := r0) (as := [vI 0]) (st := []) (lm_9_433) rfl rfl (Nat.le_of_ble_eq_true rfl) w132520 g0 sh_42 (by decide) rfl (by decide) (s_241 w132520 g0 ⟨by omega, by omega⟩ (by omega) (by omega)) (fun R132566 T132567 H132568 p132569 => ?_))
      obtain ⟨e132570, w132572, f132573, z132578, e132571, b132579, p132574, p132575, p132576, p132577⟩ := p132569
      subst e132570
      subst e132571
      have f132580 := f132521.tr f132573 rfl
      show wp _ _ 245 26 [(0, .ref r0), (1, vI a1), (2, vI a2)] [vI z132578] _ H132568 _
      refine wp_of e245 c245_26 (rw_istore_n (pc' := 27) (z := z132578) (L' := [(3, vI z132578), (0, .ref r0), (1, vI a1), (2, vI a2)]) rfl rfl rfl ?_)
      refine wp_of e245 c245_27 (rw_iload_n (pc' := 28) (z := z132578) rfl rfl ?_)
      refine wp_of e245 c245_28 (rw_if_ne (p1 := 41) (p2 := 31) (by decide) rfl ⟨by omega, by omega⟩ (fun c132581 => ?_) (fun c132581 => ?_))
      · refine wp_of e245 c245_41 (rw_iload_n (pc' := 42) (z := z132578) rfl rfl ?_)
        refine wp_of e245 c245_42 (rw_if_le (p1 := 51) (p2 := 45) (by decide) rfl ⟨by omega, by omega⟩ (fun c132582 => ?_) (fun c132582 => ?_))
        · exfalso
          omega
        · refine wp_of e245 c245_45 (rw_aload_n (pc' := 46) (v := .ref r0) rfl rfl rfl ?_)
          refine wp_of e245 c245_46 (rw_iload_n (pc' := 47) (z := z132578) rfl rfl ?_)
          refine wp_of e245 c245_47 (xc_V (pc' := 50) (r := r0) (as := [vI z132578]) (st := []) (lm_9_54) rfl rfl (Nat.le_of_ble_eq_true rfl) w132572 g0 sh_42 (by decide) rfl (by decide) (s_170 w132572 g0 ⟨by omega, by omega⟩) (fun R132583 T132584 H132585 p132586 => ?_))
          obtain ⟨e132587, w132589, f132590, z132591, e132588, b132592⟩ := p132586
          subst e132587
          subst e132588
          have f132593 := f132580.tr f132590 rfl
          show wp _ _ 245 50 [(3, vI z132578), (0, .ref r0), (1, vI a1), (2, vI a2)] [vI z132591] _ H132585 _
          have k132594 : wKI H132585 r0 = wKI H132568 r0 := (wKI_fr w132572 g0 f132590 rfl)
          exact wp_ireturn e245 c245_50 rfl ⟨rfl, w132589, f132593, z132591, rfl, ⟨by omega, by omega⟩, by omega⟩
      · exfalso
        omega
    · refine wp_of e245 c245_18 (rw_iconst (pc' := 19) rfl ?_)
      refine wp_of e245 c245_19 (rw_goto (p1 := 23) (by decide) ?_)
      have k132595 : wKI H132518 r0 = wKI H r0 := (wKI_fr hW g0 ((wfr.rf (l := [(42, 0)])).put' e132519 g0 rfl) rfl)
      refine wp_of e245 c245_23 (xc_V (pc' := 26) (r := r0) (as := [vI 1]) (st := []) (lm_9_433) rfl rfl (Nat.le_of_ble_eq_true rfl) w132520 g0 sh_42 (by decide) rfl (by decide) (s_241 w132520 g0 ⟨by omega, by omega⟩ (by omega) (by omega)) (fun R132596 T132597 H132598 p132599 => ?_))
      obtain ⟨e132600, w132602, f132603, z132608, e132601, b132609, p132604, p132605, p132606, p132607⟩ := p132599
      subst e132600
      subst e132601
      have f132610 := f132521.tr f132603 rfl
      show wp _ _ 245 26 [(0, .ref r0), (1, vI a1), (2, vI a2)] [vI z132608] _ H132598 _
      refine wp_of e245 c245_26 (rw_istore_n (pc' := 27) (z := z132608) (L' := [(3, vI z132608), (0, .ref r0), (1, vI a1), (2, vI a2)]) rfl rfl rfl ?_)
      refine wp_of e245 c245_27 (rw_iload_n (pc' := 28) (z := z132608) rfl rfl ?_)
      refine wp_of e245 c245_28 (rw_if_ne (p1 := 41) (p2 := 31) (by decide) rfl ⟨by omega, by omega⟩ (fun c132611 => ?_) (fun c132611 => ?_))
      · refine wp_of e245 c245_41 (rw_iload_n (pc' := 42) (z := z132608) rfl rfl ?_)
        refine wp_of e245 c245_42 (rw_if_le (p1 := 51) (p2 := 45) (by decide) rfl ⟨by omega, by omega⟩ (fun c132612 => ?_) (fun c132612 => ?_))
        · exfalso
          omega
        · refine wp_of e245 c245_45 (rw_aload_n (pc' := 46) (v := .ref r0) rfl rfl rfl ?_)
          refine wp_of e245 c245_46 (rw_iload_n (pc' := 47) (z := z132608) rfl rfl ?_)
          refine wp_of e245 c245_47 (xc_V (pc' := 50) (r := r0) (as := [vI z132608]) (st := []) (lm_9_54) rfl rfl (Nat.le_of_ble_eq_true rfl) w132602 g0 sh_42 (by decide) rfl (by decide) (s_170 w132602 g0 ⟨by omega, by omega⟩) (fun R132613 T132614 H132615 p132616 => ?_))
          obtain ⟨e132617, w132619, f132620, z132621, e132618, b132622⟩ := p132616
          subst e132617
          subst e132618
          have f132623 := f132610.tr f132620 rfl
          show wp _ _ 245 50 [(3, vI z132608), (0, .ref r0), (1, vI a1), (2, vI a2)] [vI z132621] _ H132615 _
          have k132624 : wKI H132615 r0 = wKI H132598 r0 := (wKI_fr w132602 g0 f132620 rfl)
          exact wp_ireturn e245 c245_50 rfl ⟨rfl, w132619, f132623, z132621, rfl, ⟨by omega, by omega⟩, by omega⟩
      · refine wp_of e245 c245_31 (rw_iload_n (pc' := 32) (z := a1) rfl rfl ?_)
        refine wp_of e245 c245_32 (rw_aload_n (pc' := 33) (v := .ref r0) rfl rfl rfl ?_)
        refine wp_of e245 c245_33 (xg_I (pc' := 36) lf_9_422 w132602 g0 sh_42 (by decide) (by decide) ty_42_29 rfl rfl (fun b132625 b132626 => ?_))
        refine wp_of e245 c245_36 (rw_icmp_lt (p1 := 41) (p2 := 39) (by decide) rfl ⟨by omega, by omega⟩ ⟨by omega, by omega⟩ (fun c132627 => ?_) (fun c132627 => ?_))
        · refine wp_of e245 c245_41 (rw_iload_n (pc' := 42) (z := z132608) rfl rfl ?_)
          refine wp_of e245 c245_42 (rw_if_le (p1 := 51) (p2 := 45) (by decide) rfl ⟨by omega, by omega⟩ (fun c132628 => ?_) (fun c132628 => ?_))
          · refine wp_of e245 c245_51 (rw_aload_n (pc' := 52) (v := .ref r0) rfl rfl rfl ?_)
            refine wp_of e245 c245_52 (rw_aload_n (pc' := 53) (v := .ref r0) rfl rfl rfl ?_)
            refine wp_of e245 c245_53 (xg_R (pc' := 56) lf_9_42 w132602 g0 sh_42 (by decide) (by decide) ty_42_30 rfl rfl (fun r132629 q132630 g132631 => ?_))
            refine wp_of e245 c245_56 (rw_iload_n (pc' := 57) (z := a1) rfl rfl ?_)
            refine wp_of e245 c245_57 (xa_I (so := 0) (pc' := 58) w132602 g132631 sh_52 (by decide) (ty_52 _) (by omega) (by omega) rfl (fun b132632 b132633 => ?_))
            have k132634 : H132598 r0 3 = H132518 r0 3 := (f132603 r0 3 _ g0 rfl)
            obtain ⟨r132635, q132636, g132637⟩ := (w132602.opt g0 (t' := 54) (n := 33) (j := 3) (p := 0) (q := 0) rfl (by decide) rfl).resolve_left (by omega)
            refine wp_of e245 c245_58 (xc_V (pc' := 61) (r := r0) (as := [vI (H132598 r132629 (a1.toNat))]) (st := []) (lm_9_425) rfl rfl (Nat.le_of_ble_eq_true rfl) w132602 g0 sh_42 (by decide) rfl (by decide) (s_243 w132602 g0 ⟨by omega, by omega⟩ q132636 g132637 (by omega)) (fun R132638 T132639 H132640 p132641 => ?_))
            obtain ⟨e132642, w132644, f132645, e132643⟩ := p132641
            subst e132642
            subst e132643
            have f132646 := f132610.tr f132645 rfl
            show wp _ _ 245 61 [(3, vI z132608), (0, .ref r0), (1, vI a1), (2, vI a2)] [] _ H132640 _
            refine wp_of e245 c245_61 (rw_aload_n (pc' := 62) (v := .ref r0) rfl rfl rfl ?_)
            refine wp_of e245 c245_62 (rw_aload_n (pc' := 63) (v := .ref r0) rfl rfl rfl ?_)
            refine wp_of e245 c245_63 (xg_R (pc' := 66) lf_9_39 w132644 g0 sh_42 (by decide) (by decide) ty_42_27 rfl rfl (fun r132647 q132648 g132649 => ?_))
            refine wp_of e245 c245_66 (rw_iload_n (pc' := 67) (z := a2) rfl rfl ?_)
            refine wp_of e245 c245_67 (xa_I (so := 0) (pc' := 68) w132644 g132649 sh_51 (by decide) (ty_51 _) (by omega) (by omega) rfl (fun b132650 b132651 => ?_))
            refine wp_of e245 c245_68 (xc_V (pc' := 71) (r := r0) (as := [vI (H132640 r132647 (a2.toNat))]) (st := []) (lm_9_58) rfl rfl (Nat.le_of_ble_eq_true rfl) w132644 g0 sh_42 (by decide) rfl (by decide) (s_209 w132644 g0 ⟨by omega, by omega⟩) (fun R132652 T132653 H132654 p132655 => ?_))
            obtain ⟨e132656, w132658, f132659, z132660, e132657, b132661⟩ := p132655
            subst e132656
            subst e132657
            have f132662 := f132646.tr f132659 rfl
            show wp _ _ 245 71 [(3, vI z132608), (0, .ref r0), (1, vI a1), (2, vI a2)] [vI z132660] _ H132654 _
            have k132663 : wKI H132654 r0 = wKI H132598 r0 := ((wKI_fr w132644 g0 f132659 rfl).trans (wKI_fr w132602 g0 f132645 rfl))
            exact wp_ireturn e245 c245_71 rfl ⟨rfl, w132658, f132662, z132660, rfl, ⟨by omega, by omega⟩, by omega⟩
          · exfalso
            omega
        · refine wp_of e245 c245_39 (rw_iconst (pc' := 40) rfl ?_)
          refine wp_of e245 c245_40 (rw_istore_n (pc' := 41) (z := 1) (L' := [(3, vI 1), (0, .ref r0), (1, vI a1), (2, vI a2)]) rfl rfl rfl ?_)
          refine wp_of e245 c245_41 (rw_iload_n (pc' := 42) (z := 1) rfl rfl ?_)
          refine wp_of e245 c245_42 (rw_if_le (p1 := 51) (p2 := 45) (by decide) rfl ⟨by omega, by omega⟩ (fun c132664 => ?_) (fun c132664 => ?_))
          · exfalso
            omega
          · refine wp_of e245 c245_45 (rw_aload_n (pc' := 46) (v := .ref r0) rfl rfl rfl ?_)
            refine wp_of e245 c245_46 (rw_iload_n (pc' := 47) (z := 1) rfl rfl ?_)
            refine wp_of e245 c245_47 (xc_V (pc' := 50) (r := r0) (as := [vI 1]) (st := []) (lm_9_54) rfl rfl (Nat.le_of_ble_eq_true rfl) w132602 g0 sh_42 (by decide) rfl (by decide) (s_170 w132602 g0 ⟨by omega, by omega⟩) (fun R132665 T132666 H132667 p132668 => ?_))
            obtain ⟨e132669, w132671, f132672, z132673, e132670, b132674⟩ := p132668
            subst e132669
            subst e132670
            have f132675 := f132610.tr f132672 rfl
            show wp _ _ 245 50 [(3, vI 1), (0, .ref r0), (1, vI a1), (2, vI a2)] [vI z132673] _ H132667 _
            have k132676 : wKI H132667 r0 = wKI H132598 r0 := (wKI_fr w132602 g0 f132672 rfl)
            exact wp_ireturn e245 c245_50 rfl ⟨rfl, w132671, f132675, z132673, rfl, ⟨by omega, by omega⟩, by omega⟩
/-! StrikeAwakeModel.lotWeight()J -/
theorem e248 : wq_en 248 = some (9, 4, false, some FieldType.long) := rfl
theorem c248_0 : mc_cd 248 0 = some (.lconst 1, 1) := by decide +kernel
theorem c248_1 : mc_cd 248 1 = some (.lstore_n 1, 1) := by decide +kernel
theorem c248_2 : mc_cd 248 2 = some (.iconst 0, 1) := by decide +kernel
theorem c248_3 : mc_cd 248 3 = some (.istore_n 3, 1) := by decide +kernel
theorem c248_4 : mc_cd 248 4 = some (.iload_n 3, 1) := by decide +kernel
theorem c248_5 : mc_cd 248 5 = some (.aload_n 0, 1) := by decide +kernel
theorem c248_6 : mc_cd 248 6 = some (.getfield 337, 3) := by decide +kernel
theorem c248_9 : mc_cd 248 9 = some (.getfield 188, 3) := by decide +kernel
theorem c248_12 : mc_cd 248 12 = some (.if_icmp .ge 24, 3) := by decide +kernel
theorem c248_15 : mc_cd 248 15 = some (.lload_n 1, 1) := by decide +kernel
theorem c248_16 : mc_cd 248 16 = some (.aload_n 0, 1) := by decide +kernel
theorem c248_17 : mc_cd 248 17 = some (.iload_n 3, 1) := by decide +kernel
theorem c248_18 : mc_cd 248 18 = some (.aload_n 0, 1) := by decide +kernel
theorem c248_19 : mc_cd 248 19 = some (.getfield 39, 3) := by decide +kernel
theorem c248_22 : mc_cd 248 22 = some (.iload_n 3, 1) := by decide +kernel
theorem c248_23 : mc_cd 248 23 = some (.iaload, 1) := by decide +kernel
theorem c248_24 : mc_cd 248 24 = some (.invokevirtual 370, 3) := by decide +kernel
theorem c248_27 : mc_cd 248 27 = some (.i2l, 1) := by decide +kernel
theorem c248_28 : mc_cd 248 28 = some (.lmul, 1) := by decide +kernel
theorem c248_29 : mc_cd 248 29 = some (.lstore_n 1, 1) := by decide +kernel
theorem c248_30 : mc_cd 248 30 = some (.iinc 3 1, 3) := by decide +kernel
theorem c248_33 : mc_cd 248 33 = some (.goto (-29), 3) := by decide +kernel
theorem c248_36 : mc_cd 248 36 = some (.lload_n 1, 1) := by decide +kernel
theorem c248_37 : mc_cd 248 37 = some (.lreturn, 1) := by decide +kernel
abbrev q_248 (r0 : Nat) (pp : Nat) (T : wq_T) (H : wq_H) : Option Value → wq_T → wq_H → Prop := fun r T' H' => T = T' ∧ H = H' ∧ ∃ z : Int, some (vL z) = r ∧ (1 ≤ z ∧ z ≤ 1000000)
set_option maxHeartbeats 4000000 in
theorem s_248 {kt : Nat → Option mc_E} {T : wq_T} {H : wq_H} {r0 : Nat} {pp : Nat} (hW : WT T H) (g0 : T.2.2.2 r0 = some 42) (qpp : H r0 3 = (pp : Int)) (gpp : T.2.2.2 pp = some 54) : wpc kt 2 248 [.ref r0] T H (q_248 r0 pp T H) := by
  refine wp_enter e248 (Nat.le_of_ble_eq_true rfl) rfl ?_
  show wp _ _ 248 0 [(0, .ref r0)] [] _ H _
  refine wp_of e248 c248_0 (rw_lconst (pc' := 1) (z := 1) rfl rfl ?_)
  refine wp_of e248 c248_1 (rw_lstore_n (pc' := 2) (z := 1) (L' := [(1, vL 1), (0, .ref r0)]) rfl rfl rfl ?_)
  refine wp_of e248 c248_2 (rw_iconst (pc' := 3) rfl ?_)
  refine wp_of e248 c248_3 (rw_istore_n (pc' := 4) (z := 0) (L' := [(3, vI 0), (1, vL 1), (0, .ref r0)]) rfl rfl rfl ?_)
  have lp132987 : ∀ (n132988 : Nat) (v132990 : Int) (v132991 : Int), (0 ≤ v132990 ∧ v132990 ≤ 6) → (1 ≤ v132991 ∧ v132991 ≤ 1000000) → (v132990 ≤ 6) → (1 ≤ v132991 ∧ v132991 ≤ w10 (v132990).toNat) → (6 - v132990).toNat = n132988 → wp kt 1 248 4 [(3, vI v132990), (1, vL v132991), (0, .ref r0)] [] T H (q_248 r0 pp T H) := by
    intro n132988
    induction n132988 using Nat.strongRecOn with
    | _ n132988 ih132989 =>
      intro v132990 v132991 b132994 b132995 x132996 x132997 m132998
      have hb := w10_b (n := (v132990).toNat) (by omega)
      refine wp_of e248 c248_4 (rw_iload_n (pc' := 5) (z := v132990) rfl rfl ?_)
      refine wp_of e248 c248_5 (rw_aload_n (pc' := 6) (v := .ref r0) rfl rfl rfl ?_)
      refine wp_of e248 c248_6 (xg_K (pc' := 9) lf_9_337 hW g0 sh_42 (by decide) (by decide) rfl qpp rfl ?_)
      refine wp_of e248 c248_9 (xg_I (pc' := 12) lf_9_188 hW gpp sh_54 (by decide) (by decide) ty_54_3 rfl rfl (fun b132999 b133000 => ?_))
      refine wp_of e248 c248_12 (rw_icmp_ge (p1 := 36) (p2 := 15) (by decide) rfl ⟨by omega, by omega⟩ ⟨by omega, by omega⟩ (fun c133001 => ?_) (fun c133001 => ?_))
      · refine wp_of e248 c248_36 (rw_lload_n (pc' := 37) (z := v132991) rfl rfl ?_)
        exact wp_lreturn e248 c248_37 rfl ⟨rfl, rfl, v132991, rfl, ⟨by omega, by omega⟩⟩
      · refine wp_of e248 c248_15 (rw_lload_n (pc' := 16) (z := v132991) rfl rfl ?_)
        refine wp_of e248 c248_16 (rw_aload_n (pc' := 17) (v := .ref r0) rfl rfl rfl ?_)
        refine wp_of e248 c248_17 (rw_iload_n (pc' := 18) (z := v132990) rfl rfl ?_)
        refine wp_of e248 c248_18 (rw_aload_n (pc' := 19) (v := .ref r0) rfl rfl rfl ?_)
        refine wp_of e248 c248_19 (xg_R (pc' := 22) lf_9_39 hW g0 sh_42 (by decide) (by decide) ty_42_27 rfl rfl (fun r133002 q133003 g133004 => ?_))
        refine wp_of e248 c248_22 (rw_iload_n (pc' := 23) (z := v132990) rfl rfl ?_)
        refine wp_of e248 c248_23 (xa_I (so := 0) (pc' := 24) hW g133004 sh_51 (by decide) (ty_51 _) (by omega) (by omega) rfl (fun b133005 b133006 => ?_))
        refine wp_of e248 c248_24 (xc_V (pc' := 27) (r := r0) (as := [vI v132990, vI (H r133002 (v132990.toNat))]) (st := [vL v132991]) (lm_9_370) rfl rfl (Nat.le_of_ble_eq_true rfl) hW g0 sh_42 (by decide) rfl (by decide) (s_216 hW g0 ⟨by omega, by omega⟩ ⟨by omega, by omega⟩ qpp gpp) (fun R133007 T133008 H133009 p133010 => ?_))
        obtain ⟨e133011, e133013, z133014, e133012, b133015⟩ := p133010
        subst e133011
        subst e133012
        subst e133013
        show wp _ _ 248 27 [(3, vI v132990), (1, vL v132991), (0, .ref r0)] [vI z133014, vL v132991] _ H _
        refine wp_of e248 c248_27 (rw_i2l (pc' := 28) rfl ⟨by omega, by omega⟩ ?_)
        refine wp_of e248 c248_28 (rw_lmul (pc' := 29) rfl ?_)
        obtain ⟨v133016, e133017⟩ : ∃ x : Int, x = v132991 * z133014 := ⟨_, rfl⟩
        rw [← e133017]
        have b133018 : 0 ≤ v133016 ∧ v133016 ≤ 10000000 := by
          rw [e133017]
          exact wl_mul_b (a := 1000000) (b := 10) ⟨by omega, by omega⟩ ⟨by omega, by omega⟩
        refine wp_of e248 c248_29 (rw_lstore_n (pc' := 30) (z := v133016) (L' := [(1, vL v133016), (3, vI v132990), (0, .ref r0)]) rfl rfl rfl ?_)
        refine wp_of e248 c248_30 (rw_iinc (pc' := 33) (z := v132990) (L' := [(3, vI (v132990 + 1)), (1, vL v133016), (0, .ref r0)]) rfl rfl rfl rfl ?_)
        refine wp_of e248 c248_33 (rw_goto (p1 := 4) (by decide) ?_)
        exact wp_lc (ks := [3, 1, 0]) (wl_c rfl (wl_c rfl (wl_c rfl wl_n))) rfl (by decide) (ih132989 _ (by omega) (v132990 + 1) v133016 ⟨by omega, by omega⟩ ⟨by omega, by omega⟩ (by omega) (w10_s (by assumption) ⟨by omega, by omega⟩ (by assumption) (by omega)) rfl)
  exact wp_lc (ks := [3, 1, 0]) (wl_c rfl (wl_c rfl (wl_c rfl wl_n))) rfl (by decide) (lp132987 _ 0 1 ⟨by omega, by omega⟩ ⟨by omega, by omega⟩ (by omega) (by decide) rfl)
/-! StrikeAwakeModel.weighs(II)J -/
theorem e247 : wq_en 247 = some (9, 6, false, some FieldType.long) := rfl
theorem c247_0 : mc_cd 247 0 = some (.lconst 0, 1) := by decide +kernel
theorem c247_1 : mc_cd 247 1 = some (.lstore_n 3, 1) := by decide +kernel
theorem c247_2 : mc_cd 247 2 = some (.iconst 0, 1) := by decide +kernel
theorem c247_3 : mc_cd 247 3 = some (.istore 5, 2) := by decide +kernel
theorem c247_5 : mc_cd 247 5 = some (.iload 5, 2) := by decide +kernel
theorem c247_7 : mc_cd 247 7 = some (.aload_n 0, 1) := by decide +kernel
theorem c247_8 : mc_cd 247 8 = some (.getfield 422, 3) := by decide +kernel
theorem c247_11 : mc_cd 247 11 = some (.if_icmp .ge 55, 3) := by decide +kernel
theorem c247_14 : mc_cd 247 14 = some (.aload_n 0, 1) := by decide +kernel
theorem c247_15 : mc_cd 247 15 = some (.aload_n 0, 1) := by decide +kernel
theorem c247_16 : mc_cd 247 16 = some (.getfield 42, 3) := by decide +kernel
theorem c247_19 : mc_cd 247 19 = some (.iload 5, 2) := by decide +kernel
theorem c247_21 : mc_cd 247 21 = some (.iaload, 1) := by decide +kernel
theorem c247_22 : mc_cd 247 22 = some (.invokevirtual 425, 3) := by decide +kernel
theorem c247_25 : mc_cd 247 25 = some (.iload_n 1, 1) := by decide +kernel
theorem c247_26 : mc_cd 247 26 = some (.iconst (-1), 1) := by decide +kernel
theorem c247_27 : mc_cd 247 27 = some (.if_icmp .eq 26, 3) := by decide +kernel
theorem c247_30 : mc_cd 247 30 = some (.aload_n 0, 1) := by decide +kernel
theorem c247_31 : mc_cd 247 31 = some (.getfield 33, 3) := by decide +kernel
theorem c247_34 : mc_cd 247 34 = some (.bipush 40, 2) := by decide +kernel
theorem c247_36 : mc_cd 247 36 = some (.iload_n 1, 1) := by decide +kernel
theorem c247_37 : mc_cd 247 37 = some (.imul, 1) := by decide +kernel
theorem c247_38 : mc_cd 247 38 = some (.aload_n 0, 1) := by decide +kernel
theorem c247_39 : mc_cd 247 39 = some (.getfield 39, 3) := by decide +kernel
theorem c247_42 : mc_cd 247 42 = some (.iload_n 1, 1) := by decide +kernel
theorem c247_43 : mc_cd 247 43 = some (.iaload, 1) := by decide +kernel
theorem c247_44 : mc_cd 247 44 = some (.iadd, 1) := by decide +kernel
theorem c247_45 : mc_cd 247 45 = some (.iaload, 1) := by decide +kernel
theorem c247_46 : mc_cd 247 46 = some (.iload_n 2, 1) := by decide +kernel
theorem c247_47 : mc_cd 247 47 = some (.invokestatic 346, 3) := by decide +kernel
theorem c247_50 : mc_cd 247 50 = some (.ifCond .eq 10, 3) := by decide +kernel
theorem c247_53 : mc_cd 247 53 = some (.lload_n 3, 1) := by decide +kernel
theorem c247_54 : mc_cd 247 54 = some (.aload_n 0, 1) := by decide +kernel
theorem c247_55 : mc_cd 247 55 = some (.invokevirtual 437, 3) := by decide +kernel
theorem c247_58 : mc_cd 247 58 = some (.ladd, 1) := by decide +kernel
theorem c247_59 : mc_cd 247 59 = some (.lstore_n 3, 1) := by decide +kernel
theorem c247_60 : mc_cd 247 60 = some (.iinc 5 1, 3) := by decide +kernel
theorem c247_63 : mc_cd 247 63 = some (.goto (-58), 3) := by decide +kernel
theorem c247_66 : mc_cd 247 66 = some (.lload_n 3, 1) := by decide +kernel
theorem c247_67 : mc_cd 247 67 = some (.lreturn, 1) := by decide +kernel
abbrev q_247 (r0 : Nat) (a1 : Int) (a2 : Int) (pp : Nat) (T : wq_T) (H : wq_H) : Option Value → wq_T → wq_H → Prop := fun r T' H' => T = T' ∧ WT T H' ∧ wfr [(51, 999)] T H H' ∧ ∃ z : Int, some (vL z) = r ∧ (0 ≤ z ∧ z ≤ 20000000000) ∧ (a1 ≠ -1 ∨ H r0 29 ≤ z)
set_option maxHeartbeats 4000000 in
theorem s_247 {kt : Nat → Option mc_E} {T : wq_T} {H : wq_H} {r0 : Nat} {a1 : Int} {a2 : Int} {pp : Nat} (hW : WT T H) (g0 : T.2.2.2 r0 = some 42) (i1 : (-1) ≤ a1 ∧ a1 ≤ 5) (i2 : (-2147483648) ≤ a2 ∧ a2 ≤ 2147483647) (qpp : H r0 3 = (pp : Int)) (gpp : T.2.2.2 pp = some 54) (p0 : H r0 29 = 0 ∨ 0 < wLM H r0) : wpc kt 3 247 [.ref r0, vI a1, vI a2] T H (q_247 r0 a1 a2 pp T H) := by
  refine wp_enter e247 (Nat.le_of_ble_eq_true rfl) rfl ?_
  have f0 : wfr [(51, 999)] T H H := wfr.rf
  show wp _ _ 247 0 [(0, .ref r0), (1, vI a1), (2, vI a2)] [] _ H _
  refine wp_of e247 c247_0 (rw_lconst (pc' := 1) (z := 0) rfl rfl ?_)
  refine wp_of e247 c247_1 (rw_lstore_n (pc' := 2) (z := 0) (L' := [(3, vL 0), (0, .ref r0), (1, vI a1), (2, vI a2)]) rfl rfl rfl ?_)
  refine wp_of e247 c247_2 (rw_iconst (pc' := 3) rfl ?_)
  refine wp_of e247 c247_3 (rw_istore (pc' := 5) (z := 0) (L' := [(5, vI 0), (3, vL 0), (0, .ref r0), (1, vI a1), (2, vI a2)]) rfl rfl rfl ?_)
  have lp134108 : ∀ (n134109 : Nat) (v134111 : Int) (v134112 : Int) (H134113 : wq_H), WT T H134113 → wfr [(51, 999)] T H H134113 → (0 ≤ v134111 ∧ v134111 ≤ 20000) → (0 ≤ v134112 ∧ v134112 ≤ 20000000000) → (v134111 ≤ H134113 r0 29) → (v134112 ≤ 1000000 * v134111) → (a1 ≠ -1 ∨ v134111 ≤ v134112) → (20000 - v134111).toNat = n134109 → wp kt 2 247 5 [(5, vI v134111), (3, vL v134112), (0, .ref r0), (1, vI a1), (2, vI a2)] [] T H134113 (q_247 r0 a1 a2 pp T H) := by
    intro n134109
    induction n134109 using Nat.strongRecOn with
    | _ n134109 ih134110 =>
      intro v134111 v134112 H134113 w134114 f134115 b134116 b134117 x134118 x134119 x134120 m134121
      have f134122 := f0.tr f134115 rfl
      have k134123 : H134113 r0 29 = H r0 29 := (f134115 r0 29 _ g0 rfl)
      refine wp_of e247 c247_5 (rw_iload (pc' := 7) (z := v134111) rfl rfl ?_)
      refine wp_of e247 c247_7 (rw_aload_n (pc' := 8) (v := .ref r0) rfl rfl rfl ?_)
      refine wp_of e247 c247_8 (xg_I (pc' := 11) lf_9_422 w134114 g0 sh_42 (by decide) (by decide) ty_42_29 rfl rfl (fun b134124 b134125 => ?_))
      refine wp_of e247 c247_11 (rw_icmp_ge (p1 := 66) (p2 := 14) (by decide) rfl ⟨by omega, by omega⟩ ⟨by omega, by omega⟩ (fun c134126 => ?_) (fun c134126 => ?_))
      · refine wp_of e247 c247_66 (rw_lload_n (pc' := 67) (z := v134112) rfl rfl ?_)
        exact wp_lreturn e247 c247_67 rfl ⟨rfl, w134114, f134122, v134112, rfl, ⟨by omega, by omega⟩, by omega⟩
      · refine wp_of e247 c247_14 (rw_aload_n (pc' := 15) (v := .ref r0) rfl rfl rfl ?_)
        refine wp_of e247 c247_15 (rw_aload_n (pc' := 16) (v := .ref r0) rfl rfl rfl ?_)
        refine wp_of e247 c247_16 (xg_R (pc' := 19) lf_9_42 w134114 g0 sh_42 (by decide) (by decide) ty_42_30 rfl rfl (fun r134127 q134128 g134129 => ?_))
        refine wp_of e247 c247_19 (rw_iload (pc' := 21) (z := v134111) rfl rfl ?_)
        refine wp_of e247 c247_21 (xa_I (so := 0) (pc' := 22) w134114 g134129 sh_52 (by decide) (ty_52 _) (by omega) (by omega) rfl (fun b134130 b134131 => ?_))
        have k134132 : wLM H134113 r0 = wLM H r0 := (wLM_fr hW g0 f134115 rfl)
        have k134133 : H134113 r0 3 = H r0 3 := (f134115 r0 3 _ g0 rfl)
        have q134134 : H134113 r0 3 = (pp : Int) := k134133.trans qpp
        refine wp_of e247 c247_22 (xc_V (pc' := 25) (r := r0) (as := [vI (H134113 r134127 (v134111.toNat))]) (st := []) (lm_9_425) rfl rfl (Nat.le_of_ble_eq_true rfl) w134114 g0 sh_42 (by decide) rfl (by decide) (s_243 w134114 g0 ⟨by omega, by omega⟩ q134134 gpp (by omega)) (fun R134135 T134136 H134137 p134138 => ?_))
        obtain ⟨e134139, w134141, f134142, e134140⟩ := p134138
        subst e134139
        subst e134140
        have f134143 := f134122.tr f134142 rfl
        have f134144 := f134115.tr f134142 rfl
        show wp _ _ 247 25 [(5, vI v134111), (3, vL v134112), (0, .ref r0), (1, vI a1), (2, vI a2)] [] _ H134137 _
        refine wp_of e247 c247_25 (rw_iload_n (pc' := 26) (z := a1) rfl rfl ?_)
        refine wp_of e247 c247_26 (rw_iconst (pc' := 27) rfl ?_)
        refine wp_of e247 c247_27 (rw_icmp_eq (p1 := 53) (p2 := 30) (by decide) rfl ⟨by omega, by omega⟩ ⟨by omega, by omega⟩ (fun c134145 => ?_) (fun c134145 => ?_))
        · refine wp_of e247 c247_53 (rw_lload_n (pc' := 54) (z := v134112) rfl rfl ?_)
          refine wp_of e247 c247_54 (rw_aload_n (pc' := 55) (v := .ref r0) rfl rfl rfl ?_)
          have k134146 : H134137 r0 3 = H134113 r0 3 := (f134142 r0 3 _ g0 rfl)
          have q134147 : H134137 r0 3 = (pp : Int) := k134146.trans q134134
          refine wp_of e247 c247_55 (xc_V (pc' := 58) (r := r0) (as := []) (st := [vL v134112]) (lm_9_437) rfl rfl (Nat.le_of_ble_eq_true rfl) w134141 g0 sh_42 (by decide) rfl (by decide) (s_248 w134141 g0 q134147 gpp) (fun R134148 T134149 H134150 p134151 => ?_))
          obtain ⟨e134152, e134154, z134155, e134153, b134156⟩ := p134151
          subst e134152
          subst e134153
          subst e134154
          show wp _ _ 247 58 [(5, vI v134111), (3, vL v134112), (0, .ref r0), (1, vI a1), (2, vI a2)] [vL z134155, vL v134112] _ H134137 _
          refine wp_of e247 c247_58 (rw_ladd (pc' := 59) rfl ?_)
          refine wp_of e247 c247_59 (rw_lstore_n (pc' := 60) (z := v134112 + z134155) (L' := [(3, vL (v134112 + z134155)), (5, vI v134111), (0, .ref r0), (1, vI a1), (2, vI a2)]) rfl rfl rfl ?_)
          refine wp_of e247 c247_60 (rw_iinc (pc' := 63) (z := v134111) (L' := [(5, vI (v134111 + 1)), (3, vL (v134112 + z134155)), (0, .ref r0), (1, vI a1), (2, vI a2)]) rfl rfl rfl rfl ?_)
          refine wp_of e247 c247_63 (rw_goto (p1 := 5) (by decide) ?_)
          have k134157 : H134137 r0 29 = H134113 r0 29 := (f134142 r0 29 _ g0 rfl)
          exact wp_lc (ks := [5, 3, 0, 1, 2]) (wl_c rfl (wl_c rfl (wl_c rfl (wl_c rfl (wl_c rfl wl_n))))) rfl (by decide) (ih134110 _ (by omega) (v134111 + 1) (v134112 + z134155) H134137 w134141 f134144 ⟨by omega, by omega⟩ ⟨by omega, by omega⟩ (by omega) (by omega) (by omega) rfl)
        · refine wp_of e247 c247_30 (rw_aload_n (pc' := 31) (v := .ref r0) rfl rfl rfl ?_)
          refine wp_of e247 c247_31 (xg_R (pc' := 34) lf_9_33 w134141 g0 sh_42 (by decide) (by decide) ty_42_25 rfl rfl (fun r134158 q134159 g134160 => ?_))
          refine wp_of e247 c247_34 (rw_bipush (pc' := 36) (z := 40) rfl (by decide) ?_)
          refine wp_of e247 c247_36 (rw_iload_n (pc' := 37) (z := a1) rfl rfl ?_)
          refine wp_of e247 c247_37 (rw_imul (pc' := 38) rfl ?_)
          refine wp_of e247 c247_38 (rw_aload_n (pc' := 39) (v := .ref r0) rfl rfl rfl ?_)
          refine wp_of e247 c247_39 (xg_R (pc' := 42) lf_9_39 w134141 g0 sh_42 (by decide) (by decide) ty_42_27 rfl rfl (fun r134161 q134162 g134163 => ?_))
          refine wp_of e247 c247_42 (rw_iload_n (pc' := 43) (z := a1) rfl rfl ?_)
          refine wp_of e247 c247_43 (xa_I (so := 0) (pc' := 44) w134141 g134163 sh_51 (by decide) (ty_51 _) (by omega) (by omega) rfl (fun b134164 b134165 => ?_))
          refine wp_of e247 c247_44 (rw_iadd (pc' := 45) rfl ?_)
          refine wp_of e247 c247_45 (xa_I (so := 0) (pc' := 46) w134141 g134160 sh_49 (by decide) (ty_49 _) (by omega) (by omega) rfl (fun b134166 b134167 => ?_))
          refine wp_of e247 c247_46 (rw_iload_n (pc' := 47) (z := a2) rfl rfl ?_)
          refine wp_of e247 c247_47 (xc_S (pc' := 50) (as := [vI (H134137 r134158 (((40 * a1) + (H134137 r134161 (a1.toNat))).toNat)), vI a2]) (st := []) (lm_9_346) rfl rfl (Nat.le_of_ble_eq_true rfl) rfl (by decide) (s_205 w134141 ⟨by omega, by omega⟩ ⟨by omega, by omega⟩) (fun R134168 T134169 H134170 p134171 => ?_))
          obtain ⟨e134172, e134174, z134175, e134173, b134176⟩ := p134171
          subst e134172
          subst e134173
          subst e134174
          show wp _ _ 247 50 [(5, vI v134111), (3, vL v134112), (0, .ref r0), (1, vI a1), (2, vI a2)] [vI z134175] _ H134137 _
          refine wp_of e247 c247_50 (rw_if_eq (p1 := 60) (p2 := 53) (by decide) rfl ⟨by omega, by omega⟩ (fun c134177 => ?_) (fun c134177 => ?_))
          · refine wp_of e247 c247_60 (rw_iinc (pc' := 63) (z := v134111) (L' := [(5, vI (v134111 + 1)), (3, vL v134112), (0, .ref r0), (1, vI a1), (2, vI a2)]) rfl rfl rfl rfl ?_)
            refine wp_of e247 c247_63 (rw_goto (p1 := 5) (by decide) ?_)
            have k134178 : H134137 r0 29 = H134113 r0 29 := (f134142 r0 29 _ g0 rfl)
            exact wp_lc (ks := [5, 3, 0, 1, 2]) (wl_c rfl (wl_c rfl (wl_c rfl (wl_c rfl (wl_c rfl wl_n))))) rfl (by decide) (ih134110 _ (by omega) (v134111 + 1) v134112 H134137 w134141 f134144 ⟨by omega, by omega⟩ ⟨by omega, by omega⟩ (by omega) (by omega) (by omega) rfl)
          · refine wp_of e247 c247_53 (rw_lload_n (pc' := 54) (z := v134112) rfl rfl ?_)
            refine wp_of e247 c247_54 (rw_aload_n (pc' := 55) (v := .ref r0) rfl rfl rfl ?_)
            have k134179 : H134137 r0 3 = H134113 r0 3 := (f134142 r0 3 _ g0 rfl)
            have q134180 : H134137 r0 3 = (pp : Int) := k134179.trans q134134
            refine wp_of e247 c247_55 (xc_V (pc' := 58) (r := r0) (as := []) (st := [vL v134112]) (lm_9_437) rfl rfl (Nat.le_of_ble_eq_true rfl) w134141 g0 sh_42 (by decide) rfl (by decide) (s_248 w134141 g0 q134180 gpp) (fun R134181 T134182 H134183 p134184 => ?_))
            obtain ⟨e134185, e134187, z134188, e134186, b134189⟩ := p134184
            subst e134185
            subst e134186
            subst e134187
            show wp _ _ 247 58 [(5, vI v134111), (3, vL v134112), (0, .ref r0), (1, vI a1), (2, vI a2)] [vL z134188, vL v134112] _ H134137 _
            refine wp_of e247 c247_58 (rw_ladd (pc' := 59) rfl ?_)
            refine wp_of e247 c247_59 (rw_lstore_n (pc' := 60) (z := v134112 + z134188) (L' := [(3, vL (v134112 + z134188)), (5, vI v134111), (0, .ref r0), (1, vI a1), (2, vI a2)]) rfl rfl rfl ?_)
            refine wp_of e247 c247_60 (rw_iinc (pc' := 63) (z := v134111) (L' := [(5, vI (v134111 + 1)), (3, vL (v134112 + z134188)), (0, .ref r0), (1, vI a1), (2, vI a2)]) rfl rfl rfl rfl ?_)
            refine wp_of e247 c247_63 (rw_goto (p1 := 5) (by decide) ?_)
            have k134190 : H134137 r0 29 = H134113 r0 29 := (f134142 r0 29 _ g0 rfl)
            exact wp_lc (ks := [5, 3, 0, 1, 2]) (wl_c rfl (wl_c rfl (wl_c rfl (wl_c rfl (wl_c rfl wl_n))))) rfl (by decide) (ih134110 _ (by omega) (v134111 + 1) (v134112 + z134188) H134137 w134141 f134144 ⟨by omega, by omega⟩ ⟨by omega, by omega⟩ (by omega) (by omega) (by omega) rfl)
  exact wp_lc (ks := [5, 3, 0, 1, 2]) (wl_c rfl (wl_c rfl (wl_c rfl (wl_c rfl (wl_c rfl wl_n))))) rfl (by decide) (lp134108 _ 0 0 H hW wfr.rf ⟨by omega, by omega⟩ ⟨by omega, by omega⟩ (by omega) (by omega) (by omega) rfl)
/-! StrikeAwakeModel.weights()J -/
theorem e246 : wq_en 246 = some (9, 2, false, some FieldType.long) := rfl
theorem c246_0 : mc_cd 246 0 = some (.aload_n 0, 1) := by decide +kernel
theorem c246_1 : mc_cd 246 1 = some (.iconst 0, 1) := by decide +kernel
theorem c246_2 : mc_cd 246 2 = some (.putfield 48, 3) := by decide +kernel
theorem c246_5 : mc_cd 246 5 = some (.aload_n 0, 1) := by decide +kernel
theorem c246_6 : mc_cd 246 6 = some (.aload_n 0, 1) := by decide +kernel
theorem c246_7 : mc_cd 246 7 = some (.getfield 337, 3) := by decide +kernel
theorem c246_10 : mc_cd 246 10 = some (.ifnull 7, 3) := by decide +kernel
theorem c246_13 : mc_cd 246 13 = some (.iconst 1, 1) := by decide +kernel
theorem c246_14 : mc_cd 246 14 = some (.goto 4, 3) := by decide +kernel
theorem c246_17 : mc_cd 246 17 = some (.iconst 0, 1) := by decide +kernel
theorem c246_18 : mc_cd 246 18 = some (.invokevirtual 433, 3) := by decide +kernel
theorem c246_21 : mc_cd 246 21 = some (.istore_n 1, 1) := by decide +kernel
theorem c246_22 : mc_cd 246 22 = some (.iload_n 1, 1) := by decide +kernel
theorem c246_23 : mc_cd 246 23 = some (.ifCond .le 12, 3) := by decide +kernel
theorem c246_26 : mc_cd 246 26 = some (.aload_n 0, 1) := by decide +kernel
theorem c246_27 : mc_cd 246 27 = some (.iload_n 1, 1) := by decide +kernel
theorem c246_28 : mc_cd 246 28 = some (.invokevirtual 54, 3) := by decide +kernel
theorem c246_31 : mc_cd 246 31 = some (.i2l, 1) := by decide +kernel
theorem c246_32 : mc_cd 246 32 = some (.goto 13, 3) := by decide +kernel
theorem c246_35 : mc_cd 246 35 = some (.aload_n 0, 1) := by decide +kernel
theorem c246_36 : mc_cd 246 36 = some (.aload_n 0, 1) := by decide +kernel
theorem c246_37 : mc_cd 246 37 = some (.iconst (-1), 1) := by decide +kernel
theorem c246_38 : mc_cd 246 38 = some (.iconst 0, 1) := by decide +kernel
theorem c246_39 : mc_cd 246 39 = some (.invokevirtual 440, 3) := by decide +kernel
theorem c246_42 : mc_cd 246 42 = some (.invokevirtual 380, 3) := by decide +kernel
theorem c246_45 : mc_cd 246 45 = some (.lreturn, 1) := by decide +kernel
abbrev q_246 (r0 : Nat) (T : wq_T) (H : wq_H) : Option Value → wq_T → wq_H → Prop := fun r T' H' => T = T' ∧ WT T H' ∧ wfr [(42, 0), (42, 1), (42, 2), (42, 28), (42, 29), (51, 999), (52, 999)] T H H' ∧ ∃ z : Int, some (vL z) = r ∧ ((-9223372036854775808) ≤ z ∧ z ≤ 9223372036854775807) ∧ (wKI H' r0 = 1)
set_option maxHeartbeats 4000000 in
theorem s_246 {kt : Nat → Option mc_E} {T : wq_T} {H : wq_H} {r0 : Nat} (hW : WT T H) (g0 : T.2.2.2 r0 = some 42) (p0 : wKI H r0 = 1) : wpc kt 8 246 [.ref r0] T H (q_246 r0 T H) := by
  refine wp_enter e246 (Nat.le_of_ble_eq_true rfl) rfl ?_
  have f0 : wfr [(42, 0), (42, 1), (42, 2), (42, 28), (42, 29), (51, 999), (52, 999)] T H H := wfr.rf
  show wp _ _ 246 0 [(0, .ref r0)] [] _ H _
  refine wp_of e246 c246_0 (rw_aload_n (pc' := 1) (v := .ref r0) rfl rfl rfl ?_)
  refine wp_of e246 c246_1 (rw_iconst (pc' := 2) rfl ?_)
  refine wp_of e246 c246_2 (xp_I (pc' := 5) lf_9_48 hW g0 sh_42 (by decide) (by decide) ty_42_0 rfl rfl (by omega) (by omega) ⟨by omega, by omega⟩ rfl (fun H134283 e134284 w134285 => ?_))
  have f134286 := f0.put' e134284 g0 rfl
  have k134287 : H134283 r0 0 = 0 := wq_u_s e134284
  refine wp_of e246 c246_5 (rw_aload_n (pc' := 6) (v := .ref r0) rfl rfl rfl ?_)
  refine wp_of e246 c246_6 (rw_aload_n (pc' := 7) (v := .ref r0) rfl rfl rfl ?_)
  refine wp_of e246 c246_7 (xg_O (pc' := 10) lf_9_337 w134285 g0 sh_42 (by decide) (by decide) ty_42_3 rfl rfl (fun q134289 => ?_) (fun r134288 q134289 g134290 => ?_))
  · refine wp_of e246 c246_10 (rw_ifnull_n (p1 := 17) (p2 := 13) (by decide) rfl ?_)
    refine wp_of e246 c246_17 (rw_iconst (pc' := 18) rfl ?_)
    have k134291 : wKI H134283 r0 = wKI H r0 := (wKI_fr hW g0 ((wfr.rf (l := [(42, 0)])).put' e134284 g0 rfl) rfl)
    refine wp_of e246 c246_18 (xc_V (pc' := 21) (r := r0) (as := [vI 0]) (st := []) (lm_9_433) rfl rfl (Nat.le_of_ble_eq_true rfl) w134285 g0 sh_42 (by decide) rfl (by decide) (s_241 w134285 g0 ⟨by omega, by omega⟩ (by omega) (by omega)) (fun R134292 T134293 H134294 p134295 => ?_))
    obtain ⟨e134296, w134298, f134299, z134304, e134297, b134305, p134300, p134301, p134302, p134303⟩ := p134295
    subst e134296
    subst e134297
    have f134306 := f134286.tr f134299 rfl
    show wp _ _ 246 21 [(0, .ref r0)] [vI z134304] _ H134294 _
    refine wp_of e246 c246_21 (rw_istore_n (pc' := 22) (z := z134304) (L' := [(1, vI z134304), (0, .ref r0)]) rfl rfl rfl ?_)
    refine wp_of e246 c246_22 (rw_iload_n (pc' := 23) (z := z134304) rfl rfl ?_)
    refine wp_of e246 c246_23 (rw_if_le (p1 := 35) (p2 := 26) (by decide) rfl ⟨by omega, by omega⟩ (fun c134307 => ?_) (fun c134307 => ?_))
    · exfalso
      omega
    · refine wp_of e246 c246_26 (rw_aload_n (pc' := 27) (v := .ref r0) rfl rfl rfl ?_)
      refine wp_of e246 c246_27 (rw_iload_n (pc' := 28) (z := z134304) rfl rfl ?_)
      refine wp_of e246 c246_28 (xc_V (pc' := 31) (r := r0) (as := [vI z134304]) (st := []) (lm_9_54) rfl rfl (Nat.le_of_ble_eq_true rfl) w134298 g0 sh_42 (by decide) rfl (by decide) (s_170 w134298 g0 ⟨by omega, by omega⟩) (fun R134308 T134309 H134310 p134311 => ?_))
      obtain ⟨e134312, w134314, f134315, z134316, e134313, b134317⟩ := p134311
      subst e134312
      subst e134313
      have f134318 := f134306.tr f134315 rfl
      show wp _ _ 246 31 [(1, vI z134304), (0, .ref r0)] [vI z134316] _ H134310 _
      refine wp_of e246 c246_31 (rw_i2l (pc' := 32) rfl ⟨by omega, by omega⟩ ?_)
      refine wp_of e246 c246_32 (rw_goto (p1 := 45) (by decide) ?_)
      have k134319 : wKI H134310 r0 = wKI H134294 r0 := (wKI_fr w134298 g0 f134315 rfl)
      exact wp_lreturn e246 c246_45 rfl ⟨rfl, w134314, f134318, z134316, rfl, ⟨by omega, by omega⟩, by omega⟩
  · refine wp_of e246 c246_10 (rw_ifnull_r (p1 := 17) (p2 := 13) (by decide) rfl ?_)
    refine wp_of e246 c246_13 (rw_iconst (pc' := 14) rfl ?_)
    refine wp_of e246 c246_14 (rw_goto (p1 := 18) (by decide) ?_)
    have k134320 : wKI H134283 r0 = wKI H r0 := (wKI_fr hW g0 ((wfr.rf (l := [(42, 0)])).put' e134284 g0 rfl) rfl)
    refine wp_of e246 c246_18 (xc_V (pc' := 21) (r := r0) (as := [vI 1]) (st := []) (lm_9_433) rfl rfl (Nat.le_of_ble_eq_true rfl) w134285 g0 sh_42 (by decide) rfl (by decide) (s_241 w134285 g0 ⟨by omega, by omega⟩ (by omega) (by omega)) (fun R134321 T134322 H134323 p134324 => ?_))
    obtain ⟨e134325, w134327, f134328, z134333, e134326, b134334, p134329, p134330, p134331, p134332⟩ := p134324
    subst e134325
    subst e134326
    have f134335 := f134286.tr f134328 rfl
    show wp _ _ 246 21 [(0, .ref r0)] [vI z134333] _ H134323 _
    refine wp_of e246 c246_21 (rw_istore_n (pc' := 22) (z := z134333) (L' := [(1, vI z134333), (0, .ref r0)]) rfl rfl rfl ?_)
    refine wp_of e246 c246_22 (rw_iload_n (pc' := 23) (z := z134333) rfl rfl ?_)
    refine wp_of e246 c246_23 (rw_if_le (p1 := 35) (p2 := 26) (by decide) rfl ⟨by omega, by omega⟩ (fun c134336 => ?_) (fun c134336 => ?_))
    · refine wp_of e246 c246_35 (rw_aload_n (pc' := 36) (v := .ref r0) rfl rfl rfl ?_)
      refine wp_of e246 c246_36 (rw_aload_n (pc' := 37) (v := .ref r0) rfl rfl rfl ?_)
      refine wp_of e246 c246_37 (rw_iconst (pc' := 38) rfl ?_)
      refine wp_of e246 c246_38 (rw_iconst (pc' := 39) rfl ?_)
      have k134337 : H134323 r0 3 = H134283 r0 3 := (f134328 r0 3 _ g0 rfl)
      have q134338 : H134323 r0 3 = (r134288 : Int) := k134337.trans q134289
      refine wp_of e246 c246_39 (xc_V (pc' := 42) (r := r0) (as := [vI (-1), vI 0]) (st := [.ref r0]) (lm_9_440) rfl rfl (Nat.le_of_ble_eq_true rfl) w134327 g0 sh_42 (by decide) rfl (by decide) (s_247 w134327 g0 ⟨by omega, by omega⟩ ⟨by omega, by omega⟩ q134338 g134290 (by omega)) (fun R134339 T134340 H134341 p134342 => ?_))
      obtain ⟨e134343, w134345, f134346, z134348, e134344, b134349, p134347⟩ := p134342
      subst e134343
      subst e134344
      have f134350 := f134335.tr f134346 rfl
      show wp _ _ 246 42 [(1, vI z134333), (0, .ref r0)] [vL z134348, .ref r0] _ H134341 _
      refine wp_of e246 c246_42 (xc_V (pc' := 45) (r := r0) (as := [vL z134348]) (st := []) (lm_9_380) rfl rfl (Nat.le_of_ble_eq_true rfl) w134345 g0 sh_42 (by decide) rfl (by decide) (s_221 w134345 g0 ⟨by omega, by omega⟩) (fun R134351 T134352 H134353 p134354 => ?_))
      obtain ⟨e134355, w134357, f134358, z134359, e134356, b134360⟩ := p134354
      subst e134355
      subst e134356
      have f134361 := f134350.tr f134358 rfl
      show wp _ _ 246 45 [(1, vI z134333), (0, .ref r0)] [vL z134359] _ H134353 _
      have k134362 : wKI H134353 r0 = wKI H134323 r0 := ((wKI_fr w134345 g0 f134358 rfl).trans (wKI_fr w134327 g0 f134346 rfl))
      exact wp_lreturn e246 c246_45 rfl ⟨rfl, w134357, f134361, z134359, rfl, ⟨by omega, by omega⟩, by omega⟩
    · refine wp_of e246 c246_26 (rw_aload_n (pc' := 27) (v := .ref r0) rfl rfl rfl ?_)
      refine wp_of e246 c246_27 (rw_iload_n (pc' := 28) (z := z134333) rfl rfl ?_)
      refine wp_of e246 c246_28 (xc_V (pc' := 31) (r := r0) (as := [vI z134333]) (st := []) (lm_9_54) rfl rfl (Nat.le_of_ble_eq_true rfl) w134327 g0 sh_42 (by decide) rfl (by decide) (s_170 w134327 g0 ⟨by omega, by omega⟩) (fun R134363 T134364 H134365 p134366 => ?_))
      obtain ⟨e134367, w134369, f134370, z134371, e134368, b134372⟩ := p134366
      subst e134367
      subst e134368
      have f134373 := f134335.tr f134370 rfl
      show wp _ _ 246 31 [(1, vI z134333), (0, .ref r0)] [vI z134371] _ H134365 _
      refine wp_of e246 c246_31 (rw_i2l (pc' := 32) rfl ⟨by omega, by omega⟩ ?_)
      refine wp_of e246 c246_32 (rw_goto (p1 := 45) (by decide) ?_)
      have k134374 : wKI H134365 r0 = wKI H134323 r0 := (wKI_fr w134327 g0 f134370 rfl)
      exact wp_lreturn e246 c246_45 rfl ⟨rfl, w134369, f134373, z134371, rfl, ⟨by omega, by omega⟩, by omega⟩
