/-! methods of the reference (own work, written by wip/gen2/sx.py) -/
/-! StrikeAwakeModel.agrees()I -/
theorem e237 : wq_en 237 = some (9, 2, false, some FieldType.int) := rfl
theorem c237_0 : mc_cd 237 0 = some (.aload_n 0, 1) := by decide +kernel
theorem c237_1 : mc_cd 237 1 = some (.iconst 0, 1) := by decide +kernel
theorem c237_2 : mc_cd 237 2 = some (.putfield 48, 3) := by decide +kernel
theorem c237_5 : mc_cd 237 5 = some (.aload_n 0, 1) := by decide +kernel
theorem c237_6 : mc_cd 237 6 = some (.invokevirtual 412, 3) := by decide +kernel
theorem c237_9 : mc_cd 237 9 = some (.istore_n 1, 1) := by decide +kernel
theorem c237_10 : mc_cd 237 10 = some (.iload_n 1, 1) := by decide +kernel
theorem c237_11 : mc_cd 237 11 = some (.ifCond .le 11, 3) := by decide +kernel
theorem c237_14 : mc_cd 237 14 = some (.aload_n 0, 1) := by decide +kernel
theorem c237_15 : mc_cd 237 15 = some (.iload_n 1, 1) := by decide +kernel
theorem c237_16 : mc_cd 237 16 = some (.invokevirtual 54, 3) := by decide +kernel
theorem c237_19 : mc_cd 237 19 = some (.goto 23, 3) := by decide +kernel
theorem c237_22 : mc_cd 237 22 = some (.aload_n 0, 1) := by decide +kernel
theorem c237_23 : mc_cd 237 23 = some (.aload_n 0, 1) := by decide +kernel
theorem c237_24 : mc_cd 237 24 = some (.aload_n 0, 1) := by decide +kernel
theorem c237_25 : mc_cd 237 25 = some (.getfield 36, 3) := by decide +kernel
theorem c237_28 : mc_cd 237 28 = some (.invokevirtual 418, 3) := by decide +kernel
theorem c237_31 : mc_cd 237 31 = some (.ifCond .eq 7, 3) := by decide +kernel
theorem c237_34 : mc_cd 237 34 = some (.iconst 1, 1) := by decide +kernel
theorem c237_35 : mc_cd 237 35 = some (.goto 4, 3) := by decide +kernel
theorem c237_38 : mc_cd 237 38 = some (.iconst 0, 1) := by decide +kernel
theorem c237_39 : mc_cd 237 39 = some (.invokevirtual 58, 3) := by decide +kernel
theorem c237_42 : mc_cd 237 42 = some (.ireturn, 1) := by decide +kernel
abbrev q_237 (r0 : Nat) (T : wq_T) (H : wq_H) : Option Value → wq_T → wq_H → Prop := fun r T' H' => T = T' ∧ WT T H' ∧ wfr [(42, 0), (42, 1), (42, 2)] T H H' ∧ ∃ z : Int, some (vI z) = r ∧ ((-2147483648) ≤ z ∧ z ≤ 2147483647) ∧ (wKI H' r0 = 1)
set_option maxHeartbeats 4000000 in
theorem s_237 {kt : Nat → Option mc_E} {T : wq_T} {H : wq_H} {r0 : Nat} (hW : WT T H) (g0 : T.2.2.2 r0 = some 42) (p0 : wKI H r0 = 1) : wpc kt 6 237 [.ref r0] T H (q_237 r0 T H) := by
  refine wp_enter e237 (Nat.le_of_ble_eq_true rfl) rfl ?_
  have f0 : wfr [(42, 0), (42, 1), (42, 2)] T H H := wfr.rf
  show wp _ _ 237 0 [(0, .ref r0)] [] _ H _
  refine wp_of e237 c237_0 (rw_aload_n (pc' := 1) (v := .ref r0) rfl rfl rfl ?_)
  refine wp_of e237 c237_1 (rw_iconst (pc' := 2) rfl ?_)
  refine wp_of e237 c237_2 (xp_I (pc' := 5) lf_9_48 hW g0 sh_42 (by decide) (by decide) ty_42_0 rfl rfl (by omega) (by omega) ⟨by omega, by omega⟩ rfl (fun H130852 e130853 w130854 => ?_))
  have f130855 := f0.put' e130853 g0 rfl
  have k130856 : H130852 r0 0 = 0 := wq_u_s e130853
  refine wp_of e237 c237_5 (rw_aload_n (pc' := 6) (v := .ref r0) rfl rfl rfl ?_)
  refine wp_of e237 c237_6 (xc_V (pc' := 9) (r := r0) (as := []) (st := []) (lm_9_412) rfl rfl (Nat.le_of_ble_eq_true rfl) w130854 g0 sh_42 (by decide) rfl (by decide) (s_231 w130854 g0) (fun R130857 T130858 H130859 p130860 => ?_))
  obtain ⟨e130861, e130863, z130865, e130862, b130866, p130864⟩ := p130860
  subst e130861
  subst e130862
  subst e130863
  show wp _ _ 237 9 [(0, .ref r0)] [vI z130865] _ H130852 _
  refine wp_of e237 c237_9 (rw_istore_n (pc' := 10) (z := z130865) (L' := [(1, vI z130865), (0, .ref r0)]) rfl rfl rfl ?_)
  refine wp_of e237 c237_10 (rw_iload_n (pc' := 11) (z := z130865) rfl rfl ?_)
  refine wp_of e237 c237_11 (rw_if_le (p1 := 22) (p2 := 14) (by decide) rfl ⟨by omega, by omega⟩ (fun c130867 => ?_) (fun c130867 => ?_))
  · refine wp_of e237 c237_22 (rw_aload_n (pc' := 23) (v := .ref r0) rfl rfl rfl ?_)
    refine wp_of e237 c237_23 (rw_aload_n (pc' := 24) (v := .ref r0) rfl rfl rfl ?_)
    refine wp_of e237 c237_24 (rw_aload_n (pc' := 25) (v := .ref r0) rfl rfl rfl ?_)
    refine wp_of e237 c237_25 (xg_R (pc' := 28) lf_9_36 w130854 g0 sh_42 (by decide) (by decide) ty_42_26 rfl rfl (fun r130868 q130869 g130870 => ?_))
    obtain ⟨r130871, q130872, g130873⟩ := (w130854.opt g0 (t' := 54) (n := 33) (j := 3) (p := 0) (q := 0) rfl (by decide) rfl).resolve_left (by omega)
    refine wp_of e237 c237_28 (xc_V (pc' := 31) (r := r0) (as := [.ref r130868]) (st := [.ref r0]) (lm_9_418) rfl rfl (Nat.le_of_ble_eq_true rfl) w130854 g0 sh_42 (by decide) rfl (by decide) (s_238_m_said w130854 g0 g130870 q130872 g130873) (fun R130874 T130875 H130876 p130877 => ?_))
    obtain ⟨e130878, e130880, z130881, e130879, b130882⟩ := p130877
    subst e130878
    subst e130879
    subst e130880
    show wp _ _ 237 31 [(1, vI z130865), (0, .ref r0)] [vI z130881, .ref r0] _ H130852 _
    refine wp_of e237 c237_31 (rw_if_eq (p1 := 38) (p2 := 34) (by decide) rfl ⟨by omega, by omega⟩ (fun c130883 => ?_) (fun c130883 => ?_))
    · refine wp_of e237 c237_38 (rw_iconst (pc' := 39) rfl ?_)
      refine wp_of e237 c237_39 (xc_V (pc' := 42) (r := r0) (as := [vI 0]) (st := []) (lm_9_58) rfl rfl (Nat.le_of_ble_eq_true rfl) w130854 g0 sh_42 (by decide) rfl (by decide) (s_209 w130854 g0 ⟨by omega, by omega⟩) (fun R130884 T130885 H130886 p130887 => ?_))
      obtain ⟨e130888, w130890, f130891, z130892, e130889, b130893⟩ := p130887
      subst e130888
      subst e130889
      have f130894 := f130855.tr f130891 rfl
      show wp _ _ 237 42 [(1, vI z130865), (0, .ref r0)] [vI z130892] _ H130886 _
      have k130895 : wKI H130886 r0 = wKI H r0 := ((wKI_fr w130854 g0 f130891 rfl).trans (wKI_fr hW g0 ((wfr.rf (l := [(42, 0)])).put' e130853 g0 rfl) rfl))
      exact wp_ireturn e237 c237_42 rfl ⟨rfl, w130890, f130894, z130892, rfl, ⟨by omega, by omega⟩, by omega⟩
    · refine wp_of e237 c237_34 (rw_iconst (pc' := 35) rfl ?_)
      refine wp_of e237 c237_35 (rw_goto (p1 := 39) (by decide) ?_)
      refine wp_of e237 c237_39 (xc_V (pc' := 42) (r := r0) (as := [vI 1]) (st := []) (lm_9_58) rfl rfl (Nat.le_of_ble_eq_true rfl) w130854 g0 sh_42 (by decide) rfl (by decide) (s_209 w130854 g0 ⟨by omega, by omega⟩) (fun R130896 T130897 H130898 p130899 => ?_))
      obtain ⟨e130900, w130902, f130903, z130904, e130901, b130905⟩ := p130899
      subst e130900
      subst e130901
      have f130906 := f130855.tr f130903 rfl
      show wp _ _ 237 42 [(1, vI z130865), (0, .ref r0)] [vI z130904] _ H130898 _
      have k130907 : wKI H130898 r0 = wKI H r0 := ((wKI_fr w130854 g0 f130903 rfl).trans (wKI_fr hW g0 ((wfr.rf (l := [(42, 0)])).put' e130853 g0 rfl) rfl))
      exact wp_ireturn e237 c237_42 rfl ⟨rfl, w130902, f130906, z130904, rfl, ⟨by omega, by omega⟩, by omega⟩
  · refine wp_of e237 c237_14 (rw_aload_n (pc' := 15) (v := .ref r0) rfl rfl rfl ?_)
    refine wp_of e237 c237_15 (rw_iload_n (pc' := 16) (z := z130865) rfl rfl ?_)
    refine wp_of e237 c237_16 (xc_V (pc' := 19) (r := r0) (as := [vI z130865]) (st := []) (lm_9_54) rfl rfl (Nat.le_of_ble_eq_true rfl) w130854 g0 sh_42 (by decide) rfl (by decide) (s_170 w130854 g0 ⟨by omega, by omega⟩) (fun R130908 T130909 H130910 p130911 => ?_))
    obtain ⟨e130912, w130914, f130915, z130916, e130913, b130917⟩ := p130911
    subst e130912
    subst e130913
    have f130918 := f130855.tr f130915 rfl
    show wp _ _ 237 19 [(1, vI z130865), (0, .ref r0)] [vI z130916] _ H130910 _
    refine wp_of e237 c237_19 (rw_goto (p1 := 42) (by decide) ?_)
    have k130919 : wKI H130910 r0 = wKI H r0 := ((wKI_fr w130854 g0 f130915 rfl).trans (wKI_fr hW g0 ((wfr.rf (l := [(42, 0)])).put' e130853 g0 rfl) rfl))
    exact wp_ireturn e237 c237_42 rfl ⟨rfl, w130914, f130918, z130916, rfl, ⟨by omega, by omega⟩, by omega⟩
/-! StrikeAwakeModel.takes(I)V -/
theorem e243 : wq_en 243 = some (9, 4, false, none) := rfl
theorem c243_0 : mc_cd 243 0 = some (.iload_n 1, 1) := by decide +kernel
theorem c243_1 : mc_cd 243 1 = some (.istore_n 2, 1) := by decide +kernel
theorem c243_2 : mc_cd 243 2 = some (.aload_n 0, 1) := by decide +kernel
theorem c243_3 : mc_cd 243 3 = some (.getfield 337, 3) := by decide +kernel
theorem c243_6 : mc_cd 243 6 = some (.getfield 188, 3) := by decide +kernel
theorem c243_9 : mc_cd 243 9 = some (.iconst 1, 1) := by decide +kernel
theorem c243_10 : mc_cd 243 10 = some (.isub, 1) := by decide +kernel
theorem c243_11 : mc_cd 243 11 = some (.istore_n 3, 1) := by decide +kernel
theorem c243_12 : mc_cd 243 12 = some (.iload_n 3, 1) := by decide +kernel
theorem c243_13 : mc_cd 243 13 = some (.ifCond .lt 32, 3) := by decide +kernel
theorem c243_16 : mc_cd 243 16 = some (.aload_n 0, 1) := by decide +kernel
theorem c243_17 : mc_cd 243 17 = some (.getfield 39, 3) := by decide +kernel
theorem c243_20 : mc_cd 243 20 = some (.iload_n 3, 1) := by decide +kernel
theorem c243_21 : mc_cd 243 21 = some (.iload_n 2, 1) := by decide +kernel
theorem c243_22 : mc_cd 243 22 = some (.aload_n 0, 1) := by decide +kernel
theorem c243_23 : mc_cd 243 23 = some (.getfield 21, 3) := by decide +kernel
theorem c243_26 : mc_cd 243 26 = some (.iload_n 3, 1) := by decide +kernel
theorem c243_27 : mc_cd 243 27 = some (.iaload, 1) := by decide +kernel
theorem c243_28 : mc_cd 243 28 = some (.irem, 1) := by decide +kernel
theorem c243_29 : mc_cd 243 29 = some (.iastore, 1) := by decide +kernel
theorem c243_30 : mc_cd 243 30 = some (.iload_n 2, 1) := by decide +kernel
theorem c243_31 : mc_cd 243 31 = some (.aload_n 0, 1) := by decide +kernel
theorem c243_32 : mc_cd 243 32 = some (.getfield 21, 3) := by decide +kernel
theorem c243_35 : mc_cd 243 35 = some (.iload_n 3, 1) := by decide +kernel
theorem c243_36 : mc_cd 243 36 = some (.iaload, 1) := by decide +kernel
theorem c243_37 : mc_cd 243 37 = some (.idiv, 1) := by decide +kernel
theorem c243_38 : mc_cd 243 38 = some (.istore_n 2, 1) := by decide +kernel
theorem c243_39 : mc_cd 243 39 = some (.iinc 3 (-1), 3) := by decide +kernel
theorem c243_42 : mc_cd 243 42 = some (.goto (-30), 3) := by decide +kernel
theorem c243_45 : mc_cd 243 45 = some (.return_, 1) := by decide +kernel
abbrev q_243 (r0 : Nat) (a1 : Int) (pp : Nat) (T : wq_T) (H : wq_H) : Option Value → wq_T → wq_H → Prop := fun r T' H' => T = T' ∧ WT T H' ∧ wfr [(51, 999)] T H H' ∧ none = r
set_option maxHeartbeats 4000000 in
theorem s_243 {kt : Nat → Option mc_E} {T : wq_T} {H : wq_H} {r0 : Nat} {a1 : Int} {pp : Nat} (hW : WT T H) (g0 : T.2.2.2 r0 = some 42) (i1 : 0 ≤ a1 ∧ a1 ≤ 2147483647) (qpp : H r0 3 = (pp : Int)) (gpp : T.2.2.2 pp = some 54) (p0 : 0 < wLM H r0) : wpc kt 1 243 [.ref r0, vI a1] T H (q_243 r0 a1 pp T H) := by
  refine wp_enter e243 (Nat.le_of_ble_eq_true rfl) rfl ?_
  have f0 : wfr [(51, 999)] T H H := wfr.rf
  show wp _ _ 243 0 [(0, .ref r0), (1, vI a1)] [] _ H _
  refine wp_of e243 c243_0 (rw_iload_n (pc' := 1) (z := a1) rfl rfl ?_)
  refine wp_of e243 c243_1 (rw_istore_n (pc' := 2) (z := a1) (L' := [(2, vI a1), (0, .ref r0), (1, vI a1)]) rfl rfl rfl ?_)
  refine wp_of e243 c243_2 (rw_aload_n (pc' := 3) (v := .ref r0) rfl rfl rfl ?_)
  refine wp_of e243 c243_3 (xg_K (pc' := 6) lf_9_337 hW g0 sh_42 (by decide) (by decide) rfl qpp rfl ?_)
  refine wp_of e243 c243_6 (xg_I (pc' := 9) lf_9_188 hW gpp sh_54 (by decide) (by decide) ty_54_3 rfl rfl (fun b130989 b130990 => ?_))
  refine wp_of e243 c243_9 (rw_iconst (pc' := 10) rfl ?_)
  refine wp_of e243 c243_10 (rw_isub (pc' := 11) rfl ?_)
  refine wp_of e243 c243_11 (rw_istore_n (pc' := 12) (z := (H pp 3) - 1) (L' := [(3, vI ((H pp 3) - 1)), (2, vI a1), (0, .ref r0), (1, vI a1)]) rfl rfl rfl ?_)
  have lp131035 : ∀ (n131036 : Nat) (v131038 : Int) (v131039 : Int) (H131040 : wq_H), WT T H131040 → wfr [(51, 999)] T H H131040 → ((-1) ≤ v131038 ∧ v131038 ≤ 5) → (0 ≤ v131039 ∧ v131039 ≤ 2147483647) → (v131038 ≤ H131040 pp 3 - 1) → (v131038 - (-1)).toNat = n131036 → wp kt 0 243 12 [(3, vI v131038), (2, vI v131039), (0, .ref r0)] [] T H131040 (q_243 r0 a1 pp T H) := by
    intro n131036
    induction n131036 using Nat.strongRecOn with
    | _ n131036 ih131037 =>
      intro v131038 v131039 H131040 w131041 f131042 b131043 b131044 x131045 m131046
      have f131047 := f0.tr f131042 rfl
      have k131048 : H131040 pp 3 = H pp 3 := (f131042 pp 3 _ gpp rfl)
      have k131049 : wLM H131040 r0 = wLM H r0 := (wLM_fr hW g0 f131042 rfl)
      obtain ⟨r131050, q131051, g131052⟩ := w131041.ref g0 (t' := 45) (n := 33) (j := 21) (p := 0) (q := 0) rfl (by decide) rfl
      have k131053 : H131040 r0 3 = H r0 3 := (f131042 r0 3 _ g0 rfl)
      have q131054 : H131040 r0 3 = (pp : Int) := k131053.trans qpp
      have hx : 0 ≤ v131038 → 0 < H131040 r131050 (v131038).toNat := fun q => wLM_sp w131041 gpp g131052 q131054 q131051 (by omega) (by omega)
      refine wp_of e243 c243_12 (rw_iload_n (pc' := 13) (z := v131038) rfl rfl ?_)
      refine wp_of e243 c243_13 (rw_if_lt (p1 := 45) (p2 := 16) (by decide) rfl ⟨by omega, by omega⟩ (fun c131055 => ?_) (fun c131055 => ?_))
      · exact wp_return e243 c243_45 rfl ⟨rfl, w131041, f131047, rfl⟩
      · refine wp_of e243 c243_16 (rw_aload_n (pc' := 17) (v := .ref r0) rfl rfl rfl ?_)
        refine wp_of e243 c243_17 (xg_R (pc' := 20) lf_9_39 w131041 g0 sh_42 (by decide) (by decide) ty_42_27 rfl rfl (fun r131056 q131057 g131058 => ?_))
        refine wp_of e243 c243_20 (rw_iload_n (pc' := 21) (z := v131038) rfl rfl ?_)
        refine wp_of e243 c243_21 (rw_iload_n (pc' := 22) (z := v131039) rfl rfl ?_)
        refine wp_of e243 c243_22 (rw_aload_n (pc' := 23) (v := .ref r0) rfl rfl rfl ?_)
        refine wp_of e243 c243_23 (xg_K (pc' := 26) lf_9_21 w131041 g0 sh_42 (by decide) (by decide) rfl q131051 rfl ?_)
        refine wp_of e243 c243_26 (rw_iload_n (pc' := 27) (z := v131038) rfl rfl ?_)
        refine wp_of e243 c243_27 (xa_I (so := 0) (pc' := 28) w131041 g131052 sh_45 (by decide) (ty_45 _) (by omega) (by omega) rfl (fun b131059 b131060 => ?_))
        refine wp_of e243 c243_28 (rw_irem (pc' := 29) rfl ⟨by omega, by omega⟩ (by omega) ?_)
        obtain ⟨v131061, e131062⟩ : ∃ x : Int, x = wq_rem v131039 (H131040 r131050 (v131038.toNat)) := ⟨_, rfl⟩
        rw [← e131062]
        have b131063 : 0 ≤ v131061 ∧ v131061 < (H131040 r131050 (v131038.toNat)) := by
          rw [e131062]
          rw [wq_rem_e ⟨by omega, by omega⟩ ⟨by omega, by omega⟩]; exact ⟨Int.emod_nonneg _ (by omega), Int.emod_lt_of_pos _ (by omega)⟩
        refine wp_of e243 c243_29 (xs_I (pc' := 30) w131041 g131058 (by decide) sh_51 (by decide) (ty_51 _) (by omega) (by omega) ⟨by omega, by omega⟩ (by omega) (by omega) rfl (fun H131064 e131065 w131066 => ?_))
        have f131067 := f131047.put' e131065 g131058 rfl
        have f131068 := f131042.put' e131065 g131058 rfl
        refine wp_of e243 c243_30 (rw_iload_n (pc' := 31) (z := v131039) rfl rfl ?_)
        refine wp_of e243 c243_31 (rw_aload_n (pc' := 32) (v := .ref r0) rfl rfl rfl ?_)
        have k131069 : H131064 r0 21 = H131040 r0 21 := (wq_u_t e131065 g131058 g0 rfl 21)
        have q131070 : H131064 r0 21 = (r131050 : Int) := k131069.trans q131051
        refine wp_of e243 c243_32 (xg_K (pc' := 35) lf_9_21 w131066 g0 sh_42 (by decide) (by decide) rfl q131070 rfl ?_)
        refine wp_of e243 c243_35 (rw_iload_n (pc' := 36) (z := v131038) rfl rfl ?_)
        have k131071 : H131064 r131050 (v131038.toNat) = H131040 r131050 (v131038.toNat) := (wq_u_t e131065 g131058 g131052 rfl (v131038.toNat))
        refine wp_of e243 c243_36 (xa_I (so := 0) (pc' := 37) w131066 g131052 sh_45 (by decide) (ty_45 _) (by omega) (by omega) rfl (fun b131072 b131073 => ?_))
        refine wp_of e243 c243_37 (rw_idiv (pc' := 38) rfl ⟨by omega, by omega⟩ (by omega) ?_)
        obtain ⟨v131074, e131075⟩ : ∃ x : Int, x = wq_div v131039 (H131064 r131050 (v131038.toNat)) := ⟨_, rfl⟩
        rw [← e131075]
        have b131076 : 0 ≤ v131074 ∧ v131074 ≤ v131039 := by
          rw [e131075]
          rw [wq_div_e ⟨by omega, by omega⟩ ⟨by omega, by omega⟩]; exact ⟨Int.ediv_nonneg (by omega) (by omega), Int.ediv_le_self _ (by omega)⟩
        refine wp_of e243 c243_38 (rw_istore_n (pc' := 39) (z := v131074) (L' := [(2, vI v131074), (3, vI v131038), (0, .ref r0)]) rfl rfl rfl ?_)
        refine wp_of e243 c243_39 (rw_iinc (pc' := 42) (z := v131038) (L' := [(3, vI (v131038 + (-1))), (2, vI v131074), (0, .ref r0)]) rfl rfl rfl rfl ?_)
        refine wp_of e243 c243_42 (rw_goto (p1 := 12) (by decide) ?_)
        have k131077 : H131064 pp 3 = H131040 pp 3 := (wq_u_t e131065 g131058 gpp rfl 3)
        have k131078 : wLM H131064 r0 = wLM H131040 r0 := (wLM_fr w131041 g0 ((wfr.rf (l := [(51, 999)])).put' e131065 g131058 rfl) rfl)
        exact wp_lc (ks := [3, 2, 0]) (wl_c rfl (wl_c rfl (wl_c rfl wl_n))) rfl (by decide) (ih131037 _ (by omega) (v131038 + (-1)) v131074 H131064 w131066 f131068 ⟨by omega, by omega⟩ ⟨by omega, by omega⟩ (by omega) rfl)
  exact wp_lc (ks := [3, 2, 0, 1]) (wl_c rfl (wl_c rfl (wl_c rfl wl_n))) rfl (by decide) (lp131035 _ ((H pp 3) - 1) a1 H hW wfr.rf ⟨by omega, by omega⟩ ⟨by omega, by omega⟩ (by omega) rfl)
/-! StrikeAwakeModel.knows()V -/
theorem e242 : wq_en 242 = some (9, 2, false, none) := rfl
theorem c242_0 : mc_cd 242 0 = some (.aload_n 0, 1) := by decide +kernel
theorem c242_1 : mc_cd 242 1 = some (.getfield 353, 3) := by decide +kernel
theorem c242_4 : mc_cd 242 4 = some (.ifCond .eq 4, 3) := by decide +kernel
theorem c242_7 : mc_cd 242 7 = some (.return_, 1) := by decide +kernel
theorem c242_8 : mc_cd 242 8 = some (.aload_n 0, 1) := by decide +kernel
theorem c242_9 : mc_cd 242 9 = some (.iconst 0, 1) := by decide +kernel
theorem c242_10 : mc_cd 242 10 = some (.putfield 422, 3) := by decide +kernel
theorem c242_13 : mc_cd 242 13 = some (.iconst 0, 1) := by decide +kernel
theorem c242_14 : mc_cd 242 14 = some (.istore_n 1, 1) := by decide +kernel
theorem c242_15 : mc_cd 242 15 = some (.iload_n 1, 1) := by decide +kernel
theorem c242_16 : mc_cd 242 16 = some (.i2l, 1) := by decide +kernel
theorem c242_17 : mc_cd 242 17 = some (.aload_n 0, 1) := by decide +kernel
theorem c242_18 : mc_cd 242 18 = some (.invokevirtual 376, 3) := by decide +kernel
theorem c242_21 : mc_cd 242 21 = some (.lcmp, 1) := by decide +kernel
theorem c242_22 : mc_cd 242 22 = some (.ifCond .ge 48, 3) := by decide +kernel
theorem c242_25 : mc_cd 242 25 = some (.aload_n 0, 1) := by decide +kernel
theorem c242_26 : mc_cd 242 26 = some (.iload_n 1, 1) := by decide +kernel
theorem c242_27 : mc_cd 242 27 = some (.invokevirtual 425, 3) := by decide +kernel
theorem c242_30 : mc_cd 242 30 = some (.aload_n 0, 1) := by decide +kernel
theorem c242_31 : mc_cd 242 31 = some (.aload_n 0, 1) := by decide +kernel
theorem c242_32 : mc_cd 242 32 = some (.getfield 39, 3) := by decide +kernel
theorem c242_35 : mc_cd 242 35 = some (.invokevirtual 418, 3) := by decide +kernel
theorem c242_38 : mc_cd 242 38 = some (.ifCond .ne 6, 3) := by decide +kernel
theorem c242_41 : mc_cd 242 41 = some (.goto 23, 3) := by decide +kernel
theorem c242_44 : mc_cd 242 44 = some (.aload_n 0, 1) := by decide +kernel
theorem c242_45 : mc_cd 242 45 = some (.getfield 42, 3) := by decide +kernel
theorem c242_48 : mc_cd 242 48 = some (.aload_n 0, 1) := by decide +kernel
theorem c242_49 : mc_cd 242 49 = some (.getfield 422, 3) := by decide +kernel
theorem c242_52 : mc_cd 242 52 = some (.iload_n 1, 1) := by decide +kernel
theorem c242_53 : mc_cd 242 53 = some (.iastore, 1) := by decide +kernel
theorem c242_54 : mc_cd 242 54 = some (.aload_n 0, 1) := by decide +kernel
theorem c242_55 : mc_cd 242 55 = some (.dup, 1) := by decide +kernel
theorem c242_56 : mc_cd 242 56 = some (.getfield 422, 3) := by decide +kernel
theorem c242_59 : mc_cd 242 59 = some (.iconst 1, 1) := by decide +kernel
theorem c242_60 : mc_cd 242 60 = some (.iadd, 1) := by decide +kernel
theorem c242_61 : mc_cd 242 61 = some (.putfield 422, 3) := by decide +kernel
theorem c242_64 : mc_cd 242 64 = some (.iinc 1 1, 3) := by decide +kernel
theorem c242_67 : mc_cd 242 67 = some (.goto (-52), 3) := by decide +kernel
theorem c242_70 : mc_cd 242 70 = some (.aload_n 0, 1) := by decide +kernel
theorem c242_71 : mc_cd 242 71 = some (.iconst 1, 1) := by decide +kernel
theorem c242_72 : mc_cd 242 72 = some (.putfield 353, 3) := by decide +kernel
theorem c242_75 : mc_cd 242 75 = some (.return_, 1) := by decide +kernel
abbrev q_242 (r0 : Nat) (pp : Nat) (T : wq_T) (H : wq_H) : Option Value → wq_T → wq_H → Prop := fun r T' H' => T = T' ∧ WT T H' ∧ wfr [(42, 28), (42, 29), (51, 999), (52, 999)] T H H' ∧ none = r ∧ (wKI H' r0 = 1) ∧ (H' r0 29 = 0 ∨ 0 < wLM H' r0) ∧ (wLM H' r0 = wLM H r0)
set_option maxHeartbeats 4000000 in
theorem s_242 {kt : Nat → Option mc_E} {T : wq_T} {H : wq_H} {r0 : Nat} {pp : Nat} (hW : WT T H) (g0 : T.2.2.2 r0 = some 42) (qpp : H r0 3 = (pp : Int)) (gpp : T.2.2.2 pp = some 54) (p0 : wKI H r0 = 1) (p1 : wLM H r0 ≤ 20000) : wpc kt 6 242 [.ref r0] T H (q_242 r0 pp T H) := by
  refine wp_enter e242 (Nat.le_of_ble_eq_true rfl) rfl ?_
  have f0 : wfr [(42, 28), (42, 29), (51, 999), (52, 999)] T H H := wfr.rf
  show wp _ _ 242 0 [(0, .ref r0)] [] _ H _
  have b131600 : 0 ≤ H r0 29 ∧ H r0 29 ≤ 20000 := hW.box g0 (n := 33) rfl (by decide) rfl
  have hk := wKI_1.mp p0
  refine wp_of e242 c242_0 (rw_aload_n (pc' := 1) (v := .ref r0) rfl rfl rfl ?_)
  refine wp_of e242 c242_1 (xg_I (pc' := 4) lf_9_353 hW g0 sh_42 (by decide) (by decide) ty_42_28 rfl rfl (fun b131601 b131602 => ?_))
  refine wp_of e242 c242_4 (rw_if_eq (p1 := 8) (p2 := 7) (by decide) rfl ⟨by omega, by omega⟩ (fun c131603 => ?_) (fun c131603 => ?_))
  · refine wp_of e242 c242_8 (rw_aload_n (pc' := 9) (v := .ref r0) rfl rfl rfl ?_)
    refine wp_of e242 c242_9 (rw_iconst (pc' := 10) rfl ?_)
    refine wp_of e242 c242_10 (xp_I (pc' := 13) lf_9_422 hW g0 sh_42 (by decide) (by decide) ty_42_29 rfl rfl (by omega) (by omega) ⟨by omega, by omega⟩ rfl (fun H131604 e131605 w131606 => ?_))
    have f131607 := f0.put' e131605 g0 rfl
    have k131608 : H131604 r0 29 = 0 := wq_u_s e131605
    refine wp_of e242 c242_13 (rw_iconst (pc' := 14) rfl ?_)
    refine wp_of e242 c242_14 (rw_istore_n (pc' := 15) (z := 0) (L' := [(1, vI 0), (0, .ref r0)]) rfl rfl rfl ?_)
    have k132063 : wLM H131604 r0 = wLM H r0 := (wLM_fr hW g0 ((wfr.rf (l := [(42, 29)])).put' e131605 g0 rfl) rfl)
    have lp132058 : ∀ (n132059 : Nat) (v132061 : Int) (H132062 : wq_H), WT T H132062 → wfr [(42, 29), (51, 999), (52, 999)] T H131604 H132062 → (0 ≤ v132061 ∧ v132061 ≤ 20000) → (H132062 r0 29 ≤ v132061) → (H132062 r0 29 = 0 ∨ 0 < wLM H132062 r0) → (20000 - v132061).toNat = n132059 → wp kt 5 242 15 [(1, vI v132061), (0, .ref r0)] [] T H132062 (q_242 r0 pp T H) := by
      intro n132059
      induction n132059 using Nat.strongRecOn with
      | _ n132059 ih132060 =>
        intro v132061 H132062 w132064 f132065 b132066 x132067 x132068 m132069
        have f132070 := f131607.tr f132065 rfl
        have k132071 : wLM H132062 r0 = wLM H131604 r0 := (wLM_fr w131606 g0 f132065 rfl)
        refine wp_of e242 c242_15 (rw_iload_n (pc' := 16) (z := v132061) rfl rfl ?_)
        refine wp_of e242 c242_16 (rw_i2l (pc' := 17) rfl ⟨by omega, by omega⟩ ?_)
        refine wp_of e242 c242_17 (rw_aload_n (pc' := 18) (v := .ref r0) rfl rfl rfl ?_)
        have k132072 : H132062 r0 3 = H r0 3 := ((f132065 r0 3 _ g0 rfl).trans (wq_u_j e131605 rfl))
        have q132073 : H132062 r0 3 = (pp : Int) := k132072.trans qpp
        refine wp_of e242 c242_18 (xc_V (pc' := 21) (r := r0) (as := []) (st := [vL v132061]) (lm_9_376) rfl rfl (Nat.le_of_ble_eq_true rfl) w132064 g0 sh_42 (by decide) rfl (by decide) (s_220 w132064 g0 q132073 gpp) (fun R132074 T132075 H132076 p132077 => ?_))
        obtain ⟨e132078, e132080, z132082, e132079, b132083, p132081⟩ := p132077
        subst e132078
        subst e132079
        subst e132080
        show wp _ _ 242 21 [(1, vI v132061), (0, .ref r0)] [vL z132082, vL v132061] _ H132062 _
        refine wp_of e242 c242_21 (rw_lcmp (pc' := 22) rfl ⟨by omega, by omega⟩ ⟨by omega, by omega⟩ ?_)
        have b132084 := wq_cmp_b v132061 z132082
        refine wp_of e242 c242_22 (rw_if_ge (p1 := 70) (p2 := 25) (by decide) rfl ⟨by omega, by omega⟩ (fun c132085 => ?_) (fun c132085 => ?_))
        · refine wp_of e242 c242_70 (rw_aload_n (pc' := 71) (v := .ref r0) rfl rfl rfl ?_)
          refine wp_of e242 c242_71 (rw_iconst (pc' := 72) rfl ?_)
          refine wp_of e242 c242_72 (xp_Z (pc' := 75) lf_9_353 w132064 g0 sh_42 (by decide) (by decide) ty_42_28 rfl rfl (by omega) (by omega) rfl (fun H132086 e132087 w132088 => ?_))
          have f132089 := f132070.put' e132087 g0 rfl
          have k132090 : H132086 r0 28 = 1 := wq_u_s e132087
          have k132091 : H132086 r0 29 = H132062 r0 29 := (wq_u_j e132087 rfl)
          have k132092 : wLM H132086 r0 = wLM H132062 r0 := (wLM_fr w132064 g0 ((wfr.rf (l := [(42, 28)])).put' e132087 g0 rfl) rfl)
          have k132093 : wKI H132086 r0 = 1 := wKI_1.mpr (by omega)
          exact wp_return e242 c242_75 rfl ⟨rfl, w132088, f132089, rfl, by omega, by omega, by omega⟩
        · refine wp_of e242 c242_25 (rw_aload_n (pc' := 26) (v := .ref r0) rfl rfl rfl ?_)
          refine wp_of e242 c242_26 (rw_iload_n (pc' := 27) (z := v132061) rfl rfl ?_)
          refine wp_of e242 c242_27 (xc_V (pc' := 30) (r := r0) (as := [vI v132061]) (st := []) (lm_9_425) rfl rfl (Nat.le_of_ble_eq_true rfl) w132064 g0 sh_42 (by decide) rfl (by decide) (s_243 w132064 g0 ⟨by omega, by omega⟩ q132073 gpp (by omega)) (fun R132094 T132095 H132096 p132097 => ?_))
          obtain ⟨e132098, w132100, f132101, e132099⟩ := p132097
          subst e132098
          subst e132099
          have f132102 := f132070.tr f132101 rfl
          have f132103 := f132065.tr f132101 rfl
          show wp _ _ 242 30 [(1, vI v132061), (0, .ref r0)] [] _ H132096 _
          refine wp_of e242 c242_30 (rw_aload_n (pc' := 31) (v := .ref r0) rfl rfl rfl ?_)
          refine wp_of e242 c242_31 (rw_aload_n (pc' := 32) (v := .ref r0) rfl rfl rfl ?_)
          refine wp_of e242 c242_32 (xg_R (pc' := 35) lf_9_39 w132100 g0 sh_42 (by decide) (by decide) ty_42_27 rfl rfl (fun r132104 q132105 g132106 => ?_))
          have k132107 : H132096 r0 3 = H132062 r0 3 := (f132101 r0 3 _ g0 rfl)
          have q132108 : H132096 r0 3 = (pp : Int) := k132107.trans q132073
          refine wp_of e242 c242_35 (xc_V (pc' := 38) (r := r0) (as := [.ref r132104]) (st := []) (lm_9_418) rfl rfl (Nat.le_of_ble_eq_true rfl) w132100 g0 sh_42 (by decide) rfl (by decide) (s_238_m_lot w132100 g0 g132106 q132108 gpp) (fun R132109 T132110 H132111 p132112 => ?_))
          obtain ⟨e132113, e132115, z132116, e132114, b132117⟩ := p132112
          subst e132113
          subst e132114
          subst e132115
          show wp _ _ 242 38 [(1, vI v132061), (0, .ref r0)] [vI z132116] _ H132096 _
          refine wp_of e242 c242_38 (rw_if_ne (p1 := 44) (p2 := 41) (by decide) rfl ⟨by omega, by omega⟩ (fun c132118 => ?_) (fun c132118 => ?_))
          · refine wp_of e242 c242_44 (rw_aload_n (pc' := 45) (v := .ref r0) rfl rfl rfl ?_)
            refine wp_of e242 c242_45 (xg_R (pc' := 48) lf_9_42 w132100 g0 sh_42 (by decide) (by decide) ty_42_30 rfl rfl (fun r132119 q132120 g132121 => ?_))
            refine wp_of e242 c242_48 (rw_aload_n (pc' := 49) (v := .ref r0) rfl rfl rfl ?_)
            have k132122 : H132096 r0 29 = H132062 r0 29 := (f132101 r0 29 _ g0 rfl)
            refine wp_of e242 c242_49 (xg_I (pc' := 52) lf_9_422 w132100 g0 sh_42 (by decide) (by decide) ty_42_29 rfl rfl (fun b132123 b132124 => ?_))
            refine wp_of e242 c242_52 (rw_iload_n (pc' := 53) (z := v132061) rfl rfl ?_)
            refine wp_of e242 c242_53 (xs_I (pc' := 54) w132100 g132121 (by decide) sh_52 (by decide) (ty_52 _) (by omega) (by omega) ⟨by omega, by omega⟩ (by omega) (by omega) rfl (fun H132125 e132126 w132127 => ?_))
            have f132128 := f132102.put' e132126 g132121 rfl
            have f132129 := f132103.put' e132126 g132121 rfl
            refine wp_of e242 c242_54 (rw_aload_n (pc' := 55) (v := .ref r0) rfl rfl rfl ?_)
            refine wp_of e242 c242_55 (rw_dup (pc' := 56) rfl rfl ?_)
            have k132130 : H132125 r0 29 = H132096 r0 29 := (wq_u_t e132126 g132121 g0 rfl 29)
            refine wp_of e242 c242_56 (xg_I (pc' := 59) lf_9_422 w132127 g0 sh_42 (by decide) (by decide) ty_42_29 rfl rfl (fun b132131 b132132 => ?_))
            refine wp_of e242 c242_59 (rw_iconst (pc' := 60) rfl ?_)
            refine wp_of e242 c242_60 (rw_iadd (pc' := 61) rfl ?_)
            refine wp_of e242 c242_61 (xp_I (pc' := 64) lf_9_422 w132127 g0 sh_42 (by decide) (by decide) ty_42_29 rfl rfl (by omega) (by omega) ⟨by omega, by omega⟩ rfl (fun H132133 e132134 w132135 => ?_))
            have f132136 := f132128.put' e132134 g0 rfl
            have f132137 := f132129.put' e132134 g0 rfl
            have k132138 : H132133 r0 29 = (H132125 r0 29) + 1 := wq_u_s e132134
            refine wp_of e242 c242_64 (rw_iinc (pc' := 67) (z := v132061) (L' := [(1, vI (v132061 + 1)), (0, .ref r0)]) rfl rfl rfl rfl ?_)
            refine wp_of e242 c242_67 (rw_goto (p1 := 15) (by decide) ?_)
            have k132139 : wLM H132133 r0 = wLM H132062 r0 := ((wLM_fr w132127 g0 ((wfr.rf (l := [(42, 29)])).put' e132134 g0 rfl) rfl).trans ((wLM_fr w132100 g0 ((wfr.rf (l := [(52, 999)])).put' e132126 g132121 rfl) rfl).trans (wLM_fr w132064 g0 f132101 rfl)))
            exact wp_lc (ks := [1, 0]) (wl_c rfl (wl_c rfl wl_n)) rfl (by decide) (ih132060 _ (by omega) (v132061 + 1) H132133 w132135 f132137 ⟨by omega, by omega⟩ (by omega) (by omega) rfl)
          · refine wp_of e242 c242_41 (rw_goto (p1 := 64) (by decide) ?_)
            refine wp_of e242 c242_64 (rw_iinc (pc' := 67) (z := v132061) (L' := [(1, vI (v132061 + 1)), (0, .ref r0)]) rfl rfl rfl rfl ?_)
            refine wp_of e242 c242_67 (rw_goto (p1 := 15) (by decide) ?_)
            have k132140 : H132096 r0 29 = H132062 r0 29 := (f132101 r0 29 _ g0 rfl)
            have k132141 : wLM H132096 r0 = wLM H132062 r0 := (wLM_fr w132064 g0 f132101 rfl)
            exact wp_lc (ks := [1, 0]) (wl_c rfl (wl_c rfl wl_n)) rfl (by decide) (ih132060 _ (by omega) (v132061 + 1) H132096 w132100 f132103 ⟨by omega, by omega⟩ (by omega) (by omega) rfl)
    exact wp_lc (ks := [1, 0]) (wl_c rfl (wl_c rfl wl_n)) rfl (by decide) (lp132058 _ 0 H131604 w131606 wfr.rf ⟨by omega, by omega⟩ (by omega) (by omega) rfl)
  · exact wp_return e242 c242_7 rfl ⟨rfl, hW, f0, rfl, by omega, by omega, by omega⟩
/-! StrikeAwakeModel.refusesWorlds(Z)I -/
theorem e241 : wq_en 241 = some (9, 2, false, some FieldType.int) := rfl
theorem c241_0 : mc_cd 241 0 = some (.iload_n 1, 1) := by decide +kernel
theorem c241_1 : mc_cd 241 1 = some (.ifCond .ne 5, 3) := by decide +kernel
theorem c241_4 : mc_cd 241 4 = some (.iconst 1, 1) := by decide +kernel
theorem c241_5 : mc_cd 241 5 = some (.ireturn, 1) := by decide +kernel
theorem c241_6 : mc_cd 241 6 = some (.aload_n 0, 1) := by decide +kernel
theorem c241_7 : mc_cd 241 7 = some (.invokevirtual 376, 3) := by decide +kernel
theorem c241_10 : mc_cd 241 10 = some (.ldc2_w 428, 3) := by decide +kernel
theorem c241_13 : mc_cd 241 13 = some (.lcmp, 1) := by decide +kernel
theorem c241_14 : mc_cd 241 14 = some (.ifCond .le 5, 3) := by decide +kernel
theorem c241_17 : mc_cd 241 17 = some (.iconst 3, 1) := by decide +kernel
theorem c241_18 : mc_cd 241 18 = some (.ireturn, 1) := by decide +kernel
theorem c241_19 : mc_cd 241 19 = some (.aload_n 0, 1) := by decide +kernel
theorem c241_20 : mc_cd 241 20 = some (.invokevirtual 430, 3) := by decide +kernel
theorem c241_23 : mc_cd 241 23 = some (.iconst 0, 1) := by decide +kernel
theorem c241_24 : mc_cd 241 24 = some (.ireturn, 1) := by decide +kernel
abbrev q_241 (r0 : Nat) (a1 : Int) (T : wq_T) (H : wq_H) : Option Value → wq_T → wq_H → Prop := fun r T' H' => T = T' ∧ WT T H' ∧ wfr [(42, 28), (42, 29), (51, 999), (52, 999)] T H H' ∧ ∃ z : Int, some (vI z) = r ∧ (0 ≤ z ∧ z ≤ 6) ∧ (z ≠ 0 ∨ a1 = 1) ∧ (z ≠ 0 ∨ wLM H' r0 ≤ 20000) ∧ (wKI H' r0 = 1) ∧ (z ≠ 0 ∨ H' r0 29 = 0 ∨ 0 < wLM H' r0)
set_option maxHeartbeats 4000000 in
theorem s_241 {kt : Nat → Option mc_E} {T : wq_T} {H : wq_H} {r0 : Nat} {a1 : Int} (hW : WT T H) (g0 : T.2.2.2 r0 = some 42) (i1 : 0 ≤ a1 ∧ a1 ≤ 1) (p0 : a1 = 0 ∨ H r0 3 ≠ -1) (p1 : wKI H r0 = 1) : wpc kt 7 241 [.ref r0, vI a1] T H (q_241 r0 a1 T H) := by
  refine wp_enter e241 (Nat.le_of_ble_eq_true rfl) rfl ?_
  have f0 : wfr [(42, 28), (42, 29), (51, 999), (52, 999)] T H H := wfr.rf
  show wp _ _ 241 0 [(0, .ref r0), (1, vI a1)] [] _ H _
  refine wp_of e241 c241_0 (rw_iload_n (pc' := 1) (z := a1) rfl rfl ?_)
  refine wp_of e241 c241_1 (rw_if_ne (p1 := 6) (p2 := 4) (by decide) rfl ⟨by omega, by omega⟩ (fun c132170 => ?_) (fun c132170 => ?_))
  · refine wp_of e241 c241_6 (rw_aload_n (pc' := 7) (v := .ref r0) rfl rfl rfl ?_)
    obtain ⟨r132171, q132172, g132173⟩ := (hW.opt g0 (t' := 54) (n := 33) (j := 3) (p := 0) (q := 0) rfl (by decide) rfl).resolve_left (by omega)
    refine wp_of e241 c241_7 (xc_V (pc' := 10) (r := r0) (as := []) (st := []) (lm_9_376) rfl rfl (Nat.le_of_ble_eq_true rfl) hW g0 sh_42 (by decide) rfl (by decide) (s_220 hW g0 q132172 g132173) (fun R132174 T132175 H132176 p132177 => ?_))
    obtain ⟨e132178, e132180, z132182, e132179, b132183, p132181⟩ := p132177
    subst e132178
    subst e132179
    subst e132180
    show wp _ _ 241 10 [(0, .ref r0), (1, vI a1)] [vL z132182] _ H _
    refine wp_of e241 c241_10 (rw_ldc2 (pc' := 13) (z := 20000) rfl rfl rfl ?_)
    refine wp_of e241 c241_13 (rw_lcmp (pc' := 14) rfl ⟨by omega, by omega⟩ ⟨by omega, by omega⟩ ?_)
    have b132184 := wq_cmp_b z132182 20000
    refine wp_of e241 c241_14 (rw_if_le (p1 := 19) (p2 := 17) (by decide) rfl ⟨by omega, by omega⟩ (fun c132185 => ?_) (fun c132185 => ?_))
    · refine wp_of e241 c241_19 (rw_aload_n (pc' := 20) (v := .ref r0) rfl rfl rfl ?_)
      refine wp_of e241 c241_20 (xc_V (pc' := 23) (r := r0) (as := []) (st := []) (lm_9_430) rfl rfl (Nat.le_of_ble_eq_true rfl) hW g0 sh_42 (by decide) rfl (by decide) (s_242 hW g0 q132172 g132173 (by omega) (by omega)) (fun R132186 T132187 H132188 p132189 => ?_))
      obtain ⟨e132190, w132192, f132193, e132191, p132194, p132195, p132196⟩ := p132189
      subst e132190
      subst e132191
      have f132197 := f0.tr f132193 rfl
      show wp _ _ 241 23 [(0, .ref r0), (1, vI a1)] [] _ H132188 _
      refine wp_of e241 c241_23 (rw_iconst (pc' := 24) rfl ?_)
      exact wp_ireturn e241 c241_24 rfl ⟨rfl, w132192, f132197, 0, rfl, ⟨by omega, by omega⟩, by omega, by omega, by omega, by omega⟩
    · refine wp_of e241 c241_17 (rw_iconst (pc' := 18) rfl ?_)
      exact wp_ireturn e241 c241_18 rfl ⟨rfl, hW, f0, 3, rfl, ⟨by omega, by omega⟩, by omega, by omega, by omega, by omega⟩
  · refine wp_of e241 c241_4 (rw_iconst (pc' := 5) rfl ?_)
    exact wp_ireturn e241 c241_5 rfl ⟨rfl, hW, f0, 1, rfl, ⟨by omega, by omega⟩, by omega, by omega, by omega, by omega⟩
/-! StrikeAwakeModel.worlds()I -/
theorem e240 : wq_en 240 = some (9, 2, false, some FieldType.int) := rfl
theorem c240_0 : mc_cd 240 0 = some (.aload_n 0, 1) := by decide +kernel
theorem c240_1 : mc_cd 240 1 = some (.iconst 0, 1) := by decide +kernel
theorem c240_2 : mc_cd 240 2 = some (.putfield 48, 3) := by decide +kernel
theorem c240_5 : mc_cd 240 5 = some (.aload_n 0, 1) := by decide +kernel
theorem c240_6 : mc_cd 240 6 = some (.aload_n 0, 1) := by decide +kernel
theorem c240_7 : mc_cd 240 7 = some (.getfield 337, 3) := by decide +kernel
theorem c240_10 : mc_cd 240 10 = some (.ifnull 7, 3) := by decide +kernel
theorem c240_13 : mc_cd 240 13 = some (.iconst 1, 1) := by decide +kernel
theorem c240_14 : mc_cd 240 14 = some (.goto 4, 3) := by decide +kernel
theorem c240_17 : mc_cd 240 17 = some (.iconst 0, 1) := by decide +kernel
theorem c240_18 : mc_cd 240 18 = some (.invokevirtual 433, 3) := by decide +kernel
theorem c240_21 : mc_cd 240 21 = some (.istore_n 1, 1) := by decide +kernel
theorem c240_22 : mc_cd 240 22 = some (.iload_n 1, 1) := by decide +kernel
theorem c240_23 : mc_cd 240 23 = some (.ifCond .le 11, 3) := by decide +kernel
theorem c240_26 : mc_cd 240 26 = some (.aload_n 0, 1) := by decide +kernel
theorem c240_27 : mc_cd 240 27 = some (.iload_n 1, 1) := by decide +kernel
theorem c240_28 : mc_cd 240 28 = some (.invokevirtual 54, 3) := by decide +kernel
theorem c240_31 : mc_cd 240 31 = some (.goto 11, 3) := by decide +kernel
theorem c240_34 : mc_cd 240 34 = some (.aload_n 0, 1) := by decide +kernel
theorem c240_35 : mc_cd 240 35 = some (.aload_n 0, 1) := by decide +kernel
theorem c240_36 : mc_cd 240 36 = some (.getfield 422, 3) := by decide +kernel
theorem c240_39 : mc_cd 240 39 = some (.invokevirtual 58, 3) := by decide +kernel
theorem c240_42 : mc_cd 240 42 = some (.ireturn, 1) := by decide +kernel
abbrev q_240 (r0 : Nat) (T : wq_T) (H : wq_H) : Option Value → wq_T → wq_H → Prop := fun r T' H' => T = T' ∧ WT T H' ∧ wfr [(42, 0), (42, 1), (42, 2), (42, 28), (42, 29), (51, 999), (52, 999)] T H H' ∧ ∃ z : Int, some (vI z) = r ∧ ((-2147483648) ≤ z ∧ z ≤ 2147483647) ∧ (wKI H' r0 = 1)
set_option maxHeartbeats 4000000 in
theorem s_240 {kt : Nat → Option mc_E} {T : wq_T} {H : wq_H} {r0 : Nat} (hW : WT T H) (g0 : T.2.2.2 r0 = some 42) (p0 : wKI H r0 = 1) : wpc kt 8 240 [.ref r0] T H (q_240 r0 T H) := by
  refine wp_enter e240 (Nat.le_of_ble_eq_true rfl) rfl ?_
  have f0 : wfr [(42, 0), (42, 1), (42, 2), (42, 28), (42, 29), (51, 999), (52, 999)] T H H := wfr.rf
  show wp _ _ 240 0 [(0, .ref r0)] [] _ H _
  refine wp_of e240 c240_0 (rw_aload_n (pc' := 1) (v := .ref r0) rfl rfl rfl ?_)
  refine wp_of e240 c240_1 (rw_iconst (pc' := 2) rfl ?_)
  refine wp_of e240 c240_2 (xp_I (pc' := 5) lf_9_48 hW g0 sh_42 (by decide) (by decide) ty_42_0 rfl rfl (by omega) (by omega) ⟨by omega, by omega⟩ rfl (fun H132278 e132279 w132280 => ?_))
  have f132281 := f0.put' e132279 g0 rfl
  have k132282 : H132278 r0 0 = 0 := wq_u_s e132279
  refine wp_of e240 c240_5 (rw_aload_n (pc' := 6) (v := .ref r0) rfl rfl rfl ?_)
  refine wp_of e240 c240_6 (rw_aload_n (pc' := 7) (v := .ref r0) rfl rfl rfl ?_)
  refine wp_of e240 c240_7 (xg_O (pc' := 10) lf_9_337 w132280 g0 sh_42 (by decide) (by decide) ty_42_3 rfl rfl (fun q132284 => ?_) (fun r132283 q132284 g132285 => ?_))
  · refine wp_of e240 c240_10 (rw_ifnull_n (p1 := 17) (p2 := 13) (by decide) rfl ?_)
    refine wp_of e240 c240_17 (rw_iconst (pc' := 18) rfl ?_)
    have k132286 : wKI H132278 r0 = wKI H r0 := (wKI_fr hW g0 ((wfr.rf (l := [(42, 0)])).put' e132279 g0 rfl) rfl)
    refine wp_of e240 c240_18 (xc_V (pc' := 21) (r := r0) (as := [vI 0]) (st := []) (lm_9_433) rfl rfl (Nat.le_of_ble_eq_true rfl) w132280 g0 sh_42 (by decide) rfl (by decide) (s_241 w132280 g0 ⟨by omega, by omega⟩ (by omega) (by omega)) (fun R132287 T132288 H132289 p132290 => ?_))
    obtain ⟨e132291, w132293, f132294, z132299, e132292, b132300, p132295, p132296, p132297, p132298⟩ := p132290
    subst e132291
    subst e132292
    have f132301 := f132281.tr f132294 rfl
    show wp _ _ 240 21 [(0, .ref r0)] [vI z132299] _ H132289 _
    refine wp_of e240 c240_21 (rw_istore_n (pc' := 22) (z := z132299) (L' := [(1, vI z132299), (0, .ref r0)]) rfl rfl rfl ?_)
    refine wp_of e240 c240_22 (rw_iload_n (pc' := 23) (z := z132299) rfl rfl ?_)
    refine wp_of e240 c240_23 (rw_if_le (p1 := 34) (p2 := 26) (by decide) rfl ⟨by omega, by omega⟩ (fun c132302 => ?_) (fun c132302 => ?_))
    · exfalso
      omega
    · refine wp_of e240 c240_26 (rw_aload_n (pc' := 27) (v := .ref r0) rfl rfl rfl ?_)
      refine wp_of e240 c240_27 (rw_iload_n (pc' := 28) (z := z132299) rfl rfl ?_)
      refine wp_of e240 c240_28 (xc_V (pc' := 31) (r := r0) (as := [vI z132299]) (st := []) (lm_9_54) rfl rfl (Nat.le_of_ble_eq_true rfl) w132293 g0 sh_42 (by decide) rfl (by decide) (s_170 w132293 g0 ⟨by omega, by omega⟩) (fun R132303 T132304 H132305 p132306 => ?_))
      obtain ⟨e132307, w132309, f132310, z132311, e132308, b132312⟩ := p132306
      subst e132307
      subst e132308
      have f132313 := f132301.tr f132310 rfl
      show wp _ _ 240 31 [(1, vI z132299), (0, .ref r0)] [vI z132311] _ H132305 _
      refine wp_of e240 c240_31 (rw_goto (p1 := 42) (by decide) ?_)
      have k132314 : wKI H132305 r0 = wKI H132289 r0 := (wKI_fr w132293 g0 f132310 rfl)
      exact wp_ireturn e240 c240_42 rfl ⟨rfl, w132309, f132313, z132311, rfl, ⟨by omega, by omega⟩, by omega⟩
  · refine wp_of e240 c240_10 (rw_ifnull_r (p1 := 17) (p2 := 13) (by decide) rfl ?_)
    refine wp_of e240 c240_13 (rw_iconst (pc' := 14) rfl ?_)
    refine wp_of e240 c240_14 (rw_goto (p1 := 18) (by decide) ?_)
    have k132315 : wKI H132278 r0 = wKI H r0 := (wKI_fr hW g0 ((wfr.rf (l := [(42, 0)])).put' e132279 g0 rfl) rfl)
    refine wp_of e240 c240_18 (xc_V (pc' := 21) (r := r0) (as := [vI 1]) (st := []) (lm_9_433) rfl rfl (Nat.le_of_ble_eq_true rfl) w132280 g0 sh_42 (by decide) rfl (by decide) (s_241 w132280 g0 ⟨by omega, by omega⟩ (by omega) (by omega)) (fun R132316 T132317 H132318 p132319 => ?_))
    obtain ⟨e132320, w132322, f132323, z132328, e132321, b132329, p132324, p132325, p132326, p132327⟩ := p132319
    subst e132320
    subst e132321
    have f132330 := f132281.tr f132323 rfl
    show wp _ _ 240 21 [(0, .ref r0)] [vI z132328] _ H132318 _
    refine wp_of e240 c240_21 (rw_istore_n (pc' := 22) (z := z132328) (L' := [(1, vI z132328), (0, .ref r0)]) rfl rfl rfl ?_)
    refine wp_of e240 c240_22 (rw_iload_n (pc' := 23) (z := z132328) rfl rfl ?_)
    refine wp_of e240 c240_23 (rw_if_le (p1 := 34) (p2 := 26) (by decide) rfl ⟨by omega, by omega⟩ (fun c132331 => ?_) (fun c132331 => ?_))
    · refine wp_of e240 c240_34 (rw_aload_n (pc' := 35) (v := .ref r0) rfl rfl rfl ?_)
      refine wp_of e240 c240_35 (rw_aload_n (pc' := 36) (v := .ref r0) rfl rfl rfl ?_)
      refine wp_of e240 c240_36 (xg_I (pc' := 39) lf_9_422 w132322 g0 sh_42 (by decide) (by decide) ty_42_29 rfl rfl (fun b132332 b132333 => ?_))
      refine wp_of e240 c240_39 (xc_V (pc' := 42) (r := r0) (as := [vI (H132318 r0 29)]) (st := []) (lm_9_58) rfl rfl (Nat.le_of_ble_eq_true rfl) w132322 g0 sh_42 (by decide) rfl (by decide) (s_209 w132322 g0 ⟨by omega, by omega⟩) (fun R132334 T132335 H132336 p132337 => ?_))
      obtain ⟨e132338, w132340, f132341, z132342, e132339, b132343⟩ := p132337
      subst e132338
      subst e132339
      have f132344 := f132330.tr f132341 rfl
      show wp _ _ 240 42 [(1, vI z132328), (0, .ref r0)] [vI z132342] _ H132336 _
      have k132345 : wKI H132336 r0 = wKI H132318 r0 := (wKI_fr w132322 g0 f132341 rfl)
      exact wp_ireturn e240 c240_42 rfl ⟨rfl, w132340, f132344, z132342, rfl, ⟨by omega, by omega⟩, by omega⟩
    · refine wp_of e240 c240_26 (rw_aload_n (pc' := 27) (v := .ref r0) rfl rfl rfl ?_)
      refine wp_of e240 c240_27 (rw_iload_n (pc' := 28) (z := z132328) rfl rfl ?_)
      refine wp_of e240 c240_28 (xc_V (pc' := 31) (r := r0) (as := [vI z132328]) (st := []) (lm_9_54) rfl rfl (Nat.le_of_ble_eq_true rfl) w132322 g0 sh_42 (by decide) rfl (by decide) (s_170 w132322 g0 ⟨by omega, by omega⟩) (fun R132346 T132347 H132348 p132349 => ?_))
      obtain ⟨e132350, w132352, f132353, z132354, e132351, b132355⟩ := p132349
      subst e132350
      subst e132351
      have f132356 := f132330.tr f132353 rfl
      show wp _ _ 240 31 [(1, vI z132328), (0, .ref r0)] [vI z132354] _ H132348 _
      refine wp_of e240 c240_31 (rw_goto (p1 := 42) (by decide) ?_)
      have k132357 : wKI H132348 r0 = wKI H132318 r0 := (wKI_fr w132322 g0 f132353 rfl)
      exact wp_ireturn e240 c240_42 rfl ⟨rfl, w132352, f132356, z132354, rfl, ⟨by omega, by omega⟩, by omega⟩
/-! StrikeAwakeModel.can()I -/
theorem e244 : wq_en 244 = some (9, 2, false, some FieldType.int) := rfl
theorem c244_0 : mc_cd 244 0 = some (.aload_n 0, 1) := by decide +kernel
theorem c244_1 : mc_cd 244 1 = some (.iconst 0, 1) := by decide +kernel
theorem c244_2 : mc_cd 244 2 = some (.putfield 48, 3) := by decide +kernel
theorem c244_5 : mc_cd 244 5 = some (.aload_n 0, 1) := by decide +kernel
theorem c244_6 : mc_cd 244 6 = some (.aload_n 0, 1) := by decide +kernel
theorem c244_7 : mc_cd 244 7 = some (.getfield 337, 3) := by decide +kernel
theorem c244_10 : mc_cd 244 10 = some (.ifnull 7, 3) := by decide +kernel
theorem c244_13 : mc_cd 244 13 = some (.iconst 1, 1) := by decide +kernel
theorem c244_14 : mc_cd 244 14 = some (.goto 4, 3) := by decide +kernel
theorem c244_17 : mc_cd 244 17 = some (.iconst 0, 1) := by decide +kernel
theorem c244_18 : mc_cd 244 18 = some (.invokevirtual 433, 3) := by decide +kernel
theorem c244_21 : mc_cd 244 21 = some (.istore_n 1, 1) := by decide +kernel
theorem c244_22 : mc_cd 244 22 = some (.iload_n 1, 1) := by decide +kernel
theorem c244_23 : mc_cd 244 23 = some (.ifCond .le 11, 3) := by decide +kernel
theorem c244_26 : mc_cd 244 26 = some (.aload_n 0, 1) := by decide +kernel
theorem c244_27 : mc_cd 244 27 = some (.iload_n 1, 1) := by decide +kernel
theorem c244_28 : mc_cd 244 28 = some (.invokevirtual 54, 3) := by decide +kernel
theorem c244_31 : mc_cd 244 31 = some (.goto 19, 3) := by decide +kernel
theorem c244_34 : mc_cd 244 34 = some (.aload_n 0, 1) := by decide +kernel
theorem c244_35 : mc_cd 244 35 = some (.aload_n 0, 1) := by decide +kernel
theorem c244_36 : mc_cd 244 36 = some (.getfield 422, 3) := by decide +kernel
theorem c244_39 : mc_cd 244 39 = some (.ifCond .le 7, 3) := by decide +kernel
theorem c244_42 : mc_cd 244 42 = some (.iconst 1, 1) := by decide +kernel
theorem c244_43 : mc_cd 244 43 = some (.goto 4, 3) := by decide +kernel
theorem c244_46 : mc_cd 244 46 = some (.iconst 0, 1) := by decide +kernel
theorem c244_47 : mc_cd 244 47 = some (.invokevirtual 58, 3) := by decide +kernel
theorem c244_50 : mc_cd 244 50 = some (.ireturn, 1) := by decide +kernel
abbrev q_244 (r0 : Nat) (T : wq_T) (H : wq_H) : Option Value → wq_T → wq_H → Prop := fun r T' H' => T = T' ∧ WT T H' ∧ wfr [(42, 0), (42, 1), (42, 2), (42, 28), (42, 29), (51, 999), (52, 999)] T H H' ∧ ∃ z : Int, some (vI z) = r ∧ ((-2147483648) ≤ z ∧ z ≤ 2147483647) ∧ (wKI H' r0 = 1)
set_option maxHeartbeats 4000000 in
theorem s_244 {kt : Nat → Option mc_E} {T : wq_T} {H : wq_H} {r0 : Nat} (hW : WT T H) (g0 : T.2.2.2 r0 = some 42) (p0 : wKI H r0 = 1) : wpc kt 8 244 [.ref r0] T H (q_244 r0 T H) := by
  refine wp_enter e244 (Nat.le_of_ble_eq_true rfl) rfl ?_
  have f0 : wfr [(42, 0), (42, 1), (42, 2), (42, 28), (42, 29), (51, 999), (52, 999)] T H H := wfr.rf
  show wp _ _ 244 0 [(0, .ref r0)] [] _ H _
  refine wp_of e244 c244_0 (rw_aload_n (pc' := 1) (v := .ref r0) rfl rfl rfl ?_)
  refine wp_of e244 c244_1 (rw_iconst (pc' := 2) rfl ?_)
  refine wp_of e244 c244_2 (xp_I (pc' := 5) lf_9_48 hW g0 sh_42 (by decide) (by decide) ty_42_0 rfl rfl (by omega) (by omega) ⟨by omega, by omega⟩ rfl (fun H132451 e132452 w132453 => ?_))
  have f132454 := f0.put' e132452 g0 rfl
  have k132455 : H132451 r0 0 = 0 := wq_u_s e132452
  refine wp_of e244 c244_5 (rw_aload_n (pc' := 6) (v := .ref r0) rfl rfl rfl ?_)
  refine wp_of e244 c244_6 (rw_aload_n (pc' := 7) (v := .ref r0) rfl rfl rfl ?_)
  refine wp_of e244 c244_7 (xg_O (pc' := 10) lf_9_337 w132453 g0 sh_42 (by decide) (by decide) ty_42_3 rfl rfl (fun q132457 => ?_) (fun r132456 q132457 g132458 => ?_))
  · refine wp_of e244 c244_10 (rw_ifnull_n (p1 := 17) (p2 := 13) (by decide) rfl ?_)
    refine wp_of e244 c244_17 (rw_iconst (pc' := 18) rfl ?_)
    have k132459 : wKI H132451 r0 = wKI H r0 := (wKI_fr hW g0 ((wfr.rf (l := [(42, 0)])).put' e132452 g0 rfl) rfl)
    refine wp_of e244 c244_18 (xc_V (pc' := 21) (r := r0) (as := [vI 0]) (st := []) (lm_9_433) rfl rfl (Nat.le_of_ble_eq_true rfl) w132453 g0 sh_42 (by decide) rfl (by decide) (s_241 w132453 g0 ⟨by omega, by omega⟩ (by omega) (by omega)) (fun R132460 T132461 H132462 p132463 => ?_))
    obtain ⟨e132464, w132466, f132467, z132472, e132465, b132473, p132468, p132469, p132470, p132471⟩ := p132463
    subst e132464
    subst e132465
    have f132474 := f132454.tr f132467 rfl
    show wp _ _ 244 21 [(0, .ref r0)] [vI z132472] _ H132462 _
    refine wp_of e244 c244_21 (rw_istore_n (pc' := 22) (z := z132472) (L' := [(1, vI z132472), (0, .ref r0)]) rfl rfl rfl ?_)
    refine wp_of e244 c244_22 (rw_iload_n (pc' := 23) (z := z132472) rfl rfl ?_)
    refine wp_of e244 c244_23 (rw_if_le (p1 := 34) (p2 := 26) (by decide) rfl ⟨by omega, by omega⟩ (fun c132475 => ?_) (fun c132475 => ?_))
    · exfalso
      omega
    · refine wp_of e244 c244_26 (rw_aload_n (pc' := 27) (v := .ref r0) rfl rfl rfl ?_)
      refine wp_of e244 c244_27 (rw_iload_n (pc' := 28) (z := z132472) rfl rfl ?_)
      refine wp_of e244 c244_28 (xc_V (pc' := 31) (r := r0) (as := [vI z132472]) (st := []) (lm_9_54) rfl rfl (Nat.le_of_ble_eq_true rfl) w132466 g0 sh_42 (by decide) rfl (by decide) (s_170 w132466 g0 ⟨by omega, by omega⟩) (fun R132476 T132477 H132478 p132479 => ?_))
      obtain ⟨e132480, w132482, f132483, z132484, e132481, b132485⟩ := p132479
      subst e132480
      subst e132481
      have f132486 := f132474.tr f132483 rfl
      show wp _ _ 244 31 [(1, vI z132472), (0, .ref r0)] [vI z132484] _ H132478 _
      refine wp_of e244 c244_31 (rw_goto (p1 := 50) (by decide) ?_)
      have k132487 : wKI H132478 r0 = wKI H132462 r0 := (wKI_fr w132466 g0 f132483 rfl)
      exact wp_ireturn e244 c244_50 rfl ⟨rfl, w132482, f132486, z132484, rfl, ⟨by omega, by omega⟩, by omega⟩
  · refine wp_of e244 c244_10 (rw_ifnull_r (p1 := 17) (p2 := 13) (by decide) rfl ?_)
    refine wp_of e244 c244_13 (rw_iconst (pc' := 14) rfl ?_)
    refine wp_of e244 c244_14 (rw_goto (p1 := 18) (by decide) ?_)
    have k132488 : wKI H132451 r0 = wKI H r0 := (wKI_fr hW g0 ((wfr.rf (l := [(42, 0)])).put' e132452 g0 rfl) rfl)
    refine wp_of e244 c244_18 (xc_V (pc' := 21) (r := r0) (as := [vI 1]) (st := []) (lm_9_433) rfl rfl (Nat.le_of_ble_eq_true rfl) w132453 g0 sh_42 (by decide) rfl (by decide) (s_241 w132453 g0 ⟨by omega, by omega⟩ (by omega) (by omega)) (fun R132489 T132490 H132491 p132492 => ?_))
    obtain ⟨e132493, w132495, f132496, z132501, e132494, b132502, p132497, p132498, p132499, p132500⟩ := p132492
    subst e132493
    subst e132494
    have f132503 := f132454.tr f132496 rfl
    show wp _ _ 244 21 [(0, .ref r0)] [vI z132501] _ H132491 _
    refine wp_of e244 c244_21 (rw_istore_n (pc' := 22) (z := z132501) (L' := [(1, vI z132501), (0, .ref r0)]) rfl rfl rfl ?_)
    refine wp_of e244 c244_22 (rw_iload_n (pc' := 23) (z := z132501) rfl rfl ?_)
    refine wp_of e244 c244_23 (rw_if_le (p1 := 34) (p2 := 26) (by decide) rfl ⟨by omega, by omega⟩ (fun c132504 => ?_) (fun c132504 => ?_))
    · refine wp_of e244 c244_34 (rw_aload_n (pc' := 35) (v := .ref r0) rfl rfl rfl ?_)
      refine wp_of e244 c244_35 (rw_aload_n (pc' := 36) (v := .ref r0) rfl rfl rfl ?_)
      refine wp_of e244 c244_36 (xg_I (pc' := 39) lf_9_422 w132495 g0 sh_42 (by decide) (by decide) ty_42_29 rfl rfl (fun b132505 b132506 => ?_))
      refine wp_of e244 c244_39 (rw_if_le (p1 := 46) (p2 := 42) (by decide) rfl ⟨by omega, by omega⟩ (fun c132507 => ?_) (fun c132507 => ?_))
      · refine wp_of e244 c244_46 (rw_iconst (pc' := 47) rfl ?_)
        refine wp_of e244 c244_47 (xc_V (pc' := 50) (r := r0) (as := [vI 0]) (st := []) (lm_9_58) rfl rfl (Nat.le_of_ble_eq_true rfl) w132495 g0 sh_42 (by decide) rfl (by decide) (s_209 w132495 g0 ⟨by omega, by omega⟩) (fun R132508 T132509 H132510 p132511 => ?_))
        obtain ⟨e132512, w132514, f132515, z132516, e132513, b132517⟩ := p132511
        subst e132512
        subst e132513
        have f132518 := f132503.tr f132515 rfl
        show wp _ _ 244 50 [(1, vI z132501), (0, .ref r0)] [vI z132516] _ H132510 _
        have k132519 : wKI H132510 r0 = wKI H132491 r0 := (wKI_fr w132495 g0 f132515 rfl)
        exact wp_ireturn e244 c244_50 rfl ⟨rfl, w132514, f132518, z132516, rfl, ⟨by omega, by omega⟩, by omega⟩
      · refine wp_of e244 c244_42 (rw_iconst (pc' := 43) rfl ?_)
        refine wp_of e244 c244_43 (rw_goto (p1 := 47) (by decide) ?_)
        refine wp_of e244 c244_47 (xc_V (pc' := 50) (r := r0) (as := [vI 1]) (st := []) (lm_9_58) rfl rfl (Nat.le_of_ble_eq_true rfl) w132495 g0 sh_42 (by decide) rfl (by decide) (s_209 w132495 g0 ⟨by omega, by omega⟩) (fun R132520 T132521 H132522 p132523 => ?_))
        obtain ⟨e132524, w132526, f132527, z132528, e132525, b132529⟩ := p132523
        subst e132524
        subst e132525
        have f132530 := f132503.tr f132527 rfl
        show wp _ _ 244 50 [(1, vI z132501), (0, .ref r0)] [vI z132528] _ H132522 _
        have k132531 : wKI H132522 r0 = wKI H132491 r0 := (wKI_fr w132495 g0 f132527 rfl)
        exact wp_ireturn e244 c244_50 rfl ⟨rfl, w132526, f132530, z132528, rfl, ⟨by omega, by omega⟩, by omega⟩
    · refine wp_of e244 c244_26 (rw_aload_n (pc' := 27) (v := .ref r0) rfl rfl rfl ?_)
      refine wp_of e244 c244_27 (rw_iload_n (pc' := 28) (z := z132501) rfl rfl ?_)
      refine wp_of e244 c244_28 (xc_V (pc' := 31) (r := r0) (as := [vI z132501]) (st := []) (lm_9_54) rfl rfl (Nat.le_of_ble_eq_true rfl) w132495 g0 sh_42 (by decide) rfl (by decide) (s_170 w132495 g0 ⟨by omega, by omega⟩) (fun R132532 T132533 H132534 p132535 => ?_))
      obtain ⟨e132536, w132538, f132539, z132540, e132537, b132541⟩ := p132535
      subst e132536
      subst e132537
      have f132542 := f132503.tr f132539 rfl
      show wp _ _ 244 31 [(1, vI z132501), (0, .ref r0)] [vI z132540] _ H132534 _
      refine wp_of e244 c244_31 (rw_goto (p1 := 50) (by decide) ?_)
      have k132543 : wKI H132534 r0 = wKI H132491 r0 := (wKI_fr w132495 g0 f132539 rfl)
      exact wp_ireturn e244 c244_50 rfl ⟨rfl, w132538, f132542, z132540, rfl, ⟨by omega, by omega⟩, by omega⟩
/-! StrikeAwakeModel.world(II)I -/
theorem e245 : wq_en 245 = some (9, 4, false, some FieldType.int) := rfl
theorem c245_0 : mc_cd 245 0 = some (.aload_n 0, 1) := by decide +kernel
theorem c245_1 : mc_cd 245 1 = some (.iconst 0, 1) := by decide +kernel
theorem c245_2 : mc_cd 245 2 = some (.putfield 48, 3) := by decide +kernel
theorem c245_5 : mc_cd 245 5 = some (.aload_n 0, 1) := by decide +kernel
theorem c245_6 : mc_cd 245 6 = some (.aload_n 0, 1) := by decide +kernel
theorem c245_7 : mc_cd 245 7 = some (.iload_n 2, 1) := by decide +kernel
theorem c245_8 : mc_cd 245 8 = some (.invokevirtual 364, 3) := by decide +kernel
theorem c245_11 : mc_cd 245 11 = some (.ifCond .eq 11, 3) := by decide +kernel
theorem c245_14 : mc_cd 245 14 = some (.iload_n 1, 1) := by decide +kernel
theorem c245_15 : mc_cd 245 15 = some (.ifCond .lt 7, 3) := by decide +kernel
theorem c245_18 : mc_cd 245 18 = some (.iconst 1, 1) := by decide +kernel
theorem c245_19 : mc_cd 245 19 = some (.goto 4, 3) := by decide +kernel
theorem c245_22 : mc_cd 245 22 = some (.iconst 0, 1) := by decide +kernel
theorem c245_23 : mc_cd 245 23 = some (.invokevirtual 433, 3) := by decide +kernel
theorem c245_26 : mc_cd 245 26 = some (.istore_n 3, 1) := by decide +kernel
theorem c245_27 : mc_cd 245 27 = some (.iload_n 3, 1) := by decide +kernel
theorem c245_28 : mc_cd 245 28 = some (.ifCond .ne 13, 3) := by decide +kernel
theorem c245_31 : mc_cd 245 31 = some (.iload_n 1, 1) := by decide +kernel
theorem c245_32 : mc_cd 245 32 = some (.aload_n 0, 1) := by decide +kernel
theorem c245_33 : mc_cd 245 33 = some (.getfield 422, 3) := by decide +kernel
theorem c245_36 : mc_cd 245 36 = some (.if_icmp .lt 5, 3) := by decide +kernel
theorem c245_39 : mc_cd 245 39 = some (.iconst 1, 1) := by decide +kernel
theorem c245_40 : mc_cd 245 40 = some (.istore_n 3, 1) := by decide +kernel
theorem c245_41 : mc_cd 245 41 = some (.iload_n 3, 1) := by decide +kernel
theorem c245_42 : mc_cd 245 42 = some (.ifCond .le 9, 3) := by decide +kernel
theorem c245_45 : mc_cd 245 45 = some (.aload_n 0, 1) := by decide +kernel
theorem c245_46 : mc_cd 245 46 = some (.iload_n 3, 1) := by decide +kernel
theorem c245_47 : mc_cd 245 47 = some (.invokevirtual 54, 3) := by decide +kernel
theorem c245_50 : mc_cd 245 50 = some (.ireturn, 1) := by decide +kernel
theorem c245_51 : mc_cd 245 51 = some (.aload_n 0, 1) := by decide +kernel
theorem c245_52 : mc_cd 245 52 = some (.aload_n 0, 1) := by decide +kernel
theorem c245_53 : mc_cd 245 53 = some (.getfield 42, 3) := by decide +kernel
theorem c245_56 : mc_cd 245 56 = some (.iload_n 1, 1) := by decide +kernel
theorem c245_57 : mc_cd 245 57 = some (.iaload, 1) := by decide +kernel
theorem c245_58 : mc_cd 245 58 = some (.invokevirtual 425, 3) := by decide +kernel
theorem c245_61 : mc_cd 245 61 = some (.aload_n 0, 1) := by decide +kernel
theorem c245_62 : mc_cd 245 62 = some (.aload_n 0, 1) := by decide +kernel
theorem c245_63 : mc_cd 245 63 = some (.getfield 39, 3) := by decide +kernel
theorem c245_66 : mc_cd 245 66 = some (.iload_n 2, 1) := by decide +kernel
theorem c245_67 : mc_cd 245 67 = some (.iaload, 1) := by decide +kernel
theorem c245_68 : mc_cd 245 68 = some (.invokevirtual 58, 3) := by decide +kernel
theorem c245_71 : mc_cd 245 71 = some (.ireturn, 1) := by decide +kernel
abbrev q_245 (r0 : Nat) (a1 : Int) (a2 : Int) (T : wq_T) (H : wq_H) : Option Value → wq_T → wq_H → Prop := fun r T' H' => T = T' ∧ WT T H' ∧ wfr [(42, 0), (42, 1), (42, 2), (42, 28), (42, 29), (51, 999), (52, 999)] T H H' ∧ ∃ z : Int, some (vI z) = r ∧ ((-2147483648) ≤ z ∧ z ≤ 2147483647) ∧ (wKI H' r0 = 1)
set_option maxHeartbeats 4000000 in
theorem s_245 {kt : Nat → Option mc_E} {T : wq_T} {H : wq_H} {r0 : Nat} {a1 : Int} {a2 : Int} (hW : WT T H) (g0 : T.2.2.2 r0 = some 42) (i1 : (-2147483648) ≤ a1 ∧ a1 ≤ 2147483647) (i2 : (-2147483648) ≤ a2 ∧ a2 ≤ 2147483647) (p0 : wKI H r0 = 1) : wpc kt 8 245 [.ref r0, vI a1, vI a2] T H (q_245 r0 a1 a2 T H) := by
  refine wp_enter e245 (Nat.le_of_ble_eq_true rfl) rfl ?_
  have f0 : wfr [(42, 0), (42, 1), (42, 2), (42, 28), (42, 29), (51, 999), (52, 999)] T H H := wfr.rf
  show wp _ _ 245 0 [(0, .ref r0), (1, vI a1), (2, vI a2)] [] _ H _
  refine wp_of e245 c245_0 (rw_aload_n (pc' := 1) (v := .ref r0) rfl rfl rfl ?_)
  refine wp_of e245 c245_1 (rw_iconst (pc' := 2) rfl ?_)
  refine wp_of e245 c245_2 (xp_I (pc' := 5) lf_9_48 hW g0 sh_42 (by decide) (by decide) ty_42_0 rfl rfl (by omega) (by omega) ⟨by omega, by omega⟩ rfl (fun H132703 e132704 w132705 => ?_))
  have f132706 := f0.put' e132704 g0 rfl
  have k132707 : H132703 r0 0 = 0 := wq_u_s e132704
  refine wp_of e245 c245_5 (rw_aload_n (pc' := 6) (v := .ref r0) rfl rfl rfl ?_)
  refine wp_of e245 c245_6 (rw_aload_n (pc' := 7) (v := .ref r0) rfl rfl rfl ?_)
  refine wp_of e245 c245_7 (rw_iload_n (pc' := 8) (z := a2) rfl rfl ?_)
  refine wp_of e245 c245_8 (xc_V (pc' := 11) (r := r0) (as := [vI a2]) (st := [.ref r0]) (lm_9_364) rfl rfl (Nat.le_of_ble_eq_true rfl) w132705 g0 sh_42 (by decide) rfl (by decide) (s_213 w132705 g0 ⟨by omega, by omega⟩) (fun R132708 T132709 H132710 p132711 => ?_))
  obtain ⟨e132712, e132714, z132716, e132713, b132717, p132715⟩ := p132711
  subst e132712
  subst e132713
  subst e132714
  show wp _ _ 245 11 [(0, .ref r0), (1, vI a1), (2, vI a2)] [vI z132716, .ref r0] _ H132703 _
  refine wp_of e245 c245_11 (rw_if_eq (p1 := 22) (p2 := 14) (by decide) rfl ⟨by omega, by omega⟩ (fun c132718 => ?_) (fun c132718 => ?_))
  · refine wp_of e245 c245_22 (rw_iconst (pc' := 23) rfl ?_)
    have k132719 : wKI H132703 r0 = wKI H r0 := (wKI_fr hW g0 ((wfr.rf (l := [(42, 0)])).put' e132704 g0 rfl) rfl)
    refine wp_of e245 c245_23 (xc_V (pc' := 26) (r := r0) (as := [vI 0]) (st := []) (lm_9_433) rfl rfl (Nat.le_of_ble_eq_true rfl) w132705 g0 sh_42 (by decide) rfl (by decide) (s_241 w132705 g0 ⟨by omega, by omega⟩ (by omega) (by omega)) (fun R132720 T132721 H132722 p132723 => ?_))
    obtain ⟨e132724, w132726, f132727, z132732, e132725, b132733, p132728, p132729, p132730, p132731⟩ := p132723
    subst e132724
    subst e132725
    have f132734 := f132706.tr f132727 rfl
    show wp _ _ 245 26 [(0, .ref r0), (1, vI a1), (2, vI a2)] [vI z132732] _ H132722 _
    refine wp_of e245 c245_26 (rw_istore_n (pc' := 27) (z := z132732) (L' := [(3, vI z132732), (0, .ref r0), (1, vI a1), (2, vI a2)]) rfl rfl rfl ?_)
    refine wp_of e245 c245_27 (rw_iload_n (pc' := 28) (z := z132732) rfl rfl ?_)
    refine wp_of e245 c245_28 (rw_if_ne (p1 := 41) (p2 := 31) (by decide) rfl ⟨by omega, by omega⟩ (fun c132735 => ?_) (fun c132735 => ?_))
    · refine wp_of e245 c245_41 (rw_iload_n (pc' := 42) (z := z132732) rfl rfl ?_)
      refine wp_of e245 c245_42 (rw_if_le (p1 := 51) (p2 := 45) (by decide) rfl ⟨by omega, by omega⟩ (fun c132736 => ?_) (fun c132736 => ?_))
      · exfalso
        omega
      · refine wp_of e245 c245_45 (rw_aload_n (pc' := 46) (v := .ref r0) rfl rfl rfl ?_)
        refine wp_of e245 c245_46 (rw_iload_n (pc' := 47) (z := z132732) rfl rfl ?_)
        refine wp_of e245 c245_47 (xc_V (pc' := 50) (r := r0) (as := [vI z132732]) (st := []) (lm_9_54) rfl rfl (Nat.le_of_ble_eq_true rfl) w132726 g0 sh_42 (by decide) rfl (by decide) (s_170 w132726 g0 ⟨by omega, by omega⟩) (fun R132737 T132738 H132739 p132740 => ?_))
        obtain ⟨e132741, w132743, f132744, z132745, e132742, b132746⟩ := p132740
        subst e132741
        subst e132742
        have f132747 := f132734.tr f132744 rfl
        show wp _ _ 245 50 [(3, vI z132732), (0, .ref r0), (1, vI a1), (2, vI a2)] [vI z132745] _ H132739 _
        have k132748 : wKI H132739 r0 = wKI H132722 r0 := (wKI_fr w132726 g0 f132744 rfl)
        exact wp_ireturn e245 c245_50 rfl ⟨rfl, w132743, f132747, z132745, rfl, ⟨by omega, by omega⟩, by omega⟩
    · exfalso
      omega
  · refine wp_of e245 c245_14 (rw_iload_n (pc' := 15) (z := a1) rfl rfl ?_)
    refine wp_of e245 c245_15 (rw_if_lt (p1 := 22) (p2 := 18) (by decide) rfl ⟨by omega, by omega⟩ (fun c132749 => ?_) (fun c132749 => ?_))
    · refine wp_of e245 c245_22 (rw_iconst (pc' := 23) rfl ?_)
      have k132750 : wKI H132703 r0 = wKI H r0 := (wKI_fr hW g0 ((wfr.rf (l := [(42, 0)])).put' e132704 g0 rfl) rfl)
      refine wp_of e245 c245_23 (xc_V (pc' := 26) (r := r0) (as := [vI 0]) (st := []) (lm_9_433) rfl rfl (Nat.le_of_ble_eq_true rfl) w132705 g0 sh_42 (by decide) rfl (by decide) (s_241 w132705 g0 ⟨by omega, by omega⟩ (by omega) (by omega)) (fun R132751 T132752 H132753 p132754 => ?_))
      obtain ⟨e132755, w132757, f132758, z132763, e132756, b132764, p132759, p132760, p132761, p132762⟩ := p132754
      subst e132755
      subst e132756
      have f132765 := f132706.tr f132758 rfl
      show wp _ _ 245 26 [(0, .ref r0), (1, vI a1), (2, vI a2)] [vI z132763] _ H132753 _
      refine wp_of e245 c245_26 (rw_istore_n (pc' := 27) (z := z132763) (L' := [(3, vI z132763), (0, .ref r0), (1, vI a1), (2, vI a2)]) rfl rfl rfl ?_)
      refine wp_of e245 c245_27 (rw_iload_n (pc' := 28) (z := z132763) rfl rfl ?_)
      refine wp_of e245 c245_28 (rw_if_ne (p1 := 41) (p2 := 31) (by decide) rfl ⟨by omega, by omega⟩ (fun c132766 => ?_) (fun c132766 => ?_))
      · refine wp_of e245 c245_41 (rw_iload_n (pc' := 42) (z := z132763) rfl rfl ?_)
        refine wp_of e245 c245_42 (rw_if_le (p1 := 51) (p2 := 45) (by decide) rfl ⟨by omega, by omega⟩ (fun c132767 => ?_) (fun c132767 => ?_))
        · exfalso
          omega
        · refine wp_of e245 c245_45 (rw_aload_n (pc' := 46) (v := .ref r0) rfl rfl rfl ?_)
          refine wp_of e245 c245_46 (rw_iload_n (pc' := 47) (z := z132763) rfl rfl ?_)
          refine wp_of e245 c245_47 (xc_V (pc' := 50) (r := r0) (as := [vI z132763]) (st := []) (lm_9_54) rfl rfl (Nat.le_of_ble_eq_true rfl) w132757 g0 sh_42 (by decide) rfl (by decide) (s_170 w132757 g0 ⟨by omega, by omega⟩) (fun R132768 T132769 H132770 p132771 => ?_))
          obtain ⟨e132772, w132774, f132775, z132776, e132773, b132777⟩ := p132771
          subst e132772
          subst e132773
          have f132778 := f132765.tr f132775 rfl
          show wp _ _ 245 50 [(3, vI z132763), (0, .ref r0), (1, vI a1), (2, vI a2)] [vI z132776] _ H132770 _
          have k132779 : wKI H132770 r0 = wKI H132753 r0 := (wKI_fr w132757 g0 f132775 rfl)
          exact wp_ireturn e245 c245_50 rfl ⟨rfl, w132774, f132778, z132776, rfl, ⟨by omega, by omega⟩, by omega⟩
      · exfalso
        omega
    · refine wp_of e245 c245_18 (rw_iconst (pc' := 19) rfl ?_)
      refine wp_of e245 c245_19 (rw_goto (p1 := 23) (by decide) ?_)
      have k132780 : wKI H132703 r0 = wKI H r0 := (wKI_fr hW g0 ((wfr.rf (l := [(42, 0)])).put' e132704 g0 rfl) rfl)
      refine wp_of e245 c245_23 (xc_V (pc' := 26) (r := r0) (as := [vI 1]) (st := []) (lm_9_433) rfl rfl (Nat.le_of_ble_eq_true rfl) w132705 g0 sh_42 (by decide) rfl (by decide) (s_241 w132705 g0 ⟨by omega, by omega⟩ (by omega) (by omega)) (fun R132781 T132782 H132783 p132784 => ?_))
      obtain ⟨e132785, w132787, f132788, z132793, e132786, b132794, p132789, p132790, p132791, p132792⟩ := p132784
      subst e132785
      subst e132786
      have f132795 := f132706.tr f132788 rfl
      show wp _ _ 245 26 [(0, .ref r0), (1, vI a1), (2, vI a2)] [vI z132793] _ H132783 _
      refine wp_of e245 c245_26 (rw_istore_n (pc' := 27) (z := z132793) (L' := [(3, vI z132793), (0, .ref r0), (1, vI a1), (2, vI a2)]) rfl rfl rfl ?_)
      refine wp_of e245 c245_27 (rw_iload_n (pc' := 28) (z := z132793) rfl rfl ?_)
      refine wp_of e245 c245_28 (rw_if_ne (p1 := 41) (p2 := 31) (by decide) rfl ⟨by omega, by omega⟩ (fun c132796 => ?_) (fun c132796 => ?_))
      · refine wp_of e245 c245_41 (rw_iload_n (pc' := 42) (z := z132793) rfl rfl ?_)
        refine wp_of e245 c245_42 (rw_if_le (p1 := 51) (p2 := 45) (by decide) rfl ⟨by omega, by omega⟩ (fun c132797 => ?_) (fun c132797 => ?_))
        · exfalso
          omega
        · refine wp_of e245 c245_45 (rw_aload_n (pc' := 46) (v := .ref r0) rfl rfl rfl ?_)
          refine wp_of e245 c245_46 (rw_iload_n (pc' := 47) (z := z132793) rfl rfl ?_)
          refine wp_of e245 c245_47 (xc_V (pc' := 50) (r := r0) (as := [vI z132793]) (st := []) (lm_9_54) rfl rfl (Nat.le_of_ble_eq_true rfl) w132787 g0 sh_42 (by decide) rfl (by decide) (s_170 w132787 g0 ⟨by omega, by omega⟩) (fun R132798 T132799 H132800 p132801 => ?_))
          obtain ⟨e132802, w132804, f132805, z132806, e132803, b132807⟩ := p132801
          subst e132802
          subst e132803
          have f132808 := f132795.tr f132805 rfl
          show wp _ _ 245 50 [(3, vI z132793), (0, .ref r0), (1, vI a1), (2, vI a2)] [vI z132806] _ H132800 _
          have k132809 : wKI H132800 r0 = wKI H132783 r0 := (wKI_fr w132787 g0 f132805 rfl)
          exact wp_ireturn e245 c245_50 rfl ⟨rfl, w132804, f132808, z132806, rfl, ⟨by omega, by omega⟩, by omega⟩
      · refine wp_of e245 c245_31 (rw_iload_n (pc' := 32) (z := a1) rfl rfl ?_)
        refine wp_of e245 c245_32 (rw_aload_n (pc' := 33) (v := .ref r0) rfl rfl rfl ?_)
        refine wp_of e245 c245_33 (xg_I (pc' := 36) lf_9_422 w132787 g0 sh_42 (by decide) (by decide) ty_42_29 rfl rfl (fun b132810 b132811 => ?_))
        refine wp_of e245 c245_36 (rw_icmp_lt (p1 := 41) (p2 := 39) (by decide) rfl ⟨by omega, by omega⟩ ⟨by omega, by omega⟩ (fun c132812 => ?_) (fun c132812 => ?_))
        · refine wp_of e245 c245_41 (rw_iload_n (pc' := 42) (z := z132793) rfl rfl ?_)
          refine wp_of e245 c245_42 (rw_if_le (p1 := 51) (p2 := 45) (by decide) rfl ⟨by omega, by omega⟩ (fun c132813 => ?_) (fun c132813 => ?_))
          · refine wp_of e245 c245_51 (rw_aload_n (pc' := 52) (v := .ref r0) rfl rfl rfl ?_)
            refine wp_of e245 c245_52 (rw_aload_n (pc' := 53) (v := .ref r0) rfl rfl rfl ?_)
            refine wp_of e245 c245_53 (xg_R (pc' := 56) lf_9_42 w132787 g0 sh_42 (by decide) (by decide) ty_42_30 rfl rfl (fun r132814 q132815 g132816 => ?_))
            refine wp_of e245 c245_56 (rw_iload_n (pc' := 57) (z := a1) rfl rfl ?_)
            refine wp_of e245 c245_57 (xa_I (so := 0) (pc' := 58) w132787 g132816 sh_52 (by decide) (ty_52 _) (by omega) (by omega) rfl (fun b132817 b132818 => ?_))
            have k132819 : H132783 r0 3 = H132703 r0 3 := (f132788 r0 3 _ g0 rfl)
            obtain ⟨r132820, q132821, g132822⟩ := (w132787.opt g0 (t' := 54) (n := 33) (j := 3) (p := 0) (q := 0) rfl (by decide) rfl).resolve_left (by omega)
            refine wp_of e245 c245_58 (xc_V (pc' := 61) (r := r0) (as := [vI (H132783 r132814 (a1.toNat))]) (st := []) (lm_9_425) rfl rfl (Nat.le_of_ble_eq_true rfl) w132787 g0 sh_42 (by decide) rfl (by decide) (s_243 w132787 g0 ⟨by omega, by omega⟩ q132821 g132822 (by omega)) (fun R132823 T132824 H132825 p132826 => ?_))
            obtain ⟨e132827, w132829, f132830, e132828⟩ := p132826
            subst e132827
            subst e132828
            have f132831 := f132795.tr f132830 rfl
            show wp _ _ 245 61 [(3, vI z132793), (0, .ref r0), (1, vI a1), (2, vI a2)] [] _ H132825 _
            refine wp_of e245 c245_61 (rw_aload_n (pc' := 62) (v := .ref r0) rfl rfl rfl ?_)
            refine wp_of e245 c245_62 (rw_aload_n (pc' := 63) (v := .ref r0) rfl rfl rfl ?_)
            refine wp_of e245 c245_63 (xg_R (pc' := 66) lf_9_39 w132829 g0 sh_42 (by decide) (by decide) ty_42_27 rfl rfl (fun r132832 q132833 g132834 => ?_))
            refine wp_of e245 c245_66 (rw_iload_n (pc' := 67) (z := a2) rfl rfl ?_)
            refine wp_of e245 c245_67 (xa_I (so := 0) (pc' := 68) w132829 g132834 sh_51 (by decide) (ty_51 _) (by omega) (by omega) rfl (fun b132835 b132836 => ?_))
            refine wp_of e245 c245_68 (xc_V (pc' := 71) (r := r0) (as := [vI (H132825 r132832 (a2.toNat))]) (st := []) (lm_9_58) rfl rfl (Nat.le_of_ble_eq_true rfl) w132829 g0 sh_42 (by decide) rfl (by decide) (s_209 w132829 g0 ⟨by omega, by omega⟩) (fun R132837 T132838 H132839 p132840 => ?_))
            obtain ⟨e132841, w132843, f132844, z132845, e132842, b132846⟩ := p132840
            subst e132841
            subst e132842
            have f132847 := f132831.tr f132844 rfl
            show wp _ _ 245 71 [(3, vI z132793), (0, .ref r0), (1, vI a1), (2, vI a2)] [vI z132845] _ H132839 _
            have k132848 : wKI H132839 r0 = wKI H132783 r0 := ((wKI_fr w132829 g0 f132844 rfl).trans (wKI_fr w132787 g0 f132830 rfl))
            exact wp_ireturn e245 c245_71 rfl ⟨rfl, w132843, f132847, z132845, rfl, ⟨by omega, by omega⟩, by omega⟩
          · exfalso
            omega
        · refine wp_of e245 c245_39 (rw_iconst (pc' := 40) rfl ?_)
          refine wp_of e245 c245_40 (rw_istore_n (pc' := 41) (z := 1) (L' := [(3, vI 1), (0, .ref r0), (1, vI a1), (2, vI a2)]) rfl rfl rfl ?_)
          refine wp_of e245 c245_41 (rw_iload_n (pc' := 42) (z := 1) rfl rfl ?_)
          refine wp_of e245 c245_42 (rw_if_le (p1 := 51) (p2 := 45) (by decide) rfl ⟨by omega, by omega⟩ (fun c132849 => ?_) (fun c132849 => ?_))
          · exfalso
            omega
          · refine wp_of e245 c245_45 (rw_aload_n (pc' := 46) (v := .ref r0) rfl rfl rfl ?_)
            refine wp_of e245 c245_46 (rw_iload_n (pc' := 47) (z := 1) rfl rfl ?_)
            refine wp_of e245 c245_47 (xc_V (pc' := 50) (r := r0) (as := [vI 1]) (st := []) (lm_9_54) rfl rfl (Nat.le_of_ble_eq_true rfl) w132787 g0 sh_42 (by decide) rfl (by decide) (s_170 w132787 g0 ⟨by omega, by omega⟩) (fun R132850 T132851 H132852 p132853 => ?_))
            obtain ⟨e132854, w132856, f132857, z132858, e132855, b132859⟩ := p132853
            subst e132854
            subst e132855
            have f132860 := f132795.tr f132857 rfl
            show wp _ _ 245 50 [(3, vI 1), (0, .ref r0), (1, vI a1), (2, vI a2)] [vI z132858] _ H132852 _
            have k132861 : wKI H132852 r0 = wKI H132783 r0 := (wKI_fr w132787 g0 f132857 rfl)
            exact wp_ireturn e245 c245_50 rfl ⟨rfl, w132856, f132860, z132858, rfl, ⟨by omega, by omega⟩, by omega⟩
/-! StrikeAwakeModel.lotWeight()J -/
theorem e248 : wq_en 248 = some (9, 4, false, some FieldType.long) := rfl
theorem c248_0 : mc_cd 248 0 = some (.lconst 1, 1) := by decide +kernel
theorem c248_1 : mc_cd 248 1 = some (.lstore_n 1, 1) := by decide +kernel
theorem c248_2 : mc_cd 248 2 = some (.iconst 0, 1) := by decide +kernel
theorem c248_3 : mc_cd 248 3 = some (.istore_n 3, 1) := by decide +kernel
theorem c248_4 : mc_cd 248 4 = some (.iload_n 3, 1) := by decide +kernel
theorem c248_5 : mc_cd 248 5 = some (.aload_n 0, 1) := by decide +kernel
theorem c248_6 : mc_cd 248 6 = some (.getfield 337, 3) := by decide +kernel
theorem c248_9 : mc_cd 248 9 = some (.getfield 188, 3) := by decide +kernel
theorem c248_12 : mc_cd 248 12 = some (.if_icmp .ge 24, 3) := by decide +kernel
theorem c248_15 : mc_cd 248 15 = some (.lload_n 1, 1) := by decide +kernel
theorem c248_16 : mc_cd 248 16 = some (.aload_n 0, 1) := by decide +kernel
theorem c248_17 : mc_cd 248 17 = some (.iload_n 3, 1) := by decide +kernel
theorem c248_18 : mc_cd 248 18 = some (.aload_n 0, 1) := by decide +kernel
theorem c248_19 : mc_cd 248 19 = some (.getfield 39, 3) := by decide +kernel
theorem c248_22 : mc_cd 248 22 = some (.iload_n 3, 1) := by decide +kernel
theorem c248_23 : mc_cd 248 23 = some (.iaload, 1) := by decide +kernel
theorem c248_24 : mc_cd 248 24 = some (.invokevirtual 370, 3) := by decide +kernel
theorem c248_27 : mc_cd 248 27 = some (.i2l, 1) := by decide +kernel
theorem c248_28 : mc_cd 248 28 = some (.lmul, 1) := by decide +kernel
theorem c248_29 : mc_cd 248 29 = some (.lstore_n 1, 1) := by decide +kernel
theorem c248_30 : mc_cd 248 30 = some (.iinc 3 1, 3) := by decide +kernel
theorem c248_33 : mc_cd 248 33 = some (.goto (-29), 3) := by decide +kernel
theorem c248_36 : mc_cd 248 36 = some (.lload_n 1, 1) := by decide +kernel
theorem c248_37 : mc_cd 248 37 = some (.lreturn, 1) := by decide +kernel
abbrev q_248 (r0 : Nat) (pp : Nat) (T : wq_T) (H : wq_H) : Option Value → wq_T → wq_H → Prop := fun r T' H' => T = T' ∧ H = H' ∧ ∃ z : Int, some (vL z) = r ∧ (1 ≤ z ∧ z ≤ 1000000)
set_option maxHeartbeats 4000000 in
theorem s_248 {kt : Nat → Option mc_E} {T : wq_T} {H : wq_H} {r0 : Nat} {pp : Nat} (hW : WT T H) (g0 : T.2.2.2 r0 = some 42) (qpp : H r0 3 = (pp : Int)) (gpp : T.2.2.2 pp = some 54) : wpc kt 2 248 [.ref r0] T H (q_248 r0 pp T H) := by
  refine wp_enter e248 (Nat.le_of_ble_eq_true rfl) rfl ?_
  show wp _ _ 248 0 [(0, .ref r0)] [] _ H _
  refine wp_of e248 c248_0 (rw_lconst (pc' := 1) (z := 1) rfl rfl ?_)
  refine wp_of e248 c248_1 (rw_lstore_n (pc' := 2) (z := 1) (L' := [(1, vL 1), (0, .ref r0)]) rfl rfl rfl ?_)
  refine wp_of e248 c248_2 (rw_iconst (pc' := 3) rfl ?_)
  refine wp_of e248 c248_3 (rw_istore_n (pc' := 4) (z := 0) (L' := [(3, vI 0), (1, vL 1), (0, .ref r0)]) rfl rfl rfl ?_)
  have b133177 : 0 ≤ H pp 3 ∧ H pp 3 ≤ 6 := hW.box gpp (n := 27) rfl (by decide) rfl
  have lp133172 : ∀ (n133173 : Nat) (v133175 : Int) (v133176 : Int), (0 ≤ v133175 ∧ v133175 ≤ 6) → (1 ≤ v133176 ∧ v133176 ≤ 1000000) → (v133175 ≤ H pp 3) → (1 ≤ v133176 ∧ v133176 ≤ w10 (v133175).toNat) → (6 - v133175).toNat = n133173 → wp kt 1 248 4 [(3, vI v133175), (1, vL v133176), (0, .ref r0)] [] T H (q_248 r0 pp T H) := by
    intro n133173
    induction n133173 using Nat.strongRecOn with
    | _ n133173 ih133174 =>
      intro v133175 v133176 b133180 b133181 x133182 x133183 m133184
      have hb := w10_b (n := (v133175).toNat) (by omega)
      refine wp_of e248 c248_4 (rw_iload_n (pc' := 5) (z := v133175) rfl rfl ?_)
      refine wp_of e248 c248_5 (rw_aload_n (pc' := 6) (v := .ref r0) rfl rfl rfl ?_)
      refine wp_of e248 c248_6 (xg_K (pc' := 9) lf_9_337 hW g0 sh_42 (by decide) (by decide) rfl qpp rfl ?_)
      refine wp_of e248 c248_9 (xg_I (pc' := 12) lf_9_188 hW gpp sh_54 (by decide) (by decide) ty_54_3 rfl rfl (fun b133185 b133186 => ?_))
      refine wp_of e248 c248_12 (rw_icmp_ge (p1 := 36) (p2 := 15) (by decide) rfl ⟨by omega, by omega⟩ ⟨by omega, by omega⟩ (fun c133187 => ?_) (fun c133187 => ?_))
      · refine wp_of e248 c248_36 (rw_lload_n (pc' := 37) (z := v133176) rfl rfl ?_)
        exact wp_lreturn e248 c248_37 rfl ⟨rfl, rfl, v133176, rfl, ⟨by omega, by omega⟩⟩
      · refine wp_of e248 c248_15 (rw_lload_n (pc' := 16) (z := v133176) rfl rfl ?_)
        refine wp_of e248 c248_16 (rw_aload_n (pc' := 17) (v := .ref r0) rfl rfl rfl ?_)
        refine wp_of e248 c248_17 (rw_iload_n (pc' := 18) (z := v133175) rfl rfl ?_)
        refine wp_of e248 c248_18 (rw_aload_n (pc' := 19) (v := .ref r0) rfl rfl rfl ?_)
        refine wp_of e248 c248_19 (xg_R (pc' := 22) lf_9_39 hW g0 sh_42 (by decide) (by decide) ty_42_27 rfl rfl (fun r133188 q133189 g133190 => ?_))
        refine wp_of e248 c248_22 (rw_iload_n (pc' := 23) (z := v133175) rfl rfl ?_)
        refine wp_of e248 c248_23 (xa_I (so := 0) (pc' := 24) hW g133190 sh_51 (by decide) (ty_51 _) (by omega) (by omega) rfl (fun b133191 b133192 => ?_))
        refine wp_of e248 c248_24 (xc_V (pc' := 27) (r := r0) (as := [vI v133175, vI (H r133188 (v133175.toNat))]) (st := [vL v133176]) (lm_9_370) rfl rfl (Nat.le_of_ble_eq_true rfl) hW g0 sh_42 (by decide) rfl (by decide) (s_216 hW g0 ⟨by omega, by omega⟩ ⟨by omega, by omega⟩ qpp gpp) (fun R133193 T133194 H133195 p133196 => ?_))
        obtain ⟨e133197, e133199, z133200, e133198, b133201⟩ := p133196
        subst e133197
        subst e133198
        subst e133199
        show wp _ _ 248 27 [(3, vI v133175), (1, vL v133176), (0, .ref r0)] [vI z133200, vL v133176] _ H _
        refine wp_of e248 c248_27 (rw_i2l (pc' := 28) rfl ⟨by omega, by omega⟩ ?_)
        refine wp_of e248 c248_28 (rw_lmul (pc' := 29) rfl ?_)
        obtain ⟨v133202, e133203⟩ : ∃ x : Int, x = v133176 * z133200 := ⟨_, rfl⟩
        rw [← e133203]
        have b133204 : 0 ≤ v133202 ∧ v133202 ≤ 10000000 := by
          rw [e133203]
          exact wl_mul_b (a := 1000000) (b := 10) ⟨by omega, by omega⟩ ⟨by omega, by omega⟩
        refine wp_of e248 c248_29 (rw_lstore_n (pc' := 30) (z := v133202) (L' := [(1, vL v133202), (3, vI v133175), (0, .ref r0)]) rfl rfl rfl ?_)
        refine wp_of e248 c248_30 (rw_iinc (pc' := 33) (z := v133175) (L' := [(3, vI (v133175 + 1)), (1, vL v133202), (0, .ref r0)]) rfl rfl rfl rfl ?_)
        refine wp_of e248 c248_33 (rw_goto (p1 := 4) (by decide) ?_)
        have hy : 1 ≤ v133202 ∧ v133202 ≤ w10 ((v133175 + 1)).toNat := by
          refine w10_s (by assumption) ?_ (by assumption) (by omega)
          exact ⟨by omega, by omega⟩
        have hz := w10_b (n := ((v133175 + 1)).toNat) (by omega)
        exact wp_lc (ks := [3, 1, 0]) (wl_c rfl (wl_c rfl (wl_c rfl wl_n))) rfl (by decide) (ih133174 _ (by omega) (v133175 + 1) v133202 ⟨by omega, by omega⟩ ⟨by omega, by omega⟩ (by omega) (by assumption) rfl)
  exact wp_lc (ks := [3, 1, 0]) (wl_c rfl (wl_c rfl (wl_c rfl wl_n))) rfl (by decide) (lp133172 _ 0 1 ⟨by omega, by omega⟩ ⟨by omega, by omega⟩ (by omega) (by decide) rfl)
/-! StrikeAwakeModel.weighs(II)J -/
theorem e247 : wq_en 247 = some (9, 6, false, some FieldType.long) := rfl
theorem c247_0 : mc_cd 247 0 = some (.lconst 0, 1) := by decide +kernel
theorem c247_1 : mc_cd 247 1 = some (.lstore_n 3, 1) := by decide +kernel
theorem c247_2 : mc_cd 247 2 = some (.iconst 0, 1) := by decide +kernel
theorem c247_3 : mc_cd 247 3 = some (.istore 5, 2) := by decide +kernel
theorem c247_5 : mc_cd 247 5 = some (.iload 5, 2) := by decide +kernel
theorem c247_7 : mc_cd 247 7 = some (.aload_n 0, 1) := by decide +kernel
theorem c247_8 : mc_cd 247 8 = some (.getfield 422, 3) := by decide +kernel
theorem c247_11 : mc_cd 247 11 = some (.if_icmp .ge 55, 3) := by decide +kernel
theorem c247_14 : mc_cd 247 14 = some (.aload_n 0, 1) := by decide +kernel
theorem c247_15 : mc_cd 247 15 = some (.aload_n 0, 1) := by decide +kernel
theorem c247_16 : mc_cd 247 16 = some (.getfield 42, 3) := by decide +kernel
theorem c247_19 : mc_cd 247 19 = some (.iload 5, 2) := by decide +kernel
theorem c247_21 : mc_cd 247 21 = some (.iaload, 1) := by decide +kernel
theorem c247_22 : mc_cd 247 22 = some (.invokevirtual 425, 3) := by decide +kernel
theorem c247_25 : mc_cd 247 25 = some (.iload_n 1, 1) := by decide +kernel
theorem c247_26 : mc_cd 247 26 = some (.iconst (-1), 1) := by decide +kernel
theorem c247_27 : mc_cd 247 27 = some (.if_icmp .eq 26, 3) := by decide +kernel
theorem c247_30 : mc_cd 247 30 = some (.aload_n 0, 1) := by decide +kernel
theorem c247_31 : mc_cd 247 31 = some (.getfield 33, 3) := by decide +kernel
theorem c247_34 : mc_cd 247 34 = some (.bipush 40, 2) := by decide +kernel
theorem c247_36 : mc_cd 247 36 = some (.iload_n 1, 1) := by decide +kernel
theorem c247_37 : mc_cd 247 37 = some (.imul, 1) := by decide +kernel
theorem c247_38 : mc_cd 247 38 = some (.aload_n 0, 1) := by decide +kernel
theorem c247_39 : mc_cd 247 39 = some (.getfield 39, 3) := by decide +kernel
theorem c247_42 : mc_cd 247 42 = some (.iload_n 1, 1) := by decide +kernel
theorem c247_43 : mc_cd 247 43 = some (.iaload, 1) := by decide +kernel
theorem c247_44 : mc_cd 247 44 = some (.iadd, 1) := by decide +kernel
theorem c247_45 : mc_cd 247 45 = some (.iaload, 1) := by decide +kernel
theorem c247_46 : mc_cd 247 46 = some (.iload_n 2, 1) := by decide +kernel
theorem c247_47 : mc_cd 247 47 = some (.invokestatic 346, 3) := by decide +kernel
theorem c247_50 : mc_cd 247 50 = some (.ifCond .eq 10, 3) := by decide +kernel
theorem c247_53 : mc_cd 247 53 = some (.lload_n 3, 1) := by decide +kernel
theorem c247_54 : mc_cd 247 54 = some (.aload_n 0, 1) := by decide +kernel
theorem c247_55 : mc_cd 247 55 = some (.invokevirtual 437, 3) := by decide +kernel
theorem c247_58 : mc_cd 247 58 = some (.ladd, 1) := by decide +kernel
theorem c247_59 : mc_cd 247 59 = some (.lstore_n 3, 1) := by decide +kernel
theorem c247_60 : mc_cd 247 60 = some (.iinc 5 1, 3) := by decide +kernel
theorem c247_63 : mc_cd 247 63 = some (.goto (-58), 3) := by decide +kernel
theorem c247_66 : mc_cd 247 66 = some (.lload_n 3, 1) := by decide +kernel
theorem c247_67 : mc_cd 247 67 = some (.lreturn, 1) := by decide +kernel
abbrev q_247 (r0 : Nat) (a1 : Int) (a2 : Int) (pp : Nat) (T : wq_T) (H : wq_H) : Option Value → wq_T → wq_H → Prop := fun r T' H' => T = T' ∧ WT T H' ∧ wfr [(51, 999)] T H H' ∧ ∃ z : Int, some (vL z) = r ∧ (0 ≤ z ∧ z ≤ 20000000000) ∧ (a1 ≠ -1 ∨ H r0 29 ≤ z)
set_option maxHeartbeats 4000000 in
theorem s_247 {kt : Nat → Option mc_E} {T : wq_T} {H : wq_H} {r0 : Nat} {a1 : Int} {a2 : Int} {pp : Nat} (hW : WT T H) (g0 : T.2.2.2 r0 = some 42) (i1 : (-1) ≤ a1 ∧ a1 ≤ 5) (i2 : (-2147483648) ≤ a2 ∧ a2 ≤ 2147483647) (qpp : H r0 3 = (pp : Int)) (gpp : T.2.2.2 pp = some 54) (p0 : H r0 29 = 0 ∨ 0 < wLM H r0) : wpc kt 3 247 [.ref r0, vI a1, vI a2] T H (q_247 r0 a1 a2 pp T H) := by
  refine wp_enter e247 (Nat.le_of_ble_eq_true rfl) rfl ?_
  have f0 : wfr [(51, 999)] T H H := wfr.rf
  show wp _ _ 247 0 [(0, .ref r0), (1, vI a1), (2, vI a2)] [] _ H _
  have b133782 : 0 ≤ H r0 29 ∧ H r0 29 ≤ 20000 := hW.box g0 (n := 33) rfl (by decide) rfl
  refine wp_of e247 c247_0 (rw_lconst (pc' := 1) (z := 0) rfl rfl ?_)
  refine wp_of e247 c247_1 (rw_lstore_n (pc' := 2) (z := 0) (L' := [(3, vL 0), (0, .ref r0), (1, vI a1), (2, vI a2)]) rfl rfl rfl ?_)
  refine wp_of e247 c247_2 (rw_iconst (pc' := 3) rfl ?_)
  refine wp_of e247 c247_3 (rw_istore (pc' := 5) (z := 0) (L' := [(5, vI 0), (3, vL 0), (0, .ref r0), (1, vI a1), (2, vI a2)]) rfl rfl rfl ?_)
  have lp134295 : ∀ (n134296 : Nat) (v134298 : Int) (v134299 : Int) (H134300 : wq_H), WT T H134300 → wfr [(51, 999)] T H H134300 → (0 ≤ v134298 ∧ v134298 ≤ 20000) → (0 ≤ v134299 ∧ v134299 ≤ 20000000000) → (v134298 ≤ H134300 r0 29) → (v134299 ≤ 1000000 * v134298) → (a1 ≠ -1 ∨ v134298 ≤ v134299) → (20000 - v134298).toNat = n134296 → wp kt 2 247 5 [(5, vI v134298), (3, vL v134299), (0, .ref r0), (1, vI a1), (2, vI a2)] [] T H134300 (q_247 r0 a1 a2 pp T H) := by
    intro n134296
    induction n134296 using Nat.strongRecOn with
    | _ n134296 ih134297 =>
      intro v134298 v134299 H134300 w134301 f134302 b134303 b134304 x134305 x134306 x134307 m134308
      have f134309 := f0.tr f134302 rfl
      have k134310 : H134300 r0 29 = H r0 29 := (f134302 r0 29 _ g0 rfl)
      refine wp_of e247 c247_5 (rw_iload (pc' := 7) (z := v134298) rfl rfl ?_)
      refine wp_of e247 c247_7 (rw_aload_n (pc' := 8) (v := .ref r0) rfl rfl rfl ?_)
      refine wp_of e247 c247_8 (xg_I (pc' := 11) lf_9_422 w134301 g0 sh_42 (by decide) (by decide) ty_42_29 rfl rfl (fun b134311 b134312 => ?_))
      refine wp_of e247 c247_11 (rw_icmp_ge (p1 := 66) (p2 := 14) (by decide) rfl ⟨by omega, by omega⟩ ⟨by omega, by omega⟩ (fun c134313 => ?_) (fun c134313 => ?_))
      · refine wp_of e247 c247_66 (rw_lload_n (pc' := 67) (z := v134299) rfl rfl ?_)
        exact wp_lreturn e247 c247_67 rfl ⟨rfl, w134301, f134309, v134299, rfl, ⟨by omega, by omega⟩, by omega⟩
      · refine wp_of e247 c247_14 (rw_aload_n (pc' := 15) (v := .ref r0) rfl rfl rfl ?_)
        refine wp_of e247 c247_15 (rw_aload_n (pc' := 16) (v := .ref r0) rfl rfl rfl ?_)
        refine wp_of e247 c247_16 (xg_R (pc' := 19) lf_9_42 w134301 g0 sh_42 (by decide) (by decide) ty_42_30 rfl rfl (fun r134314 q134315 g134316 => ?_))
        refine wp_of e247 c247_19 (rw_iload (pc' := 21) (z := v134298) rfl rfl ?_)
        refine wp_of e247 c247_21 (xa_I (so := 0) (pc' := 22) w134301 g134316 sh_52 (by decide) (ty_52 _) (by omega) (by omega) rfl (fun b134317 b134318 => ?_))
        have k134319 : wLM H134300 r0 = wLM H r0 := (wLM_fr hW g0 f134302 rfl)
        have k134320 : H134300 r0 3 = H r0 3 := (f134302 r0 3 _ g0 rfl)
        have q134321 : H134300 r0 3 = (pp : Int) := k134320.trans qpp
        refine wp_of e247 c247_22 (xc_V (pc' := 25) (r := r0) (as := [vI (H134300 r134314 (v134298.toNat))]) (st := []) (lm_9_425) rfl rfl (Nat.le_of_ble_eq_true rfl) w134301 g0 sh_42 (by decide) rfl (by decide) (s_243 w134301 g0 ⟨by omega, by omega⟩ q134321 gpp (by omega)) (fun R134322 T134323 H134324 p134325 => ?_))
        obtain ⟨e134326, w134328, f134329, e134327⟩ := p134325
        subst e134326
        subst e134327
        have f134330 := f134309.tr f134329 rfl
        have f134331 := f134302.tr f134329 rfl
        show wp _ _ 247 25 [(5, vI v134298), (3, vL v134299), (0, .ref r0), (1, vI a1), (2, vI a2)] [] _ H134324 _
        refine wp_of e247 c247_25 (rw_iload_n (pc' := 26) (z := a1) rfl rfl ?_)
        refine wp_of e247 c247_26 (rw_iconst (pc' := 27) rfl ?_)
        refine wp_of e247 c247_27 (rw_icmp_eq (p1 := 53) (p2 := 30) (by decide) rfl ⟨by omega, by omega⟩ ⟨by omega, by omega⟩ (fun c134332 => ?_) (fun c134332 => ?_))
        · refine wp_of e247 c247_53 (rw_lload_n (pc' := 54) (z := v134299) rfl rfl ?_)
          refine wp_of e247 c247_54 (rw_aload_n (pc' := 55) (v := .ref r0) rfl rfl rfl ?_)
          have k134333 : H134324 r0 3 = H134300 r0 3 := (f134329 r0 3 _ g0 rfl)
          have q134334 : H134324 r0 3 = (pp : Int) := k134333.trans q134321
          refine wp_of e247 c247_55 (xc_V (pc' := 58) (r := r0) (as := []) (st := [vL v134299]) (lm_9_437) rfl rfl (Nat.le_of_ble_eq_true rfl) w134328 g0 sh_42 (by decide) rfl (by decide) (s_248 w134328 g0 q134334 gpp) (fun R134335 T134336 H134337 p134338 => ?_))
          obtain ⟨e134339, e134341, z134342, e134340, b134343⟩ := p134338
          subst e134339
          subst e134340
          subst e134341
          show wp _ _ 247 58 [(5, vI v134298), (3, vL v134299), (0, .ref r0), (1, vI a1), (2, vI a2)] [vL z134342, vL v134299] _ H134324 _
          refine wp_of e247 c247_58 (rw_ladd (pc' := 59) rfl ?_)
          refine wp_of e247 c247_59 (rw_lstore_n (pc' := 60) (z := v134299 + z134342) (L' := [(3, vL (v134299 + z134342)), (5, vI v134298), (0, .ref r0), (1, vI a1), (2, vI a2)]) rfl rfl rfl ?_)
          refine wp_of e247 c247_60 (rw_iinc (pc' := 63) (z := v134298) (L' := [(5, vI (v134298 + 1)), (3, vL (v134299 + z134342)), (0, .ref r0), (1, vI a1), (2, vI a2)]) rfl rfl rfl rfl ?_)
          refine wp_of e247 c247_63 (rw_goto (p1 := 5) (by decide) ?_)
          have k134344 : H134324 r0 29 = H134300 r0 29 := (f134329 r0 29 _ g0 rfl)
          exact wp_lc (ks := [5, 3, 0, 1, 2]) (wl_c rfl (wl_c rfl (wl_c rfl (wl_c rfl (wl_c rfl wl_n))))) rfl (by decide) (ih134297 _ (by omega) (v134298 + 1) (v134299 + z134342) H134324 w134328 f134331 ⟨by omega, by omega⟩ ⟨by omega, by omega⟩ (by omega) (by omega) (by omega) rfl)
        · refine wp_of e247 c247_30 (rw_aload_n (pc' := 31) (v := .ref r0) rfl rfl rfl ?_)
          refine wp_of e247 c247_31 (xg_R (pc' := 34) lf_9_33 w134328 g0 sh_42 (by decide) (by decide) ty_42_25 rfl rfl (fun r134345 q134346 g134347 => ?_))
          refine wp_of e247 c247_34 (rw_bipush (pc' := 36) (z := 40) rfl (by decide) ?_)
          refine wp_of e247 c247_36 (rw_iload_n (pc' := 37) (z := a1) rfl rfl ?_)
          refine wp_of e247 c247_37 (rw_imul (pc' := 38) rfl ?_)
          refine wp_of e247 c247_38 (rw_aload_n (pc' := 39) (v := .ref r0) rfl rfl rfl ?_)
          refine wp_of e247 c247_39 (xg_R (pc' := 42) lf_9_39 w134328 g0 sh_42 (by decide) (by decide) ty_42_27 rfl rfl (fun r134348 q134349 g134350 => ?_))
          refine wp_of e247 c247_42 (rw_iload_n (pc' := 43) (z := a1) rfl rfl ?_)
          refine wp_of e247 c247_43 (xa_I (so := 0) (pc' := 44) w134328 g134350 sh_51 (by decide) (ty_51 _) (by omega) (by omega) rfl (fun b134351 b134352 => ?_))
          refine wp_of e247 c247_44 (rw_iadd (pc' := 45) rfl ?_)
          refine wp_of e247 c247_45 (xa_I (so := 0) (pc' := 46) w134328 g134347 sh_49 (by decide) (ty_49 _) (by omega) (by omega) rfl (fun b134353 b134354 => ?_))
          refine wp_of e247 c247_46 (rw_iload_n (pc' := 47) (z := a2) rfl rfl ?_)
          refine wp_of e247 c247_47 (xc_S (pc' := 50) (as := [vI (H134324 r134345 (((40 * a1) + (H134324 r134348 (a1.toNat))).toNat)), vI a2]) (st := []) (lm_9_346) rfl rfl (Nat.le_of_ble_eq_true rfl) rfl (by decide) (s_205 w134328 ⟨by omega, by omega⟩ ⟨by omega, by omega⟩) (fun R134355 T134356 H134357 p134358 => ?_))
          obtain ⟨e134359, e134361, z134362, e134360, b134363⟩ := p134358
          subst e134359
          subst e134360
          subst e134361
          show wp _ _ 247 50 [(5, vI v134298), (3, vL v134299), (0, .ref r0), (1, vI a1), (2, vI a2)] [vI z134362] _ H134324 _
          refine wp_of e247 c247_50 (rw_if_eq (p1 := 60) (p2 := 53) (by decide) rfl ⟨by omega, by omega⟩ (fun c134364 => ?_) (fun c134364 => ?_))
          · refine wp_of e247 c247_60 (rw_iinc (pc' := 63) (z := v134298) (L' := [(5, vI (v134298 + 1)), (3, vL v134299), (0, .ref r0), (1, vI a1), (2, vI a2)]) rfl rfl rfl rfl ?_)
            refine wp_of e247 c247_63 (rw_goto (p1 := 5) (by decide) ?_)
            have k134365 : H134324 r0 29 = H134300 r0 29 := (f134329 r0 29 _ g0 rfl)
            exact wp_lc (ks := [5, 3, 0, 1, 2]) (wl_c rfl (wl_c rfl (wl_c rfl (wl_c rfl (wl_c rfl wl_n))))) rfl (by decide) (ih134297 _ (by omega) (v134298 + 1) v134299 H134324 w134328 f134331 ⟨by omega, by omega⟩ ⟨by omega, by omega⟩ (by omega) (by omega) (by omega) rfl)
          · refine wp_of e247 c247_53 (rw_lload_n (pc' := 54) (z := v134299) rfl rfl ?_)
            refine wp_of e247 c247_54 (rw_aload_n (pc' := 55) (v := .ref r0) rfl rfl rfl ?_)
            have k134366 : H134324 r0 3 = H134300 r0 3 := (f134329 r0 3 _ g0 rfl)
            have q134367 : H134324 r0 3 = (pp : Int) := k134366.trans q134321
            refine wp_of e247 c247_55 (xc_V (pc' := 58) (r := r0) (as := []) (st := [vL v134299]) (lm_9_437) rfl rfl (Nat.le_of_ble_eq_true rfl) w134328 g0 sh_42 (by decide) rfl (by decide) (s_248 w134328 g0 q134367 gpp) (fun R134368 T134369 H134370 p134371 => ?_))
            obtain ⟨e134372, e134374, z134375, e134373, b134376⟩ := p134371
            subst e134372
            subst e134373
            subst e134374
            show wp _ _ 247 58 [(5, vI v134298), (3, vL v134299), (0, .ref r0), (1, vI a1), (2, vI a2)] [vL z134375, vL v134299] _ H134324 _
            refine wp_of e247 c247_58 (rw_ladd (pc' := 59) rfl ?_)
            refine wp_of e247 c247_59 (rw_lstore_n (pc' := 60) (z := v134299 + z134375) (L' := [(3, vL (v134299 + z134375)), (5, vI v134298), (0, .ref r0), (1, vI a1), (2, vI a2)]) rfl rfl rfl ?_)
            refine wp_of e247 c247_60 (rw_iinc (pc' := 63) (z := v134298) (L' := [(5, vI (v134298 + 1)), (3, vL (v134299 + z134375)), (0, .ref r0), (1, vI a1), (2, vI a2)]) rfl rfl rfl rfl ?_)
            refine wp_of e247 c247_63 (rw_goto (p1 := 5) (by decide) ?_)
            have k134377 : H134324 r0 29 = H134300 r0 29 := (f134329 r0 29 _ g0 rfl)
            exact wp_lc (ks := [5, 3, 0, 1, 2]) (wl_c rfl (wl_c rfl (wl_c rfl (wl_c rfl (wl_c rfl wl_n))))) rfl (by decide) (ih134297 _ (by omega) (v134298 + 1) (v134299 + z134375) H134324 w134328 f134331 ⟨by omega, by omega⟩ ⟨by omega, by omega⟩ (by omega) (by omega) (by omega) rfl)
  exact wp_lc (ks := [5, 3, 0, 1, 2]) (wl_c rfl (wl_c rfl (wl_c rfl (wl_c rfl (wl_c rfl wl_n))))) rfl (by decide) (lp134295 _ 0 0 H hW wfr.rf ⟨by omega, by omega⟩ ⟨by omega, by omega⟩ (by omega) (by omega) (by omega) rfl)
/-! StrikeAwakeModel.weights()J -/
theorem e246 : wq_en 246 = some (9, 2, false, some FieldType.long) := rfl
theorem c246_0 : mc_cd 246 0 = some (.aload_n 0, 1) := by decide +kernel
theorem c246_1 : mc_cd 246 1 = some (.iconst 0, 1) := by decide +kernel
theorem c246_2 : mc_cd 246 2 = some (.putfield 48, 3) := by decide +kernel
theorem c246_5 : mc_cd 246 5 = some (.aload_n 0, 1) := by decide +kernel
theorem c246_6 : mc_cd 246 6 = some (.aload_n 0, 1) := by decide +kernel
theorem c246_7 : mc_cd 246 7 = some (.getfield 337, 3) := by decide +kernel
theorem c246_10 : mc_cd 246 10 = some (.ifnull 7, 3) := by decide +kernel
theorem c246_13 : mc_cd 246 13 = some (.iconst 1, 1) := by decide +kernel
theorem c246_14 : mc_cd 246 14 = some (.goto 4, 3) := by decide +kernel
theorem c246_17 : mc_cd 246 17 = some (.iconst 0, 1) := by decide +kernel
theorem c246_18 : mc_cd 246 18 = some (.invokevirtual 433, 3) := by decide +kernel
theorem c246_21 : mc_cd 246 21 = some (.istore_n 1, 1) := by decide +kernel
theorem c246_22 : mc_cd 246 22 = some (.iload_n 1, 1) := by decide +kernel
theorem c246_23 : mc_cd 246 23 = some (.ifCond .le 12, 3) := by decide +kernel
theorem c246_26 : mc_cd 246 26 = some (.aload_n 0, 1) := by decide +kernel
theorem c246_27 : mc_cd 246 27 = some (.iload_n 1, 1) := by decide +kernel
theorem c246_28 : mc_cd 246 28 = some (.invokevirtual 54, 3) := by decide +kernel
theorem c246_31 : mc_cd 246 31 = some (.i2l, 1) := by decide +kernel
theorem c246_32 : mc_cd 246 32 = some (.goto 13, 3) := by decide +kernel
theorem c246_35 : mc_cd 246 35 = some (.aload_n 0, 1) := by decide +kernel
theorem c246_36 : mc_cd 246 36 = some (.aload_n 0, 1) := by decide +kernel
theorem c246_37 : mc_cd 246 37 = some (.iconst (-1), 1) := by decide +kernel
theorem c246_38 : mc_cd 246 38 = some (.iconst 0, 1) := by decide +kernel
theorem c246_39 : mc_cd 246 39 = some (.invokevirtual 440, 3) := by decide +kernel
theorem c246_42 : mc_cd 246 42 = some (.invokevirtual 380, 3) := by decide +kernel
theorem c246_45 : mc_cd 246 45 = some (.lreturn, 1) := by decide +kernel
abbrev q_246 (r0 : Nat) (T : wq_T) (H : wq_H) : Option Value → wq_T → wq_H → Prop := fun r T' H' => T = T' ∧ WT T H' ∧ wfr [(42, 0), (42, 1), (42, 2), (42, 28), (42, 29), (51, 999), (52, 999)] T H H' ∧ ∃ z : Int, some (vL z) = r ∧ ((-9223372036854775808) ≤ z ∧ z ≤ 9223372036854775807) ∧ (wKI H' r0 = 1)
set_option maxHeartbeats 4000000 in
theorem s_246 {kt : Nat → Option mc_E} {T : wq_T} {H : wq_H} {r0 : Nat} (hW : WT T H) (g0 : T.2.2.2 r0 = some 42) (p0 : wKI H r0 = 1) : wpc kt 8 246 [.ref r0] T H (q_246 r0 T H) := by
  refine wp_enter e246 (Nat.le_of_ble_eq_true rfl) rfl ?_
  have f0 : wfr [(42, 0), (42, 1), (42, 2), (42, 28), (42, 29), (51, 999), (52, 999)] T H H := wfr.rf
  show wp _ _ 246 0 [(0, .ref r0)] [] _ H _
  refine wp_of e246 c246_0 (rw_aload_n (pc' := 1) (v := .ref r0) rfl rfl rfl ?_)
  refine wp_of e246 c246_1 (rw_iconst (pc' := 2) rfl ?_)
  refine wp_of e246 c246_2 (xp_I (pc' := 5) lf_9_48 hW g0 sh_42 (by decide) (by decide) ty_42_0 rfl rfl (by omega) (by omega) ⟨by omega, by omega⟩ rfl (fun H134470 e134471 w134472 => ?_))
  have f134473 := f0.put' e134471 g0 rfl
  have k134474 : H134470 r0 0 = 0 := wq_u_s e134471
  refine wp_of e246 c246_5 (rw_aload_n (pc' := 6) (v := .ref r0) rfl rfl rfl ?_)
  refine wp_of e246 c246_6 (rw_aload_n (pc' := 7) (v := .ref r0) rfl rfl rfl ?_)
  refine wp_of e246 c246_7 (xg_O (pc' := 10) lf_9_337 w134472 g0 sh_42 (by decide) (by decide) ty_42_3 rfl rfl (fun q134476 => ?_) (fun r134475 q134476 g134477 => ?_))
  · refine wp_of e246 c246_10 (rw_ifnull_n (p1 := 17) (p2 := 13) (by decide) rfl ?_)
    refine wp_of e246 c246_17 (rw_iconst (pc' := 18) rfl ?_)
    have k134478 : wKI H134470 r0 = wKI H r0 := (wKI_fr hW g0 ((wfr.rf (l := [(42, 0)])).put' e134471 g0 rfl) rfl)
    refine wp_of e246 c246_18 (xc_V (pc' := 21) (r := r0) (as := [vI 0]) (st := []) (lm_9_433) rfl rfl (Nat.le_of_ble_eq_true rfl) w134472 g0 sh_42 (by decide) rfl (by decide) (s_241 w134472 g0 ⟨by omega, by omega⟩ (by omega) (by omega)) (fun R134479 T134480 H134481 p134482 => ?_))
    obtain ⟨e134483, w134485, f134486, z134491, e134484, b134492, p134487, p134488, p134489, p134490⟩ := p134482
    subst e134483
    subst e134484
    have f134493 := f134473.tr f134486 rfl
    show wp _ _ 246 21 [(0, .ref r0)] [vI z134491] _ H134481 _
    refine wp_of e246 c246_21 (rw_istore_n (pc' := 22) (z := z134491) (L' := [(1, vI z134491), (0, .ref r0)]) rfl rfl rfl ?_)
    refine wp_of e246 c246_22 (rw_iload_n (pc' := 23) (z := z134491) rfl rfl ?_)
    refine wp_of e246 c246_23 (rw_if_le (p1 := 35) (p2 := 26) (by decide) rfl ⟨by omega, by omega⟩ (fun c134494 => ?_) (fun c134494 => ?_))
    · exfalso
      omega
    · refine wp_of e246 c246_26 (rw_aload_n (pc' := 27) (v := .ref r0) rfl rfl rfl ?_)
      refine wp_of e246 c246_27 (rw_iload_n (pc' := 28) (z := z134491) rfl rfl ?_)
      refine wp_of e246 c246_28 (xc_V (pc' := 31) (r := r0) (as := [vI z134491]) (st := []) (lm_9_54) rfl rfl (Nat.le_of_ble_eq_true rfl) w134485 g0 sh_42 (by decide) rfl (by decide) (s_170 w134485 g0 ⟨by omega, by omega⟩) (fun R134495 T134496 H134497 p134498 => ?_))
      obtain ⟨e134499, w134501, f134502, z134503, e134500, b134504⟩ := p134498
      subst e134499
      subst e134500
      have f134505 := f134493.tr f134502 rfl
      show wp _ _ 246 31 [(1, vI z134491), (0, .ref r0)] [vI z134503] _ H134497 _
      refine wp_of e246 c246_31 (rw_i2l (pc' := 32) rfl ⟨by omega, by omega⟩ ?_)
      refine wp_of e246 c246_32 (rw_goto (p1 := 45) (by decide) ?_)
      have k134506 : wKI H134497 r0 = wKI H134481 r0 := (wKI_fr w134485 g0 f134502 rfl)
      exact wp_lreturn e246 c246_45 rfl ⟨rfl, w134501, f134505, z134503, rfl, ⟨by omega, by omega⟩, by omega⟩
  · refine wp_of e246 c246_10 (rw_ifnull_r (p1 := 17) (p2 := 13) (by decide) rfl ?_)
    refine wp_of e246 c246_13 (rw_iconst (pc' := 14) rfl ?_)
    refine wp_of e246 c246_14 (rw_goto (p1 := 18) (by decide) ?_)
    have k134507 : wKI H134470 r0 = wKI H r0 := (wKI_fr hW g0 ((wfr.rf (l := [(42, 0)])).put' e134471 g0 rfl) rfl)
    refine wp_of e246 c246_18 (xc_V (pc' := 21) (r := r0) (as := [vI 1]) (st := []) (lm_9_433) rfl rfl (Nat.le_of_ble_eq_true rfl) w134472 g0 sh_42 (by decide) rfl (by decide) (s_241 w134472 g0 ⟨by omega, by omega⟩ (by omega) (by omega)) (fun R134508 T134509 H134510 p134511 => ?_))
    obtain ⟨e134512, w134514, f134515, z134520, e134513, b134521, p134516, p134517, p134518, p134519⟩ := p134511
    subst e134512
    subst e134513
    have f134522 := f134473.tr f134515 rfl
    show wp _ _ 246 21 [(0, .ref r0)] [vI z134520] _ H134510 _
    refine wp_of e246 c246_21 (rw_istore_n (pc' := 22) (z := z134520) (L' := [(1, vI z134520), (0, .ref r0)]) rfl rfl rfl ?_)
    refine wp_of e246 c246_22 (rw_iload_n (pc' := 23) (z := z134520) rfl rfl ?_)
    refine wp_of e246 c246_23 (rw_if_le (p1 := 35) (p2 := 26) (by decide) rfl ⟨by omega, by omega⟩ (fun c134523 => ?_) (fun c134523 => ?_))
    · refine wp_of e246 c246_35 (rw_aload_n (pc' := 36) (v := .ref r0) rfl rfl rfl ?_)
      refine wp_of e246 c246_36 (rw_aload_n (pc' := 37) (v := .ref r0) rfl rfl rfl ?_)
      refine wp_of e246 c246_37 (rw_iconst (pc' := 38) rfl ?_)
      refine wp_of e246 c246_38 (rw_iconst (pc' := 39) rfl ?_)
      have k134524 : H134510 r0 3 = H134470 r0 3 := (f134515 r0 3 _ g0 rfl)
      have q134525 : H134510 r0 3 = (r134475 : Int) := k134524.trans q134476
      refine wp_of e246 c246_39 (xc_V (pc' := 42) (r := r0) (as := [vI (-1), vI 0]) (st := [.ref r0]) (lm_9_440) rfl rfl (Nat.le_of_ble_eq_true rfl) w134514 g0 sh_42 (by decide) rfl (by decide) (s_247 w134514 g0 ⟨by omega, by omega⟩ ⟨by omega, by omega⟩ q134525 g134477 (by omega)) (fun R134526 T134527 H134528 p134529 => ?_))
      obtain ⟨e134530, w134532, f134533, z134535, e134531, b134536, p134534⟩ := p134529
      subst e134530
      subst e134531
      have f134537 := f134522.tr f134533 rfl
      show wp _ _ 246 42 [(1, vI z134520), (0, .ref r0)] [vL z134535, .ref r0] _ H134528 _
      refine wp_of e246 c246_42 (xc_V (pc' := 45) (r := r0) (as := [vL z134535]) (st := []) (lm_9_380) rfl rfl (Nat.le_of_ble_eq_true rfl) w134532 g0 sh_42 (by decide) rfl (by decide) (s_221 w134532 g0 ⟨by omega, by omega⟩) (fun R134538 T134539 H134540 p134541 => ?_))
      obtain ⟨e134542, w134544, f134545, z134546, e134543, b134547⟩ := p134541
      subst e134542
      subst e134543
      have f134548 := f134537.tr f134545 rfl
      show wp _ _ 246 45 [(1, vI z134520), (0, .ref r0)] [vL z134546] _ H134540 _
      have k134549 : wKI H134540 r0 = wKI H134510 r0 := ((wKI_fr w134532 g0 f134545 rfl).trans (wKI_fr w134514 g0 f134533 rfl))
      exact wp_lreturn e246 c246_45 rfl ⟨rfl, w134544, f134548, z134546, rfl, ⟨by omega, by omega⟩, by omega⟩
    · refine wp_of e246 c246_26 (rw_aload_n (pc' := 27) (v := .ref r0) rfl rfl rfl ?_)
      refine wp_of e246 c246_27 (rw_iload_n (pc' := 28) (z := z134520) rfl rfl ?_)
      refine wp_of e246 c246_28 (xc_V (pc' := 31) (r := r0) (as := [vI z134520]) (st := []) (lm_9_54) rfl rfl (Nat.le_of_ble_eq_true rfl) w134514 g0 sh_42 (by decide) rfl (by decide) (s_170 w134514 g0 ⟨by omega, by omega⟩) (fun R134550 T134551 H134552 p134553 => ?_))
      obtain ⟨e134554, w134556, f134557, z134558, e134555, b134559⟩ := p134553
      subst e134554
      subst e134555
      have f134560 := f134522.tr f134557 rfl
      show wp _ _ 246 31 [(1, vI z134520), (0, .ref r0)] [vI z134558] _ H134552 _
      refine wp_of e246 c246_31 (rw_i2l (pc' := 32) rfl ⟨by omega, by omega⟩ ?_)
      refine wp_of e246 c246_32 (rw_goto (p1 := 45) (by decide) ?_)
      have k134561 : wKI H134552 r0 = wKI H134510 r0 := (wKI_fr w134514 g0 f134557 rfl)
      exact wp_lreturn e246 c246_45 rfl ⟨rfl, w134556, f134560, z134558, rfl, ⟨by omega, by omega⟩, by omega⟩
