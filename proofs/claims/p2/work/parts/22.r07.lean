/-! methods of the reference (own work, written by wip/gen2/sx.py) -/
/-! StrikeAwakeModel.having(II)I -/
theorem e249 : wq_en 249 = some (9, 6, false, some FieldType.int) := rfl
theorem c249_0 : mc_cd 249 0 = some (.aload_n 0, 1) := by decide +kernel
theorem c249_1 : mc_cd 249 1 = some (.iconst 0, 1) := by decide +kernel
theorem c249_2 : mc_cd 249 2 = some (.putfield 48, 3) := by decide +kernel
theorem c249_5 : mc_cd 249 5 = some (.aload_n 0, 1) := by decide +kernel
theorem c249_6 : mc_cd 249 6 = some (.aload_n 0, 1) := by decide +kernel
theorem c249_7 : mc_cd 249 7 = some (.iload_n 1, 1) := by decide +kernel
theorem c249_8 : mc_cd 249 8 = some (.iload_n 2, 1) := by decide +kernel
theorem c249_9 : mc_cd 249 9 = some (.invokevirtual 367, 3) := by decide +kernel
theorem c249_12 : mc_cd 249 12 = some (.invokevirtual 433, 3) := by decide +kernel
theorem c249_15 : mc_cd 249 15 = some (.istore_n 3, 1) := by decide +kernel
theorem c249_16 : mc_cd 249 16 = some (.iload_n 3, 1) := by decide +kernel
theorem c249_17 : mc_cd 249 17 = some (.ifCond .le 9, 3) := by decide +kernel
theorem c249_20 : mc_cd 249 20 = some (.aload_n 0, 1) := by decide +kernel
theorem c249_21 : mc_cd 249 21 = some (.iload_n 3, 1) := by decide +kernel
theorem c249_22 : mc_cd 249 22 = some (.invokevirtual 54, 3) := by decide +kernel
theorem c249_25 : mc_cd 249 25 = some (.ireturn, 1) := by decide +kernel
theorem c249_26 : mc_cd 249 26 = some (.iconst 0, 1) := by decide +kernel
theorem c249_27 : mc_cd 249 27 = some (.istore 4, 2) := by decide +kernel
theorem c249_29 : mc_cd 249 29 = some (.iconst 0, 1) := by decide +kernel
theorem c249_30 : mc_cd 249 30 = some (.istore 5, 2) := by decide +kernel
theorem c249_32 : mc_cd 249 32 = some (.iload 5, 2) := by decide +kernel
theorem c249_34 : mc_cd 249 34 = some (.aload_n 0, 1) := by decide +kernel
theorem c249_35 : mc_cd 249 35 = some (.getfield 422, 3) := by decide +kernel
theorem c249_38 : mc_cd 249 38 = some (.if_icmp .ge 40, 3) := by decide +kernel
theorem c249_41 : mc_cd 249 41 = some (.aload_n 0, 1) := by decide +kernel
theorem c249_42 : mc_cd 249 42 = some (.aload_n 0, 1) := by decide +kernel
theorem c249_43 : mc_cd 249 43 = some (.getfield 42, 3) := by decide +kernel
theorem c249_46 : mc_cd 249 46 = some (.iload 5, 2) := by decide +kernel
theorem c249_48 : mc_cd 249 48 = some (.iaload, 1) := by decide +kernel
theorem c249_49 : mc_cd 249 49 = some (.invokevirtual 425, 3) := by decide +kernel
theorem c249_52 : mc_cd 249 52 = some (.iload 4, 2) := by decide +kernel
theorem c249_54 : mc_cd 249 54 = some (.aload_n 0, 1) := by decide +kernel
theorem c249_55 : mc_cd 249 55 = some (.getfield 39, 3) := by decide +kernel
theorem c249_58 : mc_cd 249 58 = some (.iload_n 1, 1) := by decide +kernel
theorem c249_59 : mc_cd 249 59 = some (.iaload, 1) := by decide +kernel
theorem c249_60 : mc_cd 249 60 = some (.iload_n 2, 1) := by decide +kernel
theorem c249_61 : mc_cd 249 61 = some (.if_icmp .ne 7, 3) := by decide +kernel
theorem c249_64 : mc_cd 249 64 = some (.iconst 1, 1) := by decide +kernel
theorem c249_65 : mc_cd 249 65 = some (.goto 4, 3) := by decide +kernel
theorem c249_68 : mc_cd 249 68 = some (.iconst 0, 1) := by decide +kernel
theorem c249_69 : mc_cd 249 69 = some (.iadd, 1) := by decide +kernel
theorem c249_70 : mc_cd 249 70 = some (.istore 4, 2) := by decide +kernel
theorem c249_72 : mc_cd 249 72 = some (.iinc 5 1, 3) := by decide +kernel
theorem c249_75 : mc_cd 249 75 = some (.goto (-43), 3) := by decide +kernel
theorem c249_78 : mc_cd 249 78 = some (.aload_n 0, 1) := by decide +kernel
theorem c249_79 : mc_cd 249 79 = some (.iload 4, 2) := by decide +kernel
theorem c249_81 : mc_cd 249 81 = some (.invokevirtual 58, 3) := by decide +kernel
theorem c249_84 : mc_cd 249 84 = some (.ireturn, 1) := by decide +kernel
abbrev q_249 (r0 : Nat) (a1 : Int) (a2 : Int) (T : wq_T) (H : wq_H) : Option Value → wq_T → wq_H → Prop := fun r T' H' => T = T' ∧ WT T H' ∧ wfr [(42, 0), (42, 1), (42, 2), (42, 28), (42, 29), (51, 999), (52, 999)] T H H' ∧ ∃ z : Int, some (vI z) = r ∧ ((-2147483648) ≤ z ∧ z ≤ 2147483647) ∧ (wKI H' r0 = 1)
set_option maxHeartbeats 4000000 in
theorem s_249 {kt : Nat → Option mc_E} {T : wq_T} {H : wq_H} {r0 : Nat} {a1 : Int} {a2 : Int} (hW : WT T H) (g0 : T.2.2.2 r0 = some 42) (i1 : (-2147483648) ≤ a1 ∧ a1 ≤ 2147483647) (i2 : (-2147483648) ≤ a2 ∧ a2 ≤ 2147483647) (p0 : wKI H r0 = 1) : wpc kt 8 249 [.ref r0, vI a1, vI a2] T H (q_249 r0 a1 a2 T H) := by
  refine wp_enter e249 (Nat.le_of_ble_eq_true rfl) rfl ?_
  have f0 : wfr [(42, 0), (42, 1), (42, 2), (42, 28), (42, 29), (51, 999), (52, 999)] T H H := wfr.rf
  show wp _ _ 249 0 [(0, .ref r0), (1, vI a1), (2, vI a2)] [] _ H _
  refine wp_of e249 c249_0 (rw_aload_n (pc' := 1) (v := .ref r0) rfl rfl rfl ?_)
  refine wp_of e249 c249_1 (rw_iconst (pc' := 2) rfl ?_)
  refine wp_of e249 c249_2 (xp_I (pc' := 5) lf_9_48 hW g0 sh_42 (by decide) (by decide) ty_42_0 rfl rfl (by omega) (by omega) ⟨by omega, by omega⟩ rfl (fun H134728 e134729 w134730 => ?_))
  have f134731 := f0.put' e134729 g0 rfl
  have k134732 : H134728 r0 0 = 0 := wq_u_s e134729
  refine wp_of e249 c249_5 (rw_aload_n (pc' := 6) (v := .ref r0) rfl rfl rfl ?_)
  refine wp_of e249 c249_6 (rw_aload_n (pc' := 7) (v := .ref r0) rfl rfl rfl ?_)
  refine wp_of e249 c249_7 (rw_iload_n (pc' := 8) (z := a1) rfl rfl ?_)
  refine wp_of e249 c249_8 (rw_iload_n (pc' := 9) (z := a2) rfl rfl ?_)
  refine wp_of e249 c249_9 (xc_V (pc' := 12) (r := r0) (as := [vI a1, vI a2]) (st := [.ref r0]) (lm_9_367) rfl rfl (Nat.le_of_ble_eq_true rfl) w134730 g0 sh_42 (by decide) rfl (by decide) (s_215 w134730 g0 ⟨by omega, by omega⟩ ⟨by omega, by omega⟩) (fun R134733 T134734 H134735 p134736 => ?_))
  obtain ⟨e134737, e134739, z134741, e134738, b134742, p134740⟩ := p134736
  subst e134737
  subst e134738
  subst e134739
  show wp _ _ 249 12 [(0, .ref r0), (1, vI a1), (2, vI a2)] [vI z134741, .ref r0] _ H134728 _
  have k134743 : wKI H134728 r0 = wKI H r0 := (wKI_fr hW g0 ((wfr.rf (l := [(42, 0)])).put' e134729 g0 rfl) rfl)
  refine wp_of e249 c249_12 (xc_V (pc' := 15) (r := r0) (as := [vI z134741]) (st := []) (lm_9_433) rfl rfl (Nat.le_of_ble_eq_true rfl) w134730 g0 sh_42 (by decide) rfl (by decide) (s_241 w134730 g0 ⟨by omega, by omega⟩ (by omega) (by omega)) (fun R134744 T134745 H134746 p134747 => ?_))
  obtain ⟨e134748, w134750, f134751, z134756, e134749, b134757, p134752, p134753, p134754, p134755⟩ := p134747
  subst e134748
  subst e134749
  have f134758 := f134731.tr f134751 rfl
  show wp _ _ 249 15 [(0, .ref r0), (1, vI a1), (2, vI a2)] [vI z134756] _ H134746 _
  refine wp_of e249 c249_15 (rw_istore_n (pc' := 16) (z := z134756) (L' := [(3, vI z134756), (0, .ref r0), (1, vI a1), (2, vI a2)]) rfl rfl rfl ?_)
  refine wp_of e249 c249_16 (rw_iload_n (pc' := 17) (z := z134756) rfl rfl ?_)
  refine wp_of e249 c249_17 (rw_if_le (p1 := 26) (p2 := 20) (by decide) rfl ⟨by omega, by omega⟩ (fun c134759 => ?_) (fun c134759 => ?_))
  · refine wp_of e249 c249_26 (rw_iconst (pc' := 27) rfl ?_)
    refine wp_of e249 c249_27 (rw_istore (pc' := 29) (z := 0) (L' := [(4, vI 0), (3, vI z134756), (0, .ref r0), (1, vI a1), (2, vI a2)]) rfl rfl rfl ?_)
    refine wp_of e249 c249_29 (rw_iconst (pc' := 30) rfl ?_)
    refine wp_of e249 c249_30 (rw_istore (pc' := 32) (z := 0) (L' := [(5, vI 0), (4, vI 0), (3, vI z134756), (0, .ref r0), (1, vI a1), (2, vI a2)]) rfl rfl rfl ?_)
    have lp135025 : ∀ (n135026 : Nat) (v135028 : Int) (v135029 : Int) (H135030 : wq_H), WT T H135030 → wfr [(51, 999)] T H134746 H135030 → (0 ≤ v135028 ∧ v135028 ≤ 20000) → ((-2147483648) ≤ v135029 ∧ v135029 ≤ 2147483647) → (20000 - v135028).toNat = n135026 → wp kt 7 249 32 [(5, vI v135028), (4, vI v135029), (0, .ref r0), (1, vI a1), (2, vI a2)] [] T H135030 (q_249 r0 a1 a2 T H) := by
      intro n135026
      induction n135026 using Nat.strongRecOn with
      | _ n135026 ih135027 =>
        intro v135028 v135029 H135030 w135031 f135032 b135033 b135034 m135035
        have f135036 := f134758.tr f135032 rfl
        refine wp_of e249 c249_32 (rw_iload (pc' := 34) (z := v135028) rfl rfl ?_)
        refine wp_of e249 c249_34 (rw_aload_n (pc' := 35) (v := .ref r0) rfl rfl rfl ?_)
        have k135037 : H135030 r0 29 = H134746 r0 29 := (f135032 r0 29 _ g0 rfl)
        refine wp_of e249 c249_35 (xg_I (pc' := 38) lf_9_422 w135031 g0 sh_42 (by decide) (by decide) ty_42_29 rfl rfl (fun b135038 b135039 => ?_))
        refine wp_of e249 c249_38 (rw_icmp_ge (p1 := 78) (p2 := 41) (by decide) rfl ⟨by omega, by omega⟩ ⟨by omega, by omega⟩ (fun c135040 => ?_) (fun c135040 => ?_))
        · refine wp_of e249 c249_78 (rw_aload_n (pc' := 79) (v := .ref r0) rfl rfl rfl ?_)
          refine wp_of e249 c249_79 (rw_iload (pc' := 81) (z := v135029) rfl rfl ?_)
          refine wp_of e249 c249_81 (xc_V (pc' := 84) (r := r0) (as := [vI v135029]) (st := []) (lm_9_58) rfl rfl (Nat.le_of_ble_eq_true rfl) w135031 g0 sh_42 (by decide) rfl (by decide) (s_209 w135031 g0 ⟨by omega, by omega⟩) (fun R135041 T135042 H135043 p135044 => ?_))
          obtain ⟨e135045, w135047, f135048, z135049, e135046, b135050⟩ := p135044
          subst e135045
          subst e135046
          have f135051 := f135036.tr f135048 rfl
          show wp _ _ 249 84 [(5, vI v135028), (4, vI v135029), (0, .ref r0), (1, vI a1), (2, vI a2)] [vI z135049] _ H135043 _
          have k135052 : wKI H135043 r0 = wKI H134746 r0 := ((wKI_fr w135031 g0 f135048 rfl).trans (wKI_fr w134750 g0 f135032 rfl))
          exact wp_ireturn e249 c249_84 rfl ⟨rfl, w135047, f135051, z135049, rfl, ⟨by omega, by omega⟩, by omega⟩
        · refine wp_of e249 c249_41 (rw_aload_n (pc' := 42) (v := .ref r0) rfl rfl rfl ?_)
          refine wp_of e249 c249_42 (rw_aload_n (pc' := 43) (v := .ref r0) rfl rfl rfl ?_)
          refine wp_of e249 c249_43 (xg_R (pc' := 46) lf_9_42 w135031 g0 sh_42 (by decide) (by decide) ty_42_30 rfl rfl (fun r135053 q135054 g135055 => ?_))
          refine wp_of e249 c249_46 (rw_iload (pc' := 48) (z := v135028) rfl rfl ?_)
          refine wp_of e249 c249_48 (xa_I (so := 0) (pc' := 49) w135031 g135055 sh_52 (by decide) (ty_52 _) (by omega) (by omega) rfl (fun b135056 b135057 => ?_))
          have k135058 : wLM H135030 r0 = wLM H134746 r0 := (wLM_fr w134750 g0 f135032 rfl)
          have k135059 : H135030 r0 3 = H134728 r0 3 := ((f135032 r0 3 _ g0 rfl).trans (f134751 r0 3 _ g0 rfl))
          obtain ⟨r135060, q135061, g135062⟩ := (w135031.opt g0 (t' := 54) (n := 33) (j := 3) (p := 0) (q := 0) rfl (by decide) rfl).resolve_left (by omega)
          refine wp_of e249 c249_49 (xc_V (pc' := 52) (r := r0) (as := [vI (H135030 r135053 (v135028.toNat))]) (st := []) (lm_9_425) rfl rfl (Nat.le_of_ble_eq_true rfl) w135031 g0 sh_42 (by decide) rfl (by decide) (s_243 w135031 g0 ⟨by omega, by omega⟩ q135061 g135062 (by omega)) (fun R135063 T135064 H135065 p135066 => ?_))
          obtain ⟨e135067, w135069, f135070, e135068⟩ := p135066
          subst e135067
          subst e135068
          have f135071 := f135036.tr f135070 rfl
          have f135072 := f135032.tr f135070 rfl
          show wp _ _ 249 52 [(5, vI v135028), (4, vI v135029), (0, .ref r0), (1, vI a1), (2, vI a2)] [] _ H135065 _
          refine wp_of e249 c249_52 (rw_iload (pc' := 54) (z := v135029) rfl rfl ?_)
          refine wp_of e249 c249_54 (rw_aload_n (pc' := 55) (v := .ref r0) rfl rfl rfl ?_)
          refine wp_of e249 c249_55 (xg_R (pc' := 58) lf_9_39 w135069 g0 sh_42 (by decide) (by decide) ty_42_27 rfl rfl (fun r135073 q135074 g135075 => ?_))
          refine wp_of e249 c249_58 (rw_iload_n (pc' := 59) (z := a1) rfl rfl ?_)
          refine wp_of e249 c249_59 (xa_I (so := 0) (pc' := 60) w135069 g135075 sh_51 (by decide) (ty_51 _) (by omega) (by omega) rfl (fun b135076 b135077 => ?_))
          refine wp_of e249 c249_60 (rw_iload_n (pc' := 61) (z := a2) rfl rfl ?_)
          refine wp_of e249 c249_61 (rw_icmp_ne (p1 := 68) (p2 := 64) (by decide) rfl ⟨by omega, by omega⟩ ⟨by omega, by omega⟩ (fun c135078 => ?_) (fun c135078 => ?_))
          · refine wp_of e249 c249_68 (rw_iconst (pc' := 69) rfl ?_)
            refine wp_of e249 c249_69 (rw_iadd (pc' := 70) rfl ?_)
            refine wp_of e249 c249_70 (rw_istore (pc' := 72) (z := v135029 + 0) (L' := [(4, vI (v135029 + 0)), (5, vI v135028), (0, .ref r0), (1, vI a1), (2, vI a2)]) rfl rfl rfl ?_)
            refine wp_of e249 c249_72 (rw_iinc (pc' := 75) (z := v135028) (L' := [(5, vI (v135028 + 1)), (4, vI (v135029 + 0)), (0, .ref r0), (1, vI a1), (2, vI a2)]) rfl rfl rfl rfl ?_)
            refine wp_of e249 c249_75 (rw_goto (p1 := 32) (by decide) ?_)
            exact wp_lc (ks := [5, 4, 0, 1, 2]) (wl_c rfl (wl_c rfl (wl_c rfl (wl_c rfl (wl_c rfl wl_n))))) rfl (by decide) (ih135027 _ (by omega) (v135028 + 1) (v135029 + 0) H135065 w135069 f135072 ⟨by omega, by omega⟩ ⟨by omega, by omega⟩ rfl)
          · refine wp_of e249 c249_64 (rw_iconst (pc' := 65) rfl ?_)
            refine wp_of e249 c249_65 (rw_goto (p1 := 69) (by decide) ?_)
            refine wp_of e249 c249_69 (rw_iaddw (pc' := 70) rfl ?_)
            obtain ⟨v135079, e135080⟩ : ∃ x : Int, x = wq_w (v135029 + 1) := ⟨_, rfl⟩
            rw [← e135080]
            have b135081 : -2147483648 ≤ v135079 ∧ v135079 ≤ 2147483647 := by
              rw [e135080]
              exact wI_w _
            refine wp_of e249 c249_70 (rw_istore (pc' := 72) (z := v135079) (L' := [(4, vI v135079), (5, vI v135028), (0, .ref r0), (1, vI a1), (2, vI a2)]) rfl rfl rfl ?_)
            refine wp_of e249 c249_72 (rw_iinc (pc' := 75) (z := v135028) (L' := [(5, vI (v135028 + 1)), (4, vI v135079), (0, .ref r0), (1, vI a1), (2, vI a2)]) rfl rfl rfl rfl ?_)
            refine wp_of e249 c249_75 (rw_goto (p1 := 32) (by decide) ?_)
            exact wp_lc (ks := [5, 4, 0, 1, 2]) (wl_c rfl (wl_c rfl (wl_c rfl (wl_c rfl (wl_c rfl wl_n))))) rfl (by decide) (ih135027 _ (by omega) (v135028 + 1) v135079 H135065 w135069 f135072 ⟨by omega, by omega⟩ ⟨by omega, by omega⟩ rfl)
    exact wp_lc (ks := [5, 4, 3, 0, 1, 2]) (wl_c rfl (wl_c rfl (wl_c rfl (wl_c rfl (wl_c rfl wl_n))))) rfl (by decide) (lp135025 _ 0 0 H134746 w134750 wfr.rf ⟨by omega, by omega⟩ ⟨by omega, by omega⟩ rfl)
  · refine wp_of e249 c249_20 (rw_aload_n (pc' := 21) (v := .ref r0) rfl rfl rfl ?_)
    refine wp_of e249 c249_21 (rw_iload_n (pc' := 22) (z := z134756) rfl rfl ?_)
    refine wp_of e249 c249_22 (xc_V (pc' := 25) (r := r0) (as := [vI z134756]) (st := []) (lm_9_54) rfl rfl (Nat.le_of_ble_eq_true rfl) w134750 g0 sh_42 (by decide) rfl (by decide) (s_170 w134750 g0 ⟨by omega, by omega⟩) (fun R135082 T135083 H135084 p135085 => ?_))
    obtain ⟨e135086, w135088, f135089, z135090, e135087, b135091⟩ := p135085
    subst e135086
    subst e135087
    have f135092 := f134758.tr f135089 rfl
    show wp _ _ 249 25 [(3, vI z134756), (0, .ref r0), (1, vI a1), (2, vI a2)] [vI z135090] _ H135084 _
    have k135093 : wKI H135084 r0 = wKI H134746 r0 := (wKI_fr w134750 g0 f135089 rfl)
    exact wp_ireturn e249 c249_25 rfl ⟨rfl, w135088, f135092, z135090, rfl, ⟨by omega, by omega⟩, by omega⟩
/-! StrikeAwakeModel.awakeIn(II)I -/
theorem e251 : wq_en 251 = some (9, 5, false, some FieldType.int) := rfl
theorem c251_0 : mc_cd 251 0 = some (.iconst 0, 1) := by decide +kernel
theorem c251_1 : mc_cd 251 1 = some (.istore_n 3, 1) := by decide +kernel
theorem c251_2 : mc_cd 251 2 = some (.iconst 0, 1) := by decide +kernel
theorem c251_3 : mc_cd 251 3 = some (.istore 4, 2) := by decide +kernel
theorem c251_5 : mc_cd 251 5 = some (.iload 4, 2) := by decide +kernel
theorem c251_7 : mc_cd 251 7 = some (.aload_n 0, 1) := by decide +kernel
theorem c251_8 : mc_cd 251 8 = some (.getfield 422, 3) := by decide +kernel
theorem c251_11 : mc_cd 251 11 = some (.if_icmp .ge 51, 3) := by decide +kernel
theorem c251_14 : mc_cd 251 14 = some (.aload_n 0, 1) := by decide +kernel
theorem c251_15 : mc_cd 251 15 = some (.aload_n 0, 1) := by decide +kernel
theorem c251_16 : mc_cd 251 16 = some (.getfield 42, 3) := by decide +kernel
theorem c251_19 : mc_cd 251 19 = some (.iload 4, 2) := by decide +kernel
theorem c251_21 : mc_cd 251 21 = some (.iaload, 1) := by decide +kernel
theorem c251_22 : mc_cd 251 22 = some (.invokevirtual 425, 3) := by decide +kernel
theorem c251_25 : mc_cd 251 25 = some (.iload_n 3, 1) := by decide +kernel
theorem c251_26 : mc_cd 251 26 = some (.aload_n 0, 1) := by decide +kernel
theorem c251_27 : mc_cd 251 27 = some (.getfield 33, 3) := by decide +kernel
theorem c251_30 : mc_cd 251 30 = some (.bipush 40, 2) := by decide +kernel
theorem c251_32 : mc_cd 251 32 = some (.iload_n 1, 1) := by decide +kernel
theorem c251_33 : mc_cd 251 33 = some (.imul, 1) := by decide +kernel
theorem c251_34 : mc_cd 251 34 = some (.aload_n 0, 1) := by decide +kernel
theorem c251_35 : mc_cd 251 35 = some (.getfield 39, 3) := by decide +kernel
theorem c251_38 : mc_cd 251 38 = some (.iload_n 1, 1) := by decide +kernel
theorem c251_39 : mc_cd 251 39 = some (.iaload, 1) := by decide +kernel
theorem c251_40 : mc_cd 251 40 = some (.iadd, 1) := by decide +kernel
theorem c251_41 : mc_cd 251 41 = some (.iaload, 1) := by decide +kernel
theorem c251_42 : mc_cd 251 42 = some (.iload_n 2, 1) := by decide +kernel
theorem c251_43 : mc_cd 251 43 = some (.invokestatic 346, 3) := by decide +kernel
theorem c251_46 : mc_cd 251 46 = some (.ifCond .eq 7, 3) := by decide +kernel
theorem c251_49 : mc_cd 251 49 = some (.iconst 1, 1) := by decide +kernel
theorem c251_50 : mc_cd 251 50 = some (.goto 4, 3) := by decide +kernel
theorem c251_53 : mc_cd 251 53 = some (.iconst 0, 1) := by decide +kernel
theorem c251_54 : mc_cd 251 54 = some (.iadd, 1) := by decide +kernel
theorem c251_55 : mc_cd 251 55 = some (.istore_n 3, 1) := by decide +kernel
theorem c251_56 : mc_cd 251 56 = some (.iinc 4 1, 3) := by decide +kernel
theorem c251_59 : mc_cd 251 59 = some (.goto (-54), 3) := by decide +kernel
theorem c251_62 : mc_cd 251 62 = some (.iload_n 3, 1) := by decide +kernel
theorem c251_63 : mc_cd 251 63 = some (.ireturn, 1) := by decide +kernel
abbrev q_251 (r0 : Nat) (a1 : Int) (a2 : Int) (pp : Nat) (T : wq_T) (H : wq_H) : Option Value → wq_T → wq_H → Prop := fun r T' H' => T = T' ∧ WT T H' ∧ wfr [(51, 999)] T H H' ∧ ∃ z : Int, some (vI z) = r ∧ (0 ≤ z ∧ z ≤ 20000)
set_option maxHeartbeats 4000000 in
theorem s_251 {kt : Nat → Option mc_E} {T : wq_T} {H : wq_H} {r0 : Nat} {a1 : Int} {a2 : Int} {pp : Nat} (hW : WT T H) (g0 : T.2.2.2 r0 = some 42) (i1 : 0 ≤ a1 ∧ a1 ≤ 5) (i2 : (-2147483648) ≤ a2 ∧ a2 ≤ 2147483647) (qpp : H r0 3 = (pp : Int)) (gpp : T.2.2.2 pp = some 54) (p0 : H r0 29 = 0 ∨ 0 < wLM H r0) : wpc kt 2 251 [.ref r0, vI a1, vI a2] T H (q_251 r0 a1 a2 pp T H) := by
  refine wp_enter e251 (Nat.le_of_ble_eq_true rfl) rfl ?_
  have f0 : wfr [(51, 999)] T H H := wfr.rf
  show wp _ _ 251 0 [(0, .ref r0), (1, vI a1), (2, vI a2)] [] _ H _
  refine wp_of e251 c251_0 (rw_iconst (pc' := 1) rfl ?_)
  refine wp_of e251 c251_1 (rw_istore_n (pc' := 2) (z := 0) (L' := [(3, vI 0), (0, .ref r0), (1, vI a1), (2, vI a2)]) rfl rfl rfl ?_)
  refine wp_of e251 c251_2 (rw_iconst (pc' := 3) rfl ?_)
  refine wp_of e251 c251_3 (rw_istore (pc' := 5) (z := 0) (L' := [(4, vI 0), (3, vI 0), (0, .ref r0), (1, vI a1), (2, vI a2)]) rfl rfl rfl ?_)
  have lp135884 : ∀ (n135885 : Nat) (v135887 : Int) (v135888 : Int) (H135889 : wq_H), WT T H135889 → wfr [(51, 999)] T H H135889 → (0 ≤ v135887 ∧ v135887 ≤ 20000) → ((-2147483648) ≤ v135888 ∧ v135888 ≤ 2147483647) → (20000 - v135887).toNat = n135885 → wp kt 1 251 5 [(4, vI v135887), (3, vI v135888), (0, .ref r0), (1, vI a1), (2, vI a2)] [] T H135889 (q_251 r0 a1 a2 pp T H) := by
    intro n135885
    induction n135885 using Nat.strongRecOn with
    | _ n135885 ih135886 =>
      intro v135887 v135888 H135889 w135890 f135891 b135892 b135893 m135894
      have f135895 := f0.tr f135891 rfl
      refine wp_of e251 c251_5 (rw_iload (pc' := 7) (z := v135887) rfl rfl ?_)
      refine wp_of e251 c251_7 (rw_aload_n (pc' := 8) (v := .ref r0) rfl rfl rfl ?_)
      have k135896 : H135889 r0 29 = H r0 29 := (f135891 r0 29 _ g0 rfl)
      refine wp_of e251 c251_8 (xg_I (pc' := 11) lf_9_422 w135890 g0 sh_42 (by decide) (by decide) ty_42_29 rfl rfl (fun b135897 b135898 => ?_))
      refine wp_of e251 c251_11 (rw_icmp_ge (p1 := 62) (p2 := 14) (by decide) rfl ⟨by omega, by omega⟩ ⟨by omega, by omega⟩ (fun c135899 => ?_) (fun c135899 => ?_))
      · refine wp_of e251 c251_62 (rw_iload_n (pc' := 63) (z := v135888) rfl rfl ?_)
        exact wp_ireturn e251 c251_63 rfl ⟨rfl, w135890, f135895, v135888, rfl, ⟨by omega, by omega⟩⟩
      · refine wp_of e251 c251_14 (rw_aload_n (pc' := 15) (v := .ref r0) rfl rfl rfl ?_)
        refine wp_of e251 c251_15 (rw_aload_n (pc' := 16) (v := .ref r0) rfl rfl rfl ?_)
        refine wp_of e251 c251_16 (xg_R (pc' := 19) lf_9_42 w135890 g0 sh_42 (by decide) (by decide) ty_42_30 rfl rfl (fun r135900 q135901 g135902 => ?_))
        refine wp_of e251 c251_19 (rw_iload (pc' := 21) (z := v135887) rfl rfl ?_)
        refine wp_of e251 c251_21 (xa_I (so := 0) (pc' := 22) w135890 g135902 sh_52 (by decide) (ty_52 _) (by omega) (by omega) rfl (fun b135903 b135904 => ?_))
        have k135905 : wLM H135889 r0 = wLM H r0 := (wLM_fr hW g0 f135891 rfl)
        have k135906 : H135889 r0 3 = H r0 3 := (f135891 r0 3 _ g0 rfl)
        have q135907 : H135889 r0 3 = (pp : Int) := k135906.trans qpp
        refine wp_of e251 c251_22 (xc_V (pc' := 25) (r := r0) (as := [vI (H135889 r135900 (v135887.toNat))]) (st := []) (lm_9_425) rfl rfl (Nat.le_of_ble_eq_true rfl) w135890 g0 sh_42 (by decide) rfl (by decide) (s_243 w135890 g0 ⟨by omega, by omega⟩ q135907 gpp (by omega)) (fun R135908 T135909 H135910 p135911 => ?_))
        obtain ⟨e135912, w135914, f135915, e135913⟩ := p135911
        subst e135912
        subst e135913
        have f135916 := f135895.tr f135915 rfl
        have f135917 := f135891.tr f135915 rfl
        show wp _ _ 251 25 [(4, vI v135887), (3, vI v135888), (0, .ref r0), (1, vI a1), (2, vI a2)] [] _ H135910 _
        refine wp_of e251 c251_25 (rw_iload_n (pc' := 26) (z := v135888) rfl rfl ?_)
        refine wp_of e251 c251_26 (rw_aload_n (pc' := 27) (v := .ref r0) rfl rfl rfl ?_)
        refine wp_of e251 c251_27 (xg_R (pc' := 30) lf_9_33 w135914 g0 sh_42 (by decide) (by decide) ty_42_25 rfl rfl (fun r135918 q135919 g135920 => ?_))
        refine wp_of e251 c251_30 (rw_bipush (pc' := 32) (z := 40) rfl (by decide) ?_)
        refine wp_of e251 c251_32 (rw_iload_n (pc' := 33) (z := a1) rfl rfl ?_)
        refine wp_of e251 c251_33 (rw_imul (pc' := 34) rfl ?_)
        refine wp_of e251 c251_34 (rw_aload_n (pc' := 35) (v := .ref r0) rfl rfl rfl ?_)
        refine wp_of e251 c251_35 (xg_R (pc' := 38) lf_9_39 w135914 g0 sh_42 (by decide) (by decide) ty_42_27 rfl rfl (fun r135921 q135922 g135923 => ?_))
        refine wp_of e251 c251_38 (rw_iload_n (pc' := 39) (z := a1) rfl rfl ?_)
        refine wp_of e251 c251_39 (xa_I (so := 0) (pc' := 40) w135914 g135923 sh_51 (by decide) (ty_51 _) (by omega) (by omega) rfl (fun b135924 b135925 => ?_))
        refine wp_of e251 c251_40 (rw_iadd (pc' := 41) rfl ?_)
        refine wp_of e251 c251_41 (xa_I (so := 0) (pc' := 42) w135914 g135920 sh_49 (by decide) (ty_49 _) (by omega) (by omega) rfl (fun b135926 b135927 => ?_))
        refine wp_of e251 c251_42 (rw_iload_n (pc' := 43) (z := a2) rfl rfl ?_)
        refine wp_of e251 c251_43 (xc_S (pc' := 46) (as := [vI (H135910 r135918 (((40 * a1) + (H135910 r135921 (a1.toNat))).toNat)), vI a2]) (st := [vI v135888]) (lm_9_346) rfl rfl (Nat.le_of_ble_eq_true rfl) rfl (by decide) (s_205 w135914 ⟨by omega, by omega⟩ ⟨by omega, by omega⟩) (fun R135928 T135929 H135930 p135931 => ?_))
        obtain ⟨e135932, e135934, z135935, e135933, b135936⟩ := p135931
        subst e135932
        subst e135933
        subst e135934
        show wp _ _ 251 46 [(4, vI v135887), (3, vI v135888), (0, .ref r0), (1, vI a1), (2, vI a2)] [vI z135935, vI v135888] _ H135910 _
        refine wp_of e251 c251_46 (rw_if_eq (p1 := 53) (p2 := 49) (by decide) rfl ⟨by omega, by omega⟩ (fun c135937 => ?_) (fun c135937 => ?_))
        · refine wp_of e251 c251_53 (rw_iconst (pc' := 54) rfl ?_)
          refine wp_of e251 c251_54 (rw_iadd (pc' := 55) rfl ?_)
          refine wp_of e251 c251_55 (rw_istore_n (pc' := 56) (z := v135888 + 0) (L' := [(3, vI (v135888 + 0)), (4, vI v135887), (0, .ref r0), (1, vI a1), (2, vI a2)]) rfl rfl rfl ?_)
          refine wp_of e251 c251_56 (rw_iinc (pc' := 59) (z := v135887) (L' := [(4, vI (v135887 + 1)), (3, vI (v135888 + 0)), (0, .ref r0), (1, vI a1), (2, vI a2)]) rfl rfl rfl rfl ?_)
          refine wp_of e251 c251_59 (rw_goto (p1 := 5) (by decide) ?_)
          exact wp_lc (ks := [4, 3, 0, 1, 2]) (wl_c rfl (wl_c rfl (wl_c rfl (wl_c rfl (wl_c rfl wl_n))))) rfl (by decide) (ih135886 _ (by omega) (v135887 + 1) (v135888 + 0) H135910 w135914 f135917 ⟨by omega, by omega⟩ ⟨by omega, by omega⟩ rfl)
        · refine wp_of e251 c251_49 (rw_iconst (pc' := 50) rfl ?_)
          refine wp_of e251 c251_50 (rw_goto (p1 := 54) (by decide) ?_)
          refine wp_of e251 c251_54 (rw_iaddw (pc' := 55) rfl ?_)
          obtain ⟨v135938, e135939⟩ : ∃ x : Int, x = wq_w (v135888 + 1) := ⟨_, rfl⟩
          rw [← e135939]
          have b135940 : -2147483648 ≤ v135938 ∧ v135938 ≤ 2147483647 := by
            rw [e135939]
            exact wI_w _
          refine wp_of e251 c251_55 (rw_istore_n (pc' := 56) (z := v135938) (L' := [(3, vI v135938), (4, vI v135887), (0, .ref r0), (1, vI a1), (2, vI a2)]) rfl rfl rfl ?_)
          refine wp_of e251 c251_56 (rw_iinc (pc' := 59) (z := v135887) (L' := [(4, vI (v135887 + 1)), (3, vI v135938), (0, .ref r0), (1, vI a1), (2, vI a2)]) rfl rfl rfl rfl ?_)
          refine wp_of e251 c251_59 (rw_goto (p1 := 5) (by decide) ?_)
          exact wp_lc (ks := [4, 3, 0, 1, 2]) (wl_c rfl (wl_c rfl (wl_c rfl (wl_c rfl (wl_c rfl wl_n))))) rfl (by decide) (ih135886 _ (by omega) (v135887 + 1) v135938 H135910 w135914 f135917 ⟨by omega, by omega⟩ ⟨by omega, by omega⟩ rfl)
  exact wp_lc (ks := [4, 3, 0, 1, 2]) (wl_c rfl (wl_c rfl (wl_c rfl (wl_c rfl (wl_c rfl wl_n))))) rfl (by decide) (lp135884 _ 0 0 H hW wfr.rf ⟨by omega, by omega⟩ ⟨by omega, by omega⟩ rfl)
/-! StrikeAwakeModel.times(II)I -/
theorem e250 : wq_en 250 = some (9, 4, false, some FieldType.int) := rfl
theorem c250_0 : mc_cd 250 0 = some (.aload_n 0, 1) := by decide +kernel
theorem c250_1 : mc_cd 250 1 = some (.iconst 0, 1) := by decide +kernel
theorem c250_2 : mc_cd 250 2 = some (.putfield 48, 3) := by decide +kernel
theorem c250_5 : mc_cd 250 5 = some (.aload_n 0, 1) := by decide +kernel
theorem c250_6 : mc_cd 250 6 = some (.aload_n 0, 1) := by decide +kernel
theorem c250_7 : mc_cd 250 7 = some (.iload_n 1, 1) := by decide +kernel
theorem c250_8 : mc_cd 250 8 = some (.invokevirtual 364, 3) := by decide +kernel
theorem c250_11 : mc_cd 250 11 = some (.ifCond .eq 15, 3) := by decide +kernel
theorem c250_14 : mc_cd 250 14 = some (.aload_n 0, 1) := by decide +kernel
theorem c250_15 : mc_cd 250 15 = some (.iload_n 2, 1) := by decide +kernel
theorem c250_16 : mc_cd 250 16 = some (.invokevirtual 373, 3) := by decide +kernel
theorem c250_19 : mc_cd 250 19 = some (.ifCond .eq 7, 3) := by decide +kernel
theorem c250_22 : mc_cd 250 22 = some (.iconst 1, 1) := by decide +kernel
theorem c250_23 : mc_cd 250 23 = some (.goto 4, 3) := by decide +kernel
theorem c250_26 : mc_cd 250 26 = some (.iconst 0, 1) := by decide +kernel
theorem c250_27 : mc_cd 250 27 = some (.invokevirtual 433, 3) := by decide +kernel
theorem c250_30 : mc_cd 250 30 = some (.istore_n 3, 1) := by decide +kernel
theorem c250_31 : mc_cd 250 31 = some (.iload_n 3, 1) := by decide +kernel
theorem c250_32 : mc_cd 250 32 = some (.ifCond .le 11, 3) := by decide +kernel
theorem c250_35 : mc_cd 250 35 = some (.aload_n 0, 1) := by decide +kernel
theorem c250_36 : mc_cd 250 36 = some (.iload_n 3, 1) := by decide +kernel
theorem c250_37 : mc_cd 250 37 = some (.invokevirtual 54, 3) := by decide +kernel
theorem c250_40 : mc_cd 250 40 = some (.goto 13, 3) := by decide +kernel
theorem c250_43 : mc_cd 250 43 = some (.aload_n 0, 1) := by decide +kernel
theorem c250_44 : mc_cd 250 44 = some (.aload_n 0, 1) := by decide +kernel
theorem c250_45 : mc_cd 250 45 = some (.iload_n 1, 1) := by decide +kernel
theorem c250_46 : mc_cd 250 46 = some (.iload_n 2, 1) := by decide +kernel
theorem c250_47 : mc_cd 250 47 = some (.invokevirtual 444, 3) := by decide +kernel
theorem c250_50 : mc_cd 250 50 = some (.invokevirtual 58, 3) := by decide +kernel
theorem c250_53 : mc_cd 250 53 = some (.ireturn, 1) := by decide +kernel
abbrev q_250 (r0 : Nat) (a1 : Int) (a2 : Int) (T : wq_T) (H : wq_H) : Option Value → wq_T → wq_H → Prop := fun r T' H' => T = T' ∧ WT T H' ∧ wfr [(42, 0), (42, 1), (42, 2), (42, 28), (42, 29), (51, 999), (52, 999)] T H H' ∧ ∃ z : Int, some (vI z) = r ∧ ((-2147483648) ≤ z ∧ z ≤ 2147483647) ∧ (wKI H' r0 = 1)
set_option maxHeartbeats 4000000 in
theorem s_250 {kt : Nat → Option mc_E} {T : wq_T} {H : wq_H} {r0 : Nat} {a1 : Int} {a2 : Int} (hW : WT T H) (g0 : T.2.2.2 r0 = some 42) (i1 : (-2147483648) ≤ a1 ∧ a1 ≤ 2147483647) (i2 : (-2147483648) ≤ a2 ∧ a2 ≤ 2147483647) (p0 : wKI H r0 = 1) : wpc kt 8 250 [.ref r0, vI a1, vI a2] T H (q_250 r0 a1 a2 T H) := by
  refine wp_enter e250 (Nat.le_of_ble_eq_true rfl) rfl ?_
  have f0 : wfr [(42, 0), (42, 1), (42, 2), (42, 28), (42, 29), (51, 999), (52, 999)] T H H := wfr.rf
  show wp _ _ 250 0 [(0, .ref r0), (1, vI a1), (2, vI a2)] [] _ H _
  refine wp_of e250 c250_0 (rw_aload_n (pc' := 1) (v := .ref r0) rfl rfl rfl ?_)
  refine wp_of e250 c250_1 (rw_iconst (pc' := 2) rfl ?_)
  refine wp_of e250 c250_2 (xp_I (pc' := 5) lf_9_48 hW g0 sh_42 (by decide) (by decide) ty_42_0 rfl rfl (by omega) (by omega) ⟨by omega, by omega⟩ rfl (fun H136082 e136083 w136084 => ?_))
  have f136085 := f0.put' e136083 g0 rfl
  have k136086 : H136082 r0 0 = 0 := wq_u_s e136083
  refine wp_of e250 c250_5 (rw_aload_n (pc' := 6) (v := .ref r0) rfl rfl rfl ?_)
  refine wp_of e250 c250_6 (rw_aload_n (pc' := 7) (v := .ref r0) rfl rfl rfl ?_)
  refine wp_of e250 c250_7 (rw_iload_n (pc' := 8) (z := a1) rfl rfl ?_)
  refine wp_of e250 c250_8 (xc_V (pc' := 11) (r := r0) (as := [vI a1]) (st := [.ref r0]) (lm_9_364) rfl rfl (Nat.le_of_ble_eq_true rfl) w136084 g0 sh_42 (by decide) rfl (by decide) (s_213 w136084 g0 ⟨by omega, by omega⟩) (fun R136087 T136088 H136089 p136090 => ?_))
  obtain ⟨e136091, e136093, z136095, e136092, b136096, p136094⟩ := p136090
  subst e136091
  subst e136092
  subst e136093
  show wp _ _ 250 11 [(0, .ref r0), (1, vI a1), (2, vI a2)] [vI z136095, .ref r0] _ H136082 _
  refine wp_of e250 c250_11 (rw_if_eq (p1 := 26) (p2 := 14) (by decide) rfl ⟨by omega, by omega⟩ (fun c136097 => ?_) (fun c136097 => ?_))
  · refine wp_of e250 c250_26 (rw_iconst (pc' := 27) rfl ?_)
    have k136098 : wKI H136082 r0 = wKI H r0 := (wKI_fr hW g0 ((wfr.rf (l := [(42, 0)])).put' e136083 g0 rfl) rfl)
    refine wp_of e250 c250_27 (xc_V (pc' := 30) (r := r0) (as := [vI 0]) (st := []) (lm_9_433) rfl rfl (Nat.le_of_ble_eq_true rfl) w136084 g0 sh_42 (by decide) rfl (by decide) (s_241 w136084 g0 ⟨by omega, by omega⟩ (by omega) (by omega)) (fun R136099 T136100 H136101 p136102 => ?_))
    obtain ⟨e136103, w136105, f136106, z136111, e136104, b136112, p136107, p136108, p136109, p136110⟩ := p136102
    subst e136103
    subst e136104
    have f136113 := f136085.tr f136106 rfl
    show wp _ _ 250 30 [(0, .ref r0), (1, vI a1), (2, vI a2)] [vI z136111] _ H136101 _
    refine wp_of e250 c250_30 (rw_istore_n (pc' := 31) (z := z136111) (L' := [(3, vI z136111), (0, .ref r0), (1, vI a1), (2, vI a2)]) rfl rfl rfl ?_)
    refine wp_of e250 c250_31 (rw_iload_n (pc' := 32) (z := z136111) rfl rfl ?_)
    refine wp_of e250 c250_32 (rw_if_le (p1 := 43) (p2 := 35) (by decide) rfl ⟨by omega, by omega⟩ (fun c136114 => ?_) (fun c136114 => ?_))
    · exfalso
      omega
    · refine wp_of e250 c250_35 (rw_aload_n (pc' := 36) (v := .ref r0) rfl rfl rfl ?_)
      refine wp_of e250 c250_36 (rw_iload_n (pc' := 37) (z := z136111) rfl rfl ?_)
      refine wp_of e250 c250_37 (xc_V (pc' := 40) (r := r0) (as := [vI z136111]) (st := []) (lm_9_54) rfl rfl (Nat.le_of_ble_eq_true rfl) w136105 g0 sh_42 (by decide) rfl (by decide) (s_170 w136105 g0 ⟨by omega, by omega⟩) (fun R136115 T136116 H136117 p136118 => ?_))
      obtain ⟨e136119, w136121, f136122, z136123, e136120, b136124⟩ := p136118
      subst e136119
      subst e136120
      have f136125 := f136113.tr f136122 rfl
      show wp _ _ 250 40 [(3, vI z136111), (0, .ref r0), (1, vI a1), (2, vI a2)] [vI z136123] _ H136117 _
      refine wp_of e250 c250_40 (rw_goto (p1 := 53) (by decide) ?_)
      have k136126 : wKI H136117 r0 = wKI H136101 r0 := (wKI_fr w136105 g0 f136122 rfl)
      exact wp_ireturn e250 c250_53 rfl ⟨rfl, w136121, f136125, z136123, rfl, ⟨by omega, by omega⟩, by omega⟩
  · refine wp_of e250 c250_14 (rw_aload_n (pc' := 15) (v := .ref r0) rfl rfl rfl ?_)
    refine wp_of e250 c250_15 (rw_iload_n (pc' := 16) (z := a2) rfl rfl ?_)
    refine wp_of e250 c250_16 (xc_V (pc' := 19) (r := r0) (as := [vI a2]) (st := [.ref r0]) (lm_9_373) rfl rfl (Nat.le_of_ble_eq_true rfl) w136084 g0 sh_42 (by decide) rfl (by decide) (s_218 w136084 g0 ⟨by omega, by omega⟩) (fun R136127 T136128 H136129 p136130 => ?_))
    obtain ⟨e136131, e136133, z136135, e136132, b136136, p136134⟩ := p136130
    subst e136131
    subst e136132
    subst e136133
    show wp _ _ 250 19 [(0, .ref r0), (1, vI a1), (2, vI a2)] [vI z136135, .ref r0] _ H136082 _
    refine wp_of e250 c250_19 (rw_if_eq (p1 := 26) (p2 := 22) (by decide) rfl ⟨by omega, by omega⟩ (fun c136137 => ?_) (fun c136137 => ?_))
    · refine wp_of e250 c250_26 (rw_iconst (pc' := 27) rfl ?_)
      have k136138 : wKI H136082 r0 = wKI H r0 := (wKI_fr hW g0 ((wfr.rf (l := [(42, 0)])).put' e136083 g0 rfl) rfl)
      refine wp_of e250 c250_27 (xc_V (pc' := 30) (r := r0) (as := [vI 0]) (st := []) (lm_9_433) rfl rfl (Nat.le_of_ble_eq_true rfl) w136084 g0 sh_42 (by decide) rfl (by decide) (s_241 w136084 g0 ⟨by omega, by omega⟩ (by omega) (by omega)) (fun R136139 T136140 H136141 p136142 => ?_))
      obtain ⟨e136143, w136145, f136146, z136151, e136144, b136152, p136147, p136148, p136149, p136150⟩ := p136142
      subst e136143
      subst e136144
      have f136153 := f136085.tr f136146 rfl
      show wp _ _ 250 30 [(0, .ref r0), (1, vI a1), (2, vI a2)] [vI z136151] _ H136141 _
      refine wp_of e250 c250_30 (rw_istore_n (pc' := 31) (z := z136151) (L' := [(3, vI z136151), (0, .ref r0), (1, vI a1), (2, vI a2)]) rfl rfl rfl ?_)
      refine wp_of e250 c250_31 (rw_iload_n (pc' := 32) (z := z136151) rfl rfl ?_)
      refine wp_of e250 c250_32 (rw_if_le (p1 := 43) (p2 := 35) (by decide) rfl ⟨by omega, by omega⟩ (fun c136154 => ?_) (fun c136154 => ?_))
      · exfalso
        omega
      · refine wp_of e250 c250_35 (rw_aload_n (pc' := 36) (v := .ref r0) rfl rfl rfl ?_)
        refine wp_of e250 c250_36 (rw_iload_n (pc' := 37) (z := z136151) rfl rfl ?_)
        refine wp_of e250 c250_37 (xc_V (pc' := 40) (r := r0) (as := [vI z136151]) (st := []) (lm_9_54) rfl rfl (Nat.le_of_ble_eq_true rfl) w136145 g0 sh_42 (by decide) rfl (by decide) (s_170 w136145 g0 ⟨by omega, by omega⟩) (fun R136155 T136156 H136157 p136158 => ?_))
        obtain ⟨e136159, w136161, f136162, z136163, e136160, b136164⟩ := p136158
        subst e136159
        subst e136160
        have f136165 := f136153.tr f136162 rfl
        show wp _ _ 250 40 [(3, vI z136151), (0, .ref r0), (1, vI a1), (2, vI a2)] [vI z136163] _ H136157 _
        refine wp_of e250 c250_40 (rw_goto (p1 := 53) (by decide) ?_)
        have k136166 : wKI H136157 r0 = wKI H136141 r0 := (wKI_fr w136145 g0 f136162 rfl)
        exact wp_ireturn e250 c250_53 rfl ⟨rfl, w136161, f136165, z136163, rfl, ⟨by omega, by omega⟩, by omega⟩
    · refine wp_of e250 c250_22 (rw_iconst (pc' := 23) rfl ?_)
      refine wp_of e250 c250_23 (rw_goto (p1 := 27) (by decide) ?_)
      have k136167 : wKI H136082 r0 = wKI H r0 := (wKI_fr hW g0 ((wfr.rf (l := [(42, 0)])).put' e136083 g0 rfl) rfl)
      refine wp_of e250 c250_27 (xc_V (pc' := 30) (r := r0) (as := [vI 1]) (st := []) (lm_9_433) rfl rfl (Nat.le_of_ble_eq_true rfl) w136084 g0 sh_42 (by decide) rfl (by decide) (s_241 w136084 g0 ⟨by omega, by omega⟩ (by omega) (by omega)) (fun R136168 T136169 H136170 p136171 => ?_))
      obtain ⟨e136172, w136174, f136175, z136180, e136173, b136181, p136176, p136177, p136178, p136179⟩ := p136171
      subst e136172
      subst e136173
      have f136182 := f136085.tr f136175 rfl
      show wp _ _ 250 30 [(0, .ref r0), (1, vI a1), (2, vI a2)] [vI z136180] _ H136170 _
      refine wp_of e250 c250_30 (rw_istore_n (pc' := 31) (z := z136180) (L' := [(3, vI z136180), (0, .ref r0), (1, vI a1), (2, vI a2)]) rfl rfl rfl ?_)
      refine wp_of e250 c250_31 (rw_iload_n (pc' := 32) (z := z136180) rfl rfl ?_)
      refine wp_of e250 c250_32 (rw_if_le (p1 := 43) (p2 := 35) (by decide) rfl ⟨by omega, by omega⟩ (fun c136183 => ?_) (fun c136183 => ?_))
      · refine wp_of e250 c250_43 (rw_aload_n (pc' := 44) (v := .ref r0) rfl rfl rfl ?_)
        refine wp_of e250 c250_44 (rw_aload_n (pc' := 45) (v := .ref r0) rfl rfl rfl ?_)
        refine wp_of e250 c250_45 (rw_iload_n (pc' := 46) (z := a1) rfl rfl ?_)
        refine wp_of e250 c250_46 (rw_iload_n (pc' := 47) (z := a2) rfl rfl ?_)
        have k136184 : H136170 r0 3 = H136082 r0 3 := (f136175 r0 3 _ g0 rfl)
        obtain ⟨r136185, q136186, g136187⟩ := (w136174.opt g0 (t' := 54) (n := 33) (j := 3) (p := 0) (q := 0) rfl (by decide) rfl).resolve_left (by omega)
        refine wp_of e250 c250_47 (xc_V (pc' := 50) (r := r0) (as := [vI a1, vI a2]) (st := [.ref r0]) (lm_9_444) rfl rfl (Nat.le_of_ble_eq_true rfl) w136174 g0 sh_42 (by decide) rfl (by decide) (s_251 w136174 g0 ⟨by omega, by omega⟩ ⟨by omega, by omega⟩ q136186 g136187 (by omega)) (fun R136188 T136189 H136190 p136191 => ?_))
        obtain ⟨e136192, w136194, f136195, z136196, e136193, b136197⟩ := p136191
        subst e136192
        subst e136193
        have f136198 := f136182.tr f136195 rfl
        show wp _ _ 250 50 [(3, vI z136180), (0, .ref r0), (1, vI a1), (2, vI a2)] [vI z136196, .ref r0] _ H136190 _
        refine wp_of e250 c250_50 (xc_V (pc' := 53) (r := r0) (as := [vI z136196]) (st := []) (lm_9_58) rfl rfl (Nat.le_of_ble_eq_true rfl) w136194 g0 sh_42 (by decide) rfl (by decide) (s_209 w136194 g0 ⟨by omega, by omega⟩) (fun R136199 T136200 H136201 p136202 => ?_))
        obtain ⟨e136203, w136205, f136206, z136207, e136204, b136208⟩ := p136202
        subst e136203
        subst e136204
        have f136209 := f136198.tr f136206 rfl
        show wp _ _ 250 53 [(3, vI z136180), (0, .ref r0), (1, vI a1), (2, vI a2)] [vI z136207] _ H136201 _
        have k136210 : wKI H136201 r0 = wKI H136170 r0 := ((wKI_fr w136194 g0 f136206 rfl).trans (wKI_fr w136174 g0 f136195 rfl))
        exact wp_ireturn e250 c250_53 rfl ⟨rfl, w136205, f136209, z136207, rfl, ⟨by omega, by omega⟩, by omega⟩
      · refine wp_of e250 c250_35 (rw_aload_n (pc' := 36) (v := .ref r0) rfl rfl rfl ?_)
        refine wp_of e250 c250_36 (rw_iload_n (pc' := 37) (z := z136180) rfl rfl ?_)
        refine wp_of e250 c250_37 (xc_V (pc' := 40) (r := r0) (as := [vI z136180]) (st := []) (lm_9_54) rfl rfl (Nat.le_of_ble_eq_true rfl) w136174 g0 sh_42 (by decide) rfl (by decide) (s_170 w136174 g0 ⟨by omega, by omega⟩) (fun R136211 T136212 H136213 p136214 => ?_))
        obtain ⟨e136215, w136217, f136218, z136219, e136216, b136220⟩ := p136214
        subst e136215
        subst e136216
        have f136221 := f136182.tr f136218 rfl
        show wp _ _ 250 40 [(3, vI z136180), (0, .ref r0), (1, vI a1), (2, vI a2)] [vI z136219] _ H136213 _
        refine wp_of e250 c250_40 (rw_goto (p1 := 53) (by decide) ?_)
        have k136222 : wKI H136213 r0 = wKI H136170 r0 := (wKI_fr w136174 g0 f136218 rfl)
        exact wp_ireturn e250 c250_53 rfl ⟨rfl, w136217, f136221, z136219, rfl, ⟨by omega, by omega⟩, by omega⟩
/-! StrikeAwakeModel.refusesSome(Z)I -/
theorem e253 : wq_en 253 = some (9, 3, false, some FieldType.int) := rfl
theorem c253_0 : mc_cd 253 0 = some (.aload_n 0, 1) := by decide +kernel
theorem c253_1 : mc_cd 253 1 = some (.iload_n 1, 1) := by decide +kernel
theorem c253_2 : mc_cd 253 2 = some (.invokevirtual 433, 3) := by decide +kernel
theorem c253_5 : mc_cd 253 5 = some (.istore_n 2, 1) := by decide +kernel
theorem c253_6 : mc_cd 253 6 = some (.iload_n 2, 1) := by decide +kernel
theorem c253_7 : mc_cd 253 7 = some (.ifCond .ne 15, 3) := by decide +kernel
theorem c253_10 : mc_cd 253 10 = some (.aload_n 0, 1) := by decide +kernel
theorem c253_11 : mc_cd 253 11 = some (.getfield 422, 3) := by decide +kernel
theorem c253_14 : mc_cd 253 14 = some (.ifCond .ne 8, 3) := by decide +kernel
theorem c253_17 : mc_cd 253 17 = some (.bipush 6, 2) := by decide +kernel
theorem c253_19 : mc_cd 253 19 = some (.goto 4, 3) := by decide +kernel
theorem c253_22 : mc_cd 253 22 = some (.iload_n 2, 1) := by decide +kernel
theorem c253_23 : mc_cd 253 23 = some (.ireturn, 1) := by decide +kernel
abbrev q_253 (r0 : Nat) (a1 : Int) (T : wq_T) (H : wq_H) : Option Value → wq_T → wq_H → Prop := fun r T' H' => T = T' ∧ WT T H' ∧ wfr [(42, 28), (42, 29), (51, 999), (52, 999)] T H H' ∧ ∃ z : Int, some (vI z) = r ∧ (0 ≤ z ∧ z ≤ 6) ∧ (z ≠ 0 ∨ a1 = 1) ∧ (z ≠ 0 ∨ wLM H' r0 ≤ 20000) ∧ (wKI H' r0 = 1) ∧ (z ≠ 0 ∨ (0 < H' r0 29 ∧ 0 < wLM H' r0))
set_option maxHeartbeats 4000000 in
theorem s_253 {kt : Nat → Option mc_E} {T : wq_T} {H : wq_H} {r0 : Nat} {a1 : Int} (hW : WT T H) (g0 : T.2.2.2 r0 = some 42) (i1 : 0 ≤ a1 ∧ a1 ≤ 1) (p0 : a1 = 0 ∨ H r0 3 ≠ -1) (p1 : wKI H r0 = 1) : wpc kt 8 253 [.ref r0, vI a1] T H (q_253 r0 a1 T H) := by
  refine wp_enter e253 (Nat.le_of_ble_eq_true rfl) rfl ?_
  have f0 : wfr [(42, 28), (42, 29), (51, 999), (52, 999)] T H H := wfr.rf
  show wp _ _ 253 0 [(0, .ref r0), (1, vI a1)] [] _ H _
  refine wp_of e253 c253_0 (rw_aload_n (pc' := 1) (v := .ref r0) rfl rfl rfl ?_)
  refine wp_of e253 c253_1 (rw_iload_n (pc' := 2) (z := a1) rfl rfl ?_)
  refine wp_of e253 c253_2 (xc_V (pc' := 5) (r := r0) (as := [vI a1]) (st := []) (lm_9_433) rfl rfl (Nat.le_of_ble_eq_true rfl) hW g0 sh_42 (by decide) rfl (by decide) (s_241 hW g0 ⟨by omega, by omega⟩ (by omega) (by omega)) (fun R136242 T136243 H136244 p136245 => ?_))
  obtain ⟨e136246, w136248, f136249, z136254, e136247, b136255, p136250, p136251, p136252, p136253⟩ := p136245
  subst e136246
  subst e136247
  have f136256 := f0.tr f136249 rfl
  show wp _ _ 253 5 [(0, .ref r0), (1, vI a1)] [vI z136254] _ H136244 _
  refine wp_of e253 c253_5 (rw_istore_n (pc' := 6) (z := z136254) (L' := [(2, vI z136254), (0, .ref r0), (1, vI a1)]) rfl rfl rfl ?_)
  refine wp_of e253 c253_6 (rw_iload_n (pc' := 7) (z := z136254) rfl rfl ?_)
  refine wp_of e253 c253_7 (rw_if_ne (p1 := 22) (p2 := 10) (by decide) rfl ⟨by omega, by omega⟩ (fun c136257 => ?_) (fun c136257 => ?_))
  · refine wp_of e253 c253_22 (rw_iload_n (pc' := 23) (z := z136254) rfl rfl ?_)
    exact wp_ireturn e253 c253_23 rfl ⟨rfl, w136248, f136256, z136254, rfl, ⟨by omega, by omega⟩, by omega, by omega, by omega, by omega⟩
  · refine wp_of e253 c253_10 (rw_aload_n (pc' := 11) (v := .ref r0) rfl rfl rfl ?_)
    refine wp_of e253 c253_11 (xg_I (pc' := 14) lf_9_422 w136248 g0 sh_42 (by decide) (by decide) ty_42_29 rfl rfl (fun b136258 b136259 => ?_))
    refine wp_of e253 c253_14 (rw_if_ne (p1 := 22) (p2 := 17) (by decide) rfl ⟨by omega, by omega⟩ (fun c136260 => ?_) (fun c136260 => ?_))
    · refine wp_of e253 c253_22 (rw_iload_n (pc' := 23) (z := z136254) rfl rfl ?_)
      exact wp_ireturn e253 c253_23 rfl ⟨rfl, w136248, f136256, z136254, rfl, ⟨by omega, by omega⟩, by omega, by omega, by omega, by omega⟩
    · refine wp_of e253 c253_17 (rw_bipush (pc' := 19) (z := 6) rfl (by decide) ?_)
      refine wp_of e253 c253_19 (rw_goto (p1 := 23) (by decide) ?_)
      exact wp_ireturn e253 c253_23 rfl ⟨rfl, w136248, f136256, 6, rfl, ⟨by omega, by omega⟩, by omega, by omega, by omega, by omega⟩
/-! StrikeAwakeModel.sure(II)I -/
theorem e252 : wq_en 252 = some (9, 5, false, some FieldType.int) := rfl
theorem c252_0 : mc_cd 252 0 = some (.aload_n 0, 1) := by decide +kernel
theorem c252_1 : mc_cd 252 1 = some (.iconst 0, 1) := by decide +kernel
theorem c252_2 : mc_cd 252 2 = some (.putfield 48, 3) := by decide +kernel
theorem c252_5 : mc_cd 252 5 = some (.aload_n 0, 1) := by decide +kernel
theorem c252_6 : mc_cd 252 6 = some (.aload_n 0, 1) := by decide +kernel
theorem c252_7 : mc_cd 252 7 = some (.iload_n 1, 1) := by decide +kernel
theorem c252_8 : mc_cd 252 8 = some (.invokevirtual 364, 3) := by decide +kernel
theorem c252_11 : mc_cd 252 11 = some (.ifCond .eq 15, 3) := by decide +kernel
theorem c252_14 : mc_cd 252 14 = some (.aload_n 0, 1) := by decide +kernel
theorem c252_15 : mc_cd 252 15 = some (.iload_n 2, 1) := by decide +kernel
theorem c252_16 : mc_cd 252 16 = some (.invokevirtual 373, 3) := by decide +kernel
theorem c252_19 : mc_cd 252 19 = some (.ifCond .eq 7, 3) := by decide +kernel
theorem c252_22 : mc_cd 252 22 = some (.iconst 1, 1) := by decide +kernel
theorem c252_23 : mc_cd 252 23 = some (.goto 4, 3) := by decide +kernel
theorem c252_26 : mc_cd 252 26 = some (.iconst 0, 1) := by decide +kernel
theorem c252_27 : mc_cd 252 27 = some (.invokevirtual 447, 3) := by decide +kernel
theorem c252_30 : mc_cd 252 30 = some (.istore_n 3, 1) := by decide +kernel
theorem c252_31 : mc_cd 252 31 = some (.iload_n 3, 1) := by decide +kernel
theorem c252_32 : mc_cd 252 32 = some (.ifCond .le 9, 3) := by decide +kernel
theorem c252_35 : mc_cd 252 35 = some (.aload_n 0, 1) := by decide +kernel
theorem c252_36 : mc_cd 252 36 = some (.iload_n 3, 1) := by decide +kernel
theorem c252_37 : mc_cd 252 37 = some (.invokevirtual 54, 3) := by decide +kernel
theorem c252_40 : mc_cd 252 40 = some (.ireturn, 1) := by decide +kernel
theorem c252_41 : mc_cd 252 41 = some (.aload_n 0, 1) := by decide +kernel
theorem c252_42 : mc_cd 252 42 = some (.iload_n 1, 1) := by decide +kernel
theorem c252_43 : mc_cd 252 43 = some (.iload_n 2, 1) := by decide +kernel
theorem c252_44 : mc_cd 252 44 = some (.invokevirtual 444, 3) := by decide +kernel
theorem c252_47 : mc_cd 252 47 = some (.istore 4, 2) := by decide +kernel
theorem c252_49 : mc_cd 252 49 = some (.aload_n 0, 1) := by decide +kernel
theorem c252_50 : mc_cd 252 50 = some (.iload 4, 2) := by decide +kernel
theorem c252_52 : mc_cd 252 52 = some (.aload_n 0, 1) := by decide +kernel
theorem c252_53 : mc_cd 252 53 = some (.getfield 422, 3) := by decide +kernel
theorem c252_56 : mc_cd 252 56 = some (.if_icmp .ne 7, 3) := by decide +kernel
theorem c252_59 : mc_cd 252 59 = some (.iconst 2, 1) := by decide +kernel
theorem c252_60 : mc_cd 252 60 = some (.goto 13, 3) := by decide +kernel
theorem c252_63 : mc_cd 252 63 = some (.iload 4, 2) := by decide +kernel
theorem c252_65 : mc_cd 252 65 = some (.ifCond .ne 7, 3) := by decide +kernel
theorem c252_68 : mc_cd 252 68 = some (.iconst 0, 1) := by decide +kernel
theorem c252_69 : mc_cd 252 69 = some (.goto 4, 3) := by decide +kernel
theorem c252_72 : mc_cd 252 72 = some (.iconst 1, 1) := by decide +kernel
theorem c252_73 : mc_cd 252 73 = some (.invokevirtual 58, 3) := by decide +kernel
theorem c252_76 : mc_cd 252 76 = some (.ireturn, 1) := by decide +kernel
abbrev q_252 (r0 : Nat) (a1 : Int) (a2 : Int) (T : wq_T) (H : wq_H) : Option Value → wq_T → wq_H → Prop := fun r T' H' => T = T' ∧ WT T H' ∧ wfr [(42, 0), (42, 1), (42, 2), (42, 28), (42, 29), (51, 999), (52, 999)] T H H' ∧ ∃ z : Int, some (vI z) = r ∧ ((-2147483648) ≤ z ∧ z ≤ 2147483647) ∧ (wKI H' r0 = 1)
set_option maxHeartbeats 4000000 in
theorem s_252 {kt : Nat → Option mc_E} {T : wq_T} {H : wq_H} {r0 : Nat} {a1 : Int} {a2 : Int} (hW : WT T H) (g0 : T.2.2.2 r0 = some 42) (i1 : (-2147483648) ≤ a1 ∧ a1 ≤ 2147483647) (i2 : (-2147483648) ≤ a2 ∧ a2 ≤ 2147483647) (p0 : wKI H r0 = 1) : wpc kt 9 252 [.ref r0, vI a1, vI a2] T H (q_252 r0 a1 a2 T H) := by
  refine wp_enter e252 (Nat.le_of_ble_eq_true rfl) rfl ?_
  have f0 : wfr [(42, 0), (42, 1), (42, 2), (42, 28), (42, 29), (51, 999), (52, 999)] T H H := wfr.rf
  show wp _ _ 252 0 [(0, .ref r0), (1, vI a1), (2, vI a2)] [] _ H _
  refine wp_of e252 c252_0 (rw_aload_n (pc' := 1) (v := .ref r0) rfl rfl rfl ?_)
  refine wp_of e252 c252_1 (rw_iconst (pc' := 2) rfl ?_)
  refine wp_of e252 c252_2 (xp_I (pc' := 5) lf_9_48 hW g0 sh_42 (by decide) (by decide) ty_42_0 rfl rfl (by omega) (by omega) ⟨by omega, by omega⟩ rfl (fun H136431 e136432 w136433 => ?_))
  have f136434 := f0.put' e136432 g0 rfl
  have k136435 : H136431 r0 0 = 0 := wq_u_s e136432
  refine wp_of e252 c252_5 (rw_aload_n (pc' := 6) (v := .ref r0) rfl rfl rfl ?_)
  refine wp_of e252 c252_6 (rw_aload_n (pc' := 7) (v := .ref r0) rfl rfl rfl ?_)
  refine wp_of e252 c252_7 (rw_iload_n (pc' := 8) (z := a1) rfl rfl ?_)
  refine wp_of e252 c252_8 (xc_V (pc' := 11) (r := r0) (as := [vI a1]) (st := [.ref r0]) (lm_9_364) rfl rfl (Nat.le_of_ble_eq_true rfl) w136433 g0 sh_42 (by decide) rfl (by decide) (s_213 w136433 g0 ⟨by omega, by omega⟩) (fun R136436 T136437 H136438 p136439 => ?_))
  obtain ⟨e136440, e136442, z136444, e136441, b136445, p136443⟩ := p136439
  subst e136440
  subst e136441
  subst e136442
  show wp _ _ 252 11 [(0, .ref r0), (1, vI a1), (2, vI a2)] [vI z136444, .ref r0] _ H136431 _
  refine wp_of e252 c252_11 (rw_if_eq (p1 := 26) (p2 := 14) (by decide) rfl ⟨by omega, by omega⟩ (fun c136446 => ?_) (fun c136446 => ?_))
  · refine wp_of e252 c252_26 (rw_iconst (pc' := 27) rfl ?_)
    have k136447 : wKI H136431 r0 = wKI H r0 := (wKI_fr hW g0 ((wfr.rf (l := [(42, 0)])).put' e136432 g0 rfl) rfl)
    refine wp_of e252 c252_27 (xc_V (pc' := 30) (r := r0) (as := [vI 0]) (st := []) (lm_9_447) rfl rfl (Nat.le_of_ble_eq_true rfl) w136433 g0 sh_42 (by decide) rfl (by decide) (s_253 w136433 g0 ⟨by omega, by omega⟩ (by omega) (by omega)) (fun R136448 T136449 H136450 p136451 => ?_))
    obtain ⟨e136452, w136454, f136455, z136460, e136453, b136461, p136456, p136457, p136458, p136459⟩ := p136451
    subst e136452
    subst e136453
    have f136462 := f136434.tr f136455 rfl
    show wp _ _ 252 30 [(0, .ref r0), (1, vI a1), (2, vI a2)] [vI z136460] _ H136450 _
    refine wp_of e252 c252_30 (rw_istore_n (pc' := 31) (z := z136460) (L' := [(3, vI z136460), (0, .ref r0), (1, vI a1), (2, vI a2)]) rfl rfl rfl ?_)
    refine wp_of e252 c252_31 (rw_iload_n (pc' := 32) (z := z136460) rfl rfl ?_)
    refine wp_of e252 c252_32 (rw_if_le (p1 := 41) (p2 := 35) (by decide) rfl ⟨by omega, by omega⟩ (fun c136463 => ?_) (fun c136463 => ?_))
    · exfalso
      omega
    · refine wp_of e252 c252_35 (rw_aload_n (pc' := 36) (v := .ref r0) rfl rfl rfl ?_)
      refine wp_of e252 c252_36 (rw_iload_n (pc' := 37) (z := z136460) rfl rfl ?_)
      refine wp_of e252 c252_37 (xc_V (pc' := 40) (r := r0) (as := [vI z136460]) (st := []) (lm_9_54) rfl rfl (Nat.le_of_ble_eq_true rfl) w136454 g0 sh_42 (by decide) rfl (by decide) (s_170 w136454 g0 ⟨by omega, by omega⟩) (fun R136464 T136465 H136466 p136467 => ?_))
      obtain ⟨e136468, w136470, f136471, z136472, e136469, b136473⟩ := p136467
      subst e136468
      subst e136469
      have f136474 := f136462.tr f136471 rfl
      show wp _ _ 252 40 [(3, vI z136460), (0, .ref r0), (1, vI a1), (2, vI a2)] [vI z136472] _ H136466 _
      have k136475 : wKI H136466 r0 = wKI H136450 r0 := (wKI_fr w136454 g0 f136471 rfl)
      exact wp_ireturn e252 c252_40 rfl ⟨rfl, w136470, f136474, z136472, rfl, ⟨by omega, by omega⟩, by omega⟩
  · refine wp_of e252 c252_14 (rw_aload_n (pc' := 15) (v := .ref r0) rfl rfl rfl ?_)
    refine wp_of e252 c252_15 (rw_iload_n (pc' := 16) (z := a2) rfl rfl ?_)
    refine wp_of e252 c252_16 (xc_V (pc' := 19) (r := r0) (as := [vI a2]) (st := [.ref r0]) (lm_9_373) rfl rfl (Nat.le_of_ble_eq_true rfl) w136433 g0 sh_42 (by decide) rfl (by decide) (s_218 w136433 g0 ⟨by omega, by omega⟩) (fun R136476 T136477 H136478 p136479 => ?_))
    obtain ⟨e136480, e136482, z136484, e136481, b136485, p136483⟩ := p136479
    subst e136480
    subst e136481
    subst e136482
    show wp _ _ 252 19 [(0, .ref r0), (1, vI a1), (2, vI a2)] [vI z136484, .ref r0] _ H136431 _
    refine wp_of e252 c252_19 (rw_if_eq (p1 := 26) (p2 := 22) (by decide) rfl ⟨by omega, by omega⟩ (fun c136486 => ?_) (fun c136486 => ?_))
    · refine wp_of e252 c252_26 (rw_iconst (pc' := 27) rfl ?_)
      have k136487 : wKI H136431 r0 = wKI H r0 := (wKI_fr hW g0 ((wfr.rf (l := [(42, 0)])).put' e136432 g0 rfl) rfl)
      refine wp_of e252 c252_27 (xc_V (pc' := 30) (r := r0) (as := [vI 0]) (st := []) (lm_9_447) rfl rfl (Nat.le_of_ble_eq_true rfl) w136433 g0 sh_42 (by decide) rfl (by decide) (s_253 w136433 g0 ⟨by omega, by omega⟩ (by omega) (by omega)) (fun R136488 T136489 H136490 p136491 => ?_))
      obtain ⟨e136492, w136494, f136495, z136500, e136493, b136501, p136496, p136497, p136498, p136499⟩ := p136491
      subst e136492
      subst e136493
      have f136502 := f136434.tr f136495 rfl
      show wp _ _ 252 30 [(0, .ref r0), (1, vI a1), (2, vI a2)] [vI z136500] _ H136490 _
      refine wp_of e252 c252_30 (rw_istore_n (pc' := 31) (z := z136500) (L' := [(3, vI z136500), (0, .ref r0), (1, vI a1), (2, vI a2)]) rfl rfl rfl ?_)
      refine wp_of e252 c252_31 (rw_iload_n (pc' := 32) (z := z136500) rfl rfl ?_)
      refine wp_of e252 c252_32 (rw_if_le (p1 := 41) (p2 := 35) (by decide) rfl ⟨by omega, by omega⟩ (fun c136503 => ?_) (fun c136503 => ?_))
      · exfalso
        omega
      · refine wp_of e252 c252_35 (rw_aload_n (pc' := 36) (v := .ref r0) rfl rfl rfl ?_)
        refine wp_of e252 c252_36 (rw_iload_n (pc' := 37) (z := z136500) rfl rfl ?_)
        refine wp_of e252 c252_37 (xc_V (pc' := 40) (r := r0) (as := [vI z136500]) (st := []) (lm_9_54) rfl rfl (Nat.le_of_ble_eq_true rfl) w136494 g0 sh_42 (by decide) rfl (by decide) (s_170 w136494 g0 ⟨by omega, by omega⟩) (fun R136504 T136505 H136506 p136507 => ?_))
        obtain ⟨e136508, w136510, f136511, z136512, e136509, b136513⟩ := p136507
        subst e136508
        subst e136509
        have f136514 := f136502.tr f136511 rfl
        show wp _ _ 252 40 [(3, vI z136500), (0, .ref r0), (1, vI a1), (2, vI a2)] [vI z136512] _ H136506 _
        have k136515 : wKI H136506 r0 = wKI H136490 r0 := (wKI_fr w136494 g0 f136511 rfl)
        exact wp_ireturn e252 c252_40 rfl ⟨rfl, w136510, f136514, z136512, rfl, ⟨by omega, by omega⟩, by omega⟩
    · refine wp_of e252 c252_22 (rw_iconst (pc' := 23) rfl ?_)
      refine wp_of e252 c252_23 (rw_goto (p1 := 27) (by decide) ?_)
      have k136516 : wKI H136431 r0 = wKI H r0 := (wKI_fr hW g0 ((wfr.rf (l := [(42, 0)])).put' e136432 g0 rfl) rfl)
      refine wp_of e252 c252_27 (xc_V (pc' := 30) (r := r0) (as := [vI 1]) (st := []) (lm_9_447) rfl rfl (Nat.le_of_ble_eq_true rfl) w136433 g0 sh_42 (by decide) rfl (by decide) (s_253 w136433 g0 ⟨by omega, by omega⟩ (by omega) (by omega)) (fun R136517 T136518 H136519 p136520 => ?_))
      obtain ⟨e136521, w136523, f136524, z136529, e136522, b136530, p136525, p136526, p136527, p136528⟩ := p136520
      subst e136521
      subst e136522
      have f136531 := f136434.tr f136524 rfl
      show wp _ _ 252 30 [(0, .ref r0), (1, vI a1), (2, vI a2)] [vI z136529] _ H136519 _
      refine wp_of e252 c252_30 (rw_istore_n (pc' := 31) (z := z136529) (L' := [(3, vI z136529), (0, .ref r0), (1, vI a1), (2, vI a2)]) rfl rfl rfl ?_)
      refine wp_of e252 c252_31 (rw_iload_n (pc' := 32) (z := z136529) rfl rfl ?_)
      refine wp_of e252 c252_32 (rw_if_le (p1 := 41) (p2 := 35) (by decide) rfl ⟨by omega, by omega⟩ (fun c136532 => ?_) (fun c136532 => ?_))
      · refine wp_of e252 c252_41 (rw_aload_n (pc' := 42) (v := .ref r0) rfl rfl rfl ?_)
        refine wp_of e252 c252_42 (rw_iload_n (pc' := 43) (z := a1) rfl rfl ?_)
        refine wp_of e252 c252_43 (rw_iload_n (pc' := 44) (z := a2) rfl rfl ?_)
        have k136533 : H136519 r0 3 = H136431 r0 3 := (f136524 r0 3 _ g0 rfl)
        obtain ⟨r136534, q136535, g136536⟩ := (w136523.opt g0 (t' := 54) (n := 33) (j := 3) (p := 0) (q := 0) rfl (by decide) rfl).resolve_left (by omega)
        refine wp_of e252 c252_44 (xc_V (pc' := 47) (r := r0) (as := [vI a1, vI a2]) (st := []) (lm_9_444) rfl rfl (Nat.le_of_ble_eq_true rfl) w136523 g0 sh_42 (by decide) rfl (by decide) (s_251 w136523 g0 ⟨by omega, by omega⟩ ⟨by omega, by omega⟩ q136535 g136536 (by omega)) (fun R136537 T136538 H136539 p136540 => ?_))
        obtain ⟨e136541, w136543, f136544, z136545, e136542, b136546⟩ := p136540
        subst e136541
        subst e136542
        have f136547 := f136531.tr f136544 rfl
        show wp _ _ 252 47 [(3, vI z136529), (0, .ref r0), (1, vI a1), (2, vI a2)] [vI z136545] _ H136539 _
        refine wp_of e252 c252_47 (rw_istore (pc' := 49) (z := z136545) (L' := [(4, vI z136545), (3, vI z136529), (0, .ref r0), (1, vI a1), (2, vI a2)]) rfl rfl rfl ?_)
        refine wp_of e252 c252_49 (rw_aload_n (pc' := 50) (v := .ref r0) rfl rfl rfl ?_)
        refine wp_of e252 c252_50 (rw_iload (pc' := 52) (z := z136545) rfl rfl ?_)
        refine wp_of e252 c252_52 (rw_aload_n (pc' := 53) (v := .ref r0) rfl rfl rfl ?_)
        have k136548 : H136539 r0 29 = H136519 r0 29 := (f136544 r0 29 _ g0 rfl)
        refine wp_of e252 c252_53 (xg_I (pc' := 56) lf_9_422 w136543 g0 sh_42 (by decide) (by decide) ty_42_29 rfl rfl (fun b136549 b136550 => ?_))
        refine wp_of e252 c252_56 (rw_icmp_ne (p1 := 63) (p2 := 59) (by decide) rfl ⟨by omega, by omega⟩ ⟨by omega, by omega⟩ (fun c136551 => ?_) (fun c136551 => ?_))
        · refine wp_of e252 c252_63 (rw_iload (pc' := 65) (z := z136545) rfl rfl ?_)
          refine wp_of e252 c252_65 (rw_if_ne (p1 := 72) (p2 := 68) (by decide) rfl ⟨by omega, by omega⟩ (fun c136552 => ?_) (fun c136552 => ?_))
          · refine wp_of e252 c252_72 (rw_iconst (pc' := 73) rfl ?_)
            refine wp_of e252 c252_73 (xc_V (pc' := 76) (r := r0) (as := [vI 1]) (st := []) (lm_9_58) rfl rfl (Nat.le_of_ble_eq_true rfl) w136543 g0 sh_42 (by decide) rfl (by decide) (s_209 w136543 g0 ⟨by omega, by omega⟩) (fun R136553 T136554 H136555 p136556 => ?_))
            obtain ⟨e136557, w136559, f136560, z136561, e136558, b136562⟩ := p136556
            subst e136557
            subst e136558
            have f136563 := f136547.tr f136560 rfl
            show wp _ _ 252 76 [(4, vI z136545), (3, vI z136529), (0, .ref r0), (1, vI a1), (2, vI a2)] [vI z136561] _ H136555 _
            have k136564 : wKI H136555 r0 = wKI H136519 r0 := ((wKI_fr w136543 g0 f136560 rfl).trans (wKI_fr w136523 g0 f136544 rfl))
            exact wp_ireturn e252 c252_76 rfl ⟨rfl, w136559, f136563, z136561, rfl, ⟨by omega, by omega⟩, by omega⟩
          · refine wp_of e252 c252_68 (rw_iconst (pc' := 69) rfl ?_)
            refine wp_of e252 c252_69 (rw_goto (p1 := 73) (by decide) ?_)
            refine wp_of e252 c252_73 (xc_V (pc' := 76) (r := r0) (as := [vI 0]) (st := []) (lm_9_58) rfl rfl (Nat.le_of_ble_eq_true rfl) w136543 g0 sh_42 (by decide) rfl (by decide) (s_209 w136543 g0 ⟨by omega, by omega⟩) (fun R136565 T136566 H136567 p136568 => ?_))
            obtain ⟨e136569, w136571, f136572, z136573, e136570, b136574⟩ := p136568
            subst e136569
            subst e136570
            have f136575 := f136547.tr f136572 rfl
            show wp _ _ 252 76 [(4, vI z136545), (3, vI z136529), (0, .ref r0), (1, vI a1), (2, vI a2)] [vI z136573] _ H136567 _
            have k136576 : wKI H136567 r0 = wKI H136519 r0 := ((wKI_fr w136543 g0 f136572 rfl).trans (wKI_fr w136523 g0 f136544 rfl))
            exact wp_ireturn e252 c252_76 rfl ⟨rfl, w136571, f136575, z136573, rfl, ⟨by omega, by omega⟩, by omega⟩
        · refine wp_of e252 c252_59 (rw_iconst (pc' := 60) rfl ?_)
          refine wp_of e252 c252_60 (rw_goto (p1 := 73) (by decide) ?_)
          refine wp_of e252 c252_73 (xc_V (pc' := 76) (r := r0) (as := [vI 2]) (st := []) (lm_9_58) rfl rfl (Nat.le_of_ble_eq_true rfl) w136543 g0 sh_42 (by decide) rfl (by decide) (s_209 w136543 g0 ⟨by omega, by omega⟩) (fun R136577 T136578 H136579 p136580 => ?_))
          obtain ⟨e136581, w136583, f136584, z136585, e136582, b136586⟩ := p136580
          subst e136581
          subst e136582
          have f136587 := f136547.tr f136584 rfl
          show wp _ _ 252 76 [(4, vI z136545), (3, vI z136529), (0, .ref r0), (1, vI a1), (2, vI a2)] [vI z136585] _ H136579 _
          have k136588 : wKI H136579 r0 = wKI H136519 r0 := ((wKI_fr w136543 g0 f136584 rfl).trans (wKI_fr w136523 g0 f136544 rfl))
          exact wp_ireturn e252 c252_76 rfl ⟨rfl, w136583, f136587, z136585, rfl, ⟨by omega, by omega⟩, by omega⟩
      · refine wp_of e252 c252_35 (rw_aload_n (pc' := 36) (v := .ref r0) rfl rfl rfl ?_)
        refine wp_of e252 c252_36 (rw_iload_n (pc' := 37) (z := z136529) rfl rfl ?_)
        refine wp_of e252 c252_37 (xc_V (pc' := 40) (r := r0) (as := [vI z136529]) (st := []) (lm_9_54) rfl rfl (Nat.le_of_ble_eq_true rfl) w136523 g0 sh_42 (by decide) rfl (by decide) (s_170 w136523 g0 ⟨by omega, by omega⟩) (fun R136589 T136590 H136591 p136592 => ?_))
        obtain ⟨e136593, w136595, f136596, z136597, e136594, b136598⟩ := p136592
        subst e136593
        subst e136594
        have f136599 := f136531.tr f136596 rfl
        show wp _ _ 252 40 [(3, vI z136529), (0, .ref r0), (1, vI a1), (2, vI a2)] [vI z136597] _ H136591 _
        have k136600 : wKI H136591 r0 = wKI H136519 r0 := (wKI_fr w136523 g0 f136596 rfl)
        exact wp_ireturn e252 c252_40 rfl ⟨rfl, w136595, f136599, z136597, rfl, ⟨by omega, by omega⟩, by omega⟩
/-! StrikeAwakeModel.surely(IZ)I -/
theorem e254 : wq_en 254 = some (9, 6, false, some FieldType.int) := rfl
theorem c254_0 : mc_cd 254 0 = some (.aload_n 0, 1) := by decide +kernel
theorem c254_1 : mc_cd 254 1 = some (.iconst 0, 1) := by decide +kernel
theorem c254_2 : mc_cd 254 2 = some (.putfield 48, 3) := by decide +kernel
theorem c254_5 : mc_cd 254 5 = some (.aload_n 0, 1) := by decide +kernel
theorem c254_6 : mc_cd 254 6 = some (.aload_n 0, 1) := by decide +kernel
theorem c254_7 : mc_cd 254 7 = some (.iload_n 1, 1) := by decide +kernel
theorem c254_8 : mc_cd 254 8 = some (.invokevirtual 373, 3) := by decide +kernel
theorem c254_11 : mc_cd 254 11 = some (.invokevirtual 447, 3) := by decide +kernel
theorem c254_14 : mc_cd 254 14 = some (.istore_n 3, 1) := by decide +kernel
theorem c254_15 : mc_cd 254 15 = some (.iload_n 3, 1) := by decide +kernel
theorem c254_16 : mc_cd 254 16 = some (.ifCond .le 9, 3) := by decide +kernel
theorem c254_19 : mc_cd 254 19 = some (.aload_n 0, 1) := by decide +kernel
theorem c254_20 : mc_cd 254 20 = some (.iload_n 3, 1) := by decide +kernel
theorem c254_21 : mc_cd 254 21 = some (.invokevirtual 54, 3) := by decide +kernel
theorem c254_24 : mc_cd 254 24 = some (.ireturn, 1) := by decide +kernel
theorem c254_25 : mc_cd 254 25 = some (.iconst 0, 1) := by decide +kernel
theorem c254_26 : mc_cd 254 26 = some (.istore 4, 2) := by decide +kernel
theorem c254_28 : mc_cd 254 28 = some (.iconst 0, 1) := by decide +kernel
theorem c254_29 : mc_cd 254 29 = some (.istore 5, 2) := by decide +kernel
theorem c254_31 : mc_cd 254 31 = some (.iload 5, 2) := by decide +kernel
theorem c254_33 : mc_cd 254 33 = some (.aload_n 0, 1) := by decide +kernel
theorem c254_34 : mc_cd 254 34 = some (.getfield 337, 3) := by decide +kernel
theorem c254_37 : mc_cd 254 37 = some (.getfield 188, 3) := by decide +kernel
theorem c254_40 : mc_cd 254 40 = some (.if_icmp .ge 44, 3) := by decide +kernel
theorem c254_43 : mc_cd 254 43 = some (.iload 4, 2) := by decide +kernel
theorem c254_45 : mc_cd 254 45 = some (.aload_n 0, 1) := by decide +kernel
theorem c254_46 : mc_cd 254 46 = some (.iload 5, 2) := by decide +kernel
theorem c254_48 : mc_cd 254 48 = some (.iload_n 1, 1) := by decide +kernel
theorem c254_49 : mc_cd 254 49 = some (.invokevirtual 444, 3) := by decide +kernel
theorem c254_52 : mc_cd 254 52 = some (.iload_n 2, 1) := by decide +kernel
theorem c254_53 : mc_cd 254 53 = some (.ifCond .eq 10, 3) := by decide +kernel
theorem c254_56 : mc_cd 254 56 = some (.aload_n 0, 1) := by decide +kernel
theorem c254_57 : mc_cd 254 57 = some (.getfield 422, 3) := by decide +kernel
theorem c254_60 : mc_cd 254 60 = some (.goto 4, 3) := by decide +kernel
theorem c254_63 : mc_cd 254 63 = some (.iconst 0, 1) := by decide +kernel
theorem c254_64 : mc_cd 254 64 = some (.if_icmp .ne 10, 3) := by decide +kernel
theorem c254_67 : mc_cd 254 67 = some (.iconst 1, 1) := by decide +kernel
theorem c254_68 : mc_cd 254 68 = some (.iload 5, 2) := by decide +kernel
theorem c254_70 : mc_cd 254 70 = some (.ishl, 1) := by decide +kernel
theorem c254_71 : mc_cd 254 71 = some (.goto 4, 3) := by decide +kernel
theorem c254_74 : mc_cd 254 74 = some (.iconst 0, 1) := by decide +kernel
theorem c254_75 : mc_cd 254 75 = some (.ior, 1) := by decide +kernel
theorem c254_76 : mc_cd 254 76 = some (.istore 4, 2) := by decide +kernel
theorem c254_78 : mc_cd 254 78 = some (.iinc 5 1, 3) := by decide +kernel
theorem c254_81 : mc_cd 254 81 = some (.goto (-50), 3) := by decide +kernel
theorem c254_84 : mc_cd 254 84 = some (.aload_n 0, 1) := by decide +kernel
theorem c254_85 : mc_cd 254 85 = some (.iload 4, 2) := by decide +kernel
theorem c254_87 : mc_cd 254 87 = some (.invokevirtual 58, 3) := by decide +kernel
theorem c254_90 : mc_cd 254 90 = some (.ireturn, 1) := by decide +kernel
abbrev q_254 (r0 : Nat) (a1 : Int) (a2 : Int) (T : wq_T) (H : wq_H) : Option Value → wq_T → wq_H → Prop := fun r T' H' => T = T' ∧ WT T H' ∧ wfr [(42, 0), (42, 1), (42, 2), (42, 28), (42, 29), (51, 999), (52, 999)] T H H' ∧ ∃ z : Int, some (vI z) = r ∧ ((-2147483648) ≤ z ∧ z ≤ 2147483647) ∧ (wKI H' r0 = 1)
set_option maxHeartbeats 4000000 in
theorem s_254 {kt : Nat → Option mc_E} {T : wq_T} {H : wq_H} {r0 : Nat} {a1 : Int} {a2 : Int} (hW : WT T H) (g0 : T.2.2.2 r0 = some 42) (i1 : (-2147483648) ≤ a1 ∧ a1 ≤ 2147483647) (i2 : 0 ≤ a2 ∧ a2 ≤ 1) (p0 : wKI H r0 = 1) : wpc kt 9 254 [.ref r0, vI a1, vI a2] T H (q_254 r0 a1 a2 T H) := by
  refine wp_enter e254 (Nat.le_of_ble_eq_true rfl) rfl ?_
  have f0 : wfr [(42, 0), (42, 1), (42, 2), (42, 28), (42, 29), (51, 999), (52, 999)] T H H := wfr.rf
  show wp _ _ 254 0 [(0, .ref r0), (1, vI a1), (2, vI a2)] [] _ H _
  refine wp_of e254 c254_0 (rw_aload_n (pc' := 1) (v := .ref r0) rfl rfl rfl ?_)
  refine wp_of e254 c254_1 (rw_iconst (pc' := 2) rfl ?_)
  refine wp_of e254 c254_2 (xp_I (pc' := 5) lf_9_48 hW g0 sh_42 (by decide) (by decide) ty_42_0 rfl rfl (by omega) (by omega) ⟨by omega, by omega⟩ rfl (fun H136962 e136963 w136964 => ?_))
  have f136965 := f0.put' e136963 g0 rfl
  have k136966 : H136962 r0 0 = 0 := wq_u_s e136963
  refine wp_of e254 c254_5 (rw_aload_n (pc' := 6) (v := .ref r0) rfl rfl rfl ?_)
  refine wp_of e254 c254_6 (rw_aload_n (pc' := 7) (v := .ref r0) rfl rfl rfl ?_)
  refine wp_of e254 c254_7 (rw_iload_n (pc' := 8) (z := a1) rfl rfl ?_)
  refine wp_of e254 c254_8 (xc_V (pc' := 11) (r := r0) (as := [vI a1]) (st := [.ref r0]) (lm_9_373) rfl rfl (Nat.le_of_ble_eq_true rfl) w136964 g0 sh_42 (by decide) rfl (by decide) (s_218 w136964 g0 ⟨by omega, by omega⟩) (fun R136967 T136968 H136969 p136970 => ?_))
  obtain ⟨e136971, e136973, z136975, e136972, b136976, p136974⟩ := p136970
  subst e136971
  subst e136972
  subst e136973
  show wp _ _ 254 11 [(0, .ref r0), (1, vI a1), (2, vI a2)] [vI z136975, .ref r0] _ H136962 _
  have k136977 : wKI H136962 r0 = wKI H r0 := (wKI_fr hW g0 ((wfr.rf (l := [(42, 0)])).put' e136963 g0 rfl) rfl)
  refine wp_of e254 c254_11 (xc_V (pc' := 14) (r := r0) (as := [vI z136975]) (st := []) (lm_9_447) rfl rfl (Nat.le_of_ble_eq_true rfl) w136964 g0 sh_42 (by decide) rfl (by decide) (s_253 w136964 g0 ⟨by omega, by omega⟩ (by omega) (by omega)) (fun R136978 T136979 H136980 p136981 => ?_))
  obtain ⟨e136982, w136984, f136985, z136990, e136983, b136991, p136986, p136987, p136988, p136989⟩ := p136981
  subst e136982
  subst e136983
  have f136992 := f136965.tr f136985 rfl
  show wp _ _ 254 14 [(0, .ref r0), (1, vI a1), (2, vI a2)] [vI z136990] _ H136980 _
  refine wp_of e254 c254_14 (rw_istore_n (pc' := 15) (z := z136990) (L' := [(3, vI z136990), (0, .ref r0), (1, vI a1), (2, vI a2)]) rfl rfl rfl ?_)
  refine wp_of e254 c254_15 (rw_iload_n (pc' := 16) (z := z136990) rfl rfl ?_)
  refine wp_of e254 c254_16 (rw_if_le (p1 := 25) (p2 := 19) (by decide) rfl ⟨by omega, by omega⟩ (fun c136993 => ?_) (fun c136993 => ?_))
  · refine wp_of e254 c254_25 (rw_iconst (pc' := 26) rfl ?_)
    refine wp_of e254 c254_26 (rw_istore (pc' := 28) (z := 0) (L' := [(4, vI 0), (3, vI z136990), (0, .ref r0), (1, vI a1), (2, vI a2)]) rfl rfl rfl ?_)
    refine wp_of e254 c254_28 (rw_iconst (pc' := 29) rfl ?_)
    refine wp_of e254 c254_29 (rw_istore (pc' := 31) (z := 0) (L' := [(5, vI 0), (4, vI 0), (3, vI z136990), (0, .ref r0), (1, vI a1), (2, vI a2)]) rfl rfl rfl ?_)
    have lp137260 : ∀ (n137261 : Nat) (v137263 : Int) (v137264 : Int) (H137265 : wq_H), WT T H137265 → wfr [(51, 999)] T H136980 H137265 → (0 ≤ v137263 ∧ v137263 ≤ 6) → (0 ≤ v137264 ∧ v137264 ≤ 16777215) → (6 - v137263).toNat = n137261 → wp kt 8 254 31 [(5, vI v137263), (4, vI v137264), (0, .ref r0), (1, vI a1), (2, vI a2)] [] T H137265 (q_254 r0 a1 a2 T H) := by
      intro n137261
      induction n137261 using Nat.strongRecOn with
      | _ n137261 ih137262 =>
        intro v137263 v137264 H137265 w137266 f137267 b137268 b137269 m137270
        have f137271 := f136992.tr f137267 rfl
        refine wp_of e254 c254_31 (rw_iload (pc' := 33) (z := v137263) rfl rfl ?_)
        refine wp_of e254 c254_33 (rw_aload_n (pc' := 34) (v := .ref r0) rfl rfl rfl ?_)
        have k137272 : H137265 r0 3 = H136962 r0 3 := ((f137267 r0 3 _ g0 rfl).trans (f136985 r0 3 _ g0 rfl))
        refine wp_of e254 c254_34 (xg_O (pc' := 37) lf_9_337 w137266 g0 sh_42 (by decide) (by decide) ty_42_3 rfl rfl (fun q137274 => ?_) (fun r137273 q137274 g137275 => ?_))
        · exfalso
          omega
        · refine wp_of e254 c254_37 (xg_I (pc' := 40) lf_9_188 w137266 g137275 sh_54 (by decide) (by decide) ty_54_3 rfl rfl (fun b137276 b137277 => ?_))
          refine wp_of e254 c254_40 (rw_icmp_ge (p1 := 84) (p2 := 43) (by decide) rfl ⟨by omega, by omega⟩ ⟨by omega, by omega⟩ (fun c137278 => ?_) (fun c137278 => ?_))
          · refine wp_of e254 c254_84 (rw_aload_n (pc' := 85) (v := .ref r0) rfl rfl rfl ?_)
            refine wp_of e254 c254_85 (rw_iload (pc' := 87) (z := v137264) rfl rfl ?_)
            refine wp_of e254 c254_87 (xc_V (pc' := 90) (r := r0) (as := [vI v137264]) (st := []) (lm_9_58) rfl rfl (Nat.le_of_ble_eq_true rfl) w137266 g0 sh_42 (by decide) rfl (by decide) (s_209 w137266 g0 ⟨by omega, by omega⟩) (fun R137279 T137280 H137281 p137282 => ?_))
            obtain ⟨e137283, w137285, f137286, z137287, e137284, b137288⟩ := p137282
            subst e137283
            subst e137284
            have f137289 := f137271.tr f137286 rfl
            show wp _ _ 254 90 [(5, vI v137263), (4, vI v137264), (0, .ref r0), (1, vI a1), (2, vI a2)] [vI z137287] _ H137281 _
            have k137290 : wKI H137281 r0 = wKI H136980 r0 := ((wKI_fr w137266 g0 f137286 rfl).trans (wKI_fr w136984 g0 f137267 rfl))
            exact wp_ireturn e254 c254_90 rfl ⟨rfl, w137285, f137289, z137287, rfl, ⟨by omega, by omega⟩, by omega⟩
          · refine wp_of e254 c254_43 (rw_iload (pc' := 45) (z := v137264) rfl rfl ?_)
            refine wp_of e254 c254_45 (rw_aload_n (pc' := 46) (v := .ref r0) rfl rfl rfl ?_)
            refine wp_of e254 c254_46 (rw_iload (pc' := 48) (z := v137263) rfl rfl ?_)
            refine wp_of e254 c254_48 (rw_iload_n (pc' := 49) (z := a1) rfl rfl ?_)
            have k137291 : H137265 r0 29 = H136980 r0 29 := (f137267 r0 29 _ g0 rfl)
            have k137292 : wLM H137265 r0 = wLM H136980 r0 := (wLM_fr w136984 g0 f137267 rfl)
            refine wp_of e254 c254_49 (xc_V (pc' := 52) (r := r0) (as := [vI v137263, vI a1]) (st := [vI v137264]) (lm_9_444) rfl rfl (Nat.le_of_ble_eq_true rfl) w137266 g0 sh_42 (by decide) rfl (by decide) (s_251 w137266 g0 ⟨by omega, by omega⟩ ⟨by omega, by omega⟩ q137274 g137275 (by omega)) (fun R137293 T137294 H137295 p137296 => ?_))
            obtain ⟨e137297, w137299, f137300, z137301, e137298, b137302⟩ := p137296
            subst e137297
            subst e137298
            have f137303 := f137271.tr f137300 rfl
            have f137304 := f137267.tr f137300 rfl
            show wp _ _ 254 52 [(5, vI v137263), (4, vI v137264), (0, .ref r0), (1, vI a1), (2, vI a2)] [vI z137301, vI v137264] _ H137295 _
            refine wp_of e254 c254_52 (rw_iload_n (pc' := 53) (z := a2) rfl rfl ?_)
            refine wp_of e254 c254_53 (rw_if_eq (p1 := 63) (p2 := 56) (by decide) rfl ⟨by omega, by omega⟩ (fun c137305 => ?_) (fun c137305 => ?_))
            · refine wp_of e254 c254_63 (rw_iconst (pc' := 64) rfl ?_)
              refine wp_of e254 c254_64 (rw_icmp_ne (p1 := 74) (p2 := 67) (by decide) rfl ⟨by omega, by omega⟩ ⟨by omega, by omega⟩ (fun c137306 => ?_) (fun c137306 => ?_))
              · refine wp_of e254 c254_74 (rw_iconst (pc' := 75) rfl ?_)
                refine wp_of e254 c254_75 (rw_ior (pc' := 76) rfl ?_)
                obtain ⟨v137307, e137308⟩ : ∃ x : Int, x = wq_or v137264 0 := ⟨_, rfl⟩
                rw [← e137308]
                have b137309 : 0 ≤ v137307 ∧ v137307 ≤ 16777215 := by
                  rw [e137308]
                  exact wq_or_24 ⟨by omega, by omega⟩ ⟨by omega, by omega⟩
                refine wp_of e254 c254_76 (rw_istore (pc' := 78) (z := v137307) (L' := [(4, vI v137307), (5, vI v137263), (0, .ref r0), (1, vI a1), (2, vI a2)]) rfl rfl rfl ?_)
                refine wp_of e254 c254_78 (rw_iinc (pc' := 81) (z := v137263) (L' := [(5, vI (v137263 + 1)), (4, vI v137307), (0, .ref r0), (1, vI a1), (2, vI a2)]) rfl rfl rfl rfl ?_)
                refine wp_of e254 c254_81 (rw_goto (p1 := 31) (by decide) ?_)
                exact wp_lc (ks := [5, 4, 0, 1, 2]) (wl_c rfl (wl_c rfl (wl_c rfl (wl_c rfl (wl_c rfl wl_n))))) rfl (by decide) (ih137262 _ (by omega) (v137263 + 1) v137307 H137295 w137299 f137304 ⟨by omega, by omega⟩ ⟨by omega, by omega⟩ rfl)
              · refine wp_of e254 c254_67 (rw_iconst (pc' := 68) rfl ?_)
                refine wp_of e254 c254_68 (rw_iload (pc' := 70) (z := v137263) rfl rfl ?_)
                refine wp_of e254 c254_70 (rw_ishl (pc' := 71) rfl ?_)
                obtain ⟨v137310, e137311⟩ : ∃ x : Int, x = wq_shl 1 v137263 := ⟨_, rfl⟩
                rw [← e137311]
                have b137312 : 1 ≤ v137310 ∧ v137310 ≤ 64 := by
                  rw [e137311]
                  exact wq_shl1_6 ⟨by omega, by omega⟩
                refine wp_of e254 c254_71 (rw_goto (p1 := 75) (by decide) ?_)
                refine wp_of e254 c254_75 (rw_ior (pc' := 76) rfl ?_)
                obtain ⟨v137313, e137314⟩ : ∃ x : Int, x = wq_or v137264 v137310 := ⟨_, rfl⟩
                rw [← e137314]
                have b137315 : 0 ≤ v137313 ∧ v137313 ≤ 16777215 := by
                  rw [e137314]
                  exact wq_or_24 ⟨by omega, by omega⟩ ⟨by omega, by omega⟩
                refine wp_of e254 c254_76 (rw_istore (pc' := 78) (z := v137313) (L' := [(4, vI v137313), (5, vI v137263), (0, .ref r0), (1, vI a1), (2, vI a2)]) rfl rfl rfl ?_)
                refine wp_of e254 c254_78 (rw_iinc (pc' := 81) (z := v137263) (L' := [(5, vI (v137263 + 1)), (4, vI v137313), (0, .ref r0), (1, vI a1), (2, vI a2)]) rfl rfl rfl rfl ?_)
                refine wp_of e254 c254_81 (rw_goto (p1 := 31) (by decide) ?_)
                exact wp_lc (ks := [5, 4, 0, 1, 2]) (wl_c rfl (wl_c rfl (wl_c rfl (wl_c rfl (wl_c rfl wl_n))))) rfl (by decide) (ih137262 _ (by omega) (v137263 + 1) v137313 H137295 w137299 f137304 ⟨by omega, by omega⟩ ⟨by omega, by omega⟩ rfl)
            · refine wp_of e254 c254_56 (rw_aload_n (pc' := 57) (v := .ref r0) rfl rfl rfl ?_)
              have k137316 : H137295 r0 29 = H137265 r0 29 := (f137300 r0 29 _ g0 rfl)
              refine wp_of e254 c254_57 (xg_I (pc' := 60) lf_9_422 w137299 g0 sh_42 (by decide) (by decide) ty_42_29 rfl rfl (fun b137317 b137318 => ?_))
              refine wp_of e254 c254_60 (rw_goto (p1 := 64) (by decide) ?_)
              refine wp_of e254 c254_64 (rw_icmp_ne (p1 := 74) (p2 := 67) (by decide) rfl ⟨by omega, by omega⟩ ⟨by omega, by omega⟩ (fun c137319 => ?_) (fun c137319 => ?_))
              · refine wp_of e254 c254_74 (rw_iconst (pc' := 75) rfl ?_)
                refine wp_of e254 c254_75 (rw_ior (pc' := 76) rfl ?_)
                obtain ⟨v137320, e137321⟩ : ∃ x : Int, x = wq_or v137264 0 := ⟨_, rfl⟩
                rw [← e137321]
                have b137322 : 0 ≤ v137320 ∧ v137320 ≤ 16777215 := by
                  rw [e137321]
                  exact wq_or_24 ⟨by omega, by omega⟩ ⟨by omega, by omega⟩
                refine wp_of e254 c254_76 (rw_istore (pc' := 78) (z := v137320) (L' := [(4, vI v137320), (5, vI v137263), (0, .ref r0), (1, vI a1), (2, vI a2)]) rfl rfl rfl ?_)
                refine wp_of e254 c254_78 (rw_iinc (pc' := 81) (z := v137263) (L' := [(5, vI (v137263 + 1)), (4, vI v137320), (0, .ref r0), (1, vI a1), (2, vI a2)]) rfl rfl rfl rfl ?_)
                refine wp_of e254 c254_81 (rw_goto (p1 := 31) (by decide) ?_)
                exact wp_lc (ks := [5, 4, 0, 1, 2]) (wl_c rfl (wl_c rfl (wl_c rfl (wl_c rfl (wl_c rfl wl_n))))) rfl (by decide) (ih137262 _ (by omega) (v137263 + 1) v137320 H137295 w137299 f137304 ⟨by omega, by omega⟩ ⟨by omega, by omega⟩ rfl)
              · refine wp_of e254 c254_67 (rw_iconst (pc' := 68) rfl ?_)
                refine wp_of e254 c254_68 (rw_iload (pc' := 70) (z := v137263) rfl rfl ?_)
                refine wp_of e254 c254_70 (rw_ishl (pc' := 71) rfl ?_)
                obtain ⟨v137323, e137324⟩ : ∃ x : Int, x = wq_shl 1 v137263 := ⟨_, rfl⟩
                rw [← e137324]
                have b137325 : 1 ≤ v137323 ∧ v137323 ≤ 64 := by
                  rw [e137324]
                  exact wq_shl1_6 ⟨by omega, by omega⟩
                refine wp_of e254 c254_71 (rw_goto (p1 := 75) (by decide) ?_)
                refine wp_of e254 c254_75 (rw_ior (pc' := 76) rfl ?_)
                obtain ⟨v137326, e137327⟩ : ∃ x : Int, x = wq_or v137264 v137323 := ⟨_, rfl⟩
                rw [← e137327]
                have b137328 : 0 ≤ v137326 ∧ v137326 ≤ 16777215 := by
                  rw [e137327]
                  exact wq_or_24 ⟨by omega, by omega⟩ ⟨by omega, by omega⟩
                refine wp_of e254 c254_76 (rw_istore (pc' := 78) (z := v137326) (L' := [(4, vI v137326), (5, vI v137263), (0, .ref r0), (1, vI a1), (2, vI a2)]) rfl rfl rfl ?_)
                refine wp_of e254 c254_78 (rw_iinc (pc' := 81) (z := v137263) (L' := [(5, vI (v137263 + 1)), (4, vI v137326), (0, .ref r0), (1, vI a1), (2, vI a2)]) rfl rfl rfl rfl ?_)
                refine wp_of e254 c254_81 (rw_goto (p1 := 31) (by decide) ?_)
                exact wp_lc (ks := [5, 4, 0, 1, 2]) (wl_c rfl (wl_c rfl (wl_c rfl (wl_c rfl (wl_c rfl wl_n))))) rfl (by decide) (ih137262 _ (by omega) (v137263 + 1) v137326 H137295 w137299 f137304 ⟨by omega, by omega⟩ ⟨by omega, by omega⟩ rfl)
    exact wp_lc (ks := [5, 4, 3, 0, 1, 2]) (wl_c rfl (wl_c rfl (wl_c rfl (wl_c rfl (wl_c rfl wl_n))))) rfl (by decide) (lp137260 _ 0 0 H136980 w136984 wfr.rf ⟨by omega, by omega⟩ ⟨by omega, by omega⟩ rfl)
  · refine wp_of e254 c254_19 (rw_aload_n (pc' := 20) (v := .ref r0) rfl rfl rfl ?_)
    refine wp_of e254 c254_20 (rw_iload_n (pc' := 21) (z := z136990) rfl rfl ?_)
    refine wp_of e254 c254_21 (xc_V (pc' := 24) (r := r0) (as := [vI z136990]) (st := []) (lm_9_54) rfl rfl (Nat.le_of_ble_eq_true rfl) w136984 g0 sh_42 (by decide) rfl (by decide) (s_170 w136984 g0 ⟨by omega, by omega⟩) (fun R137329 T137330 H137331 p137332 => ?_))
    obtain ⟨e137333, w137335, f137336, z137337, e137334, b137338⟩ := p137332
    subst e137333
    subst e137334
    have f137339 := f136992.tr f137336 rfl
    show wp _ _ 254 24 [(3, vI z136990), (0, .ref r0), (1, vI a1), (2, vI a2)] [vI z137337] _ H137331 _
    have k137340 : wKI H137331 r0 = wKI H136980 r0 := (wKI_fr w136984 g0 f137336 rfl)
    exact wp_ireturn e254 c254_24 rfl ⟨rfl, w137335, f137339, z137337, rfl, ⟨by omega, by omega⟩, by omega⟩
/-! StrikeAwakeModel.chance(II)I -/
theorem e255 : wq_en 255 = some (9, 4, false, some FieldType.int) := rfl
theorem c255_0 : mc_cd 255 0 = some (.aload_n 0, 1) := by decide +kernel
theorem c255_1 : mc_cd 255 1 = some (.iconst 0, 1) := by decide +kernel
theorem c255_2 : mc_cd 255 2 = some (.putfield 48, 3) := by decide +kernel
theorem c255_5 : mc_cd 255 5 = some (.aload_n 0, 1) := by decide +kernel
theorem c255_6 : mc_cd 255 6 = some (.aload_n 0, 1) := by decide +kernel
theorem c255_7 : mc_cd 255 7 = some (.iload_n 1, 1) := by decide +kernel
theorem c255_8 : mc_cd 255 8 = some (.invokevirtual 364, 3) := by decide +kernel
theorem c255_11 : mc_cd 255 11 = some (.ifCond .eq 15, 3) := by decide +kernel
theorem c255_14 : mc_cd 255 14 = some (.aload_n 0, 1) := by decide +kernel
theorem c255_15 : mc_cd 255 15 = some (.iload_n 2, 1) := by decide +kernel
theorem c255_16 : mc_cd 255 16 = some (.invokevirtual 373, 3) := by decide +kernel
theorem c255_19 : mc_cd 255 19 = some (.ifCond .eq 7, 3) := by decide +kernel
theorem c255_22 : mc_cd 255 22 = some (.iconst 1, 1) := by decide +kernel
theorem c255_23 : mc_cd 255 23 = some (.goto 4, 3) := by decide +kernel
theorem c255_26 : mc_cd 255 26 = some (.iconst 0, 1) := by decide +kernel
theorem c255_27 : mc_cd 255 27 = some (.invokevirtual 447, 3) := by decide +kernel
theorem c255_30 : mc_cd 255 30 = some (.istore_n 3, 1) := by decide +kernel
theorem c255_31 : mc_cd 255 31 = some (.iload_n 3, 1) := by decide +kernel
theorem c255_32 : mc_cd 255 32 = some (.ifCond .le 11, 3) := by decide +kernel
theorem c255_35 : mc_cd 255 35 = some (.aload_n 0, 1) := by decide +kernel
theorem c255_36 : mc_cd 255 36 = some (.iload_n 3, 1) := by decide +kernel
theorem c255_37 : mc_cd 255 37 = some (.invokevirtual 54, 3) := by decide +kernel
theorem c255_40 : mc_cd 255 40 = some (.goto 25, 3) := by decide +kernel
theorem c255_43 : mc_cd 255 43 = some (.aload_n 0, 1) := by decide +kernel
theorem c255_44 : mc_cd 255 44 = some (.ldc2_w 450, 3) := by decide +kernel
theorem c255_47 : mc_cd 255 47 = some (.aload_n 0, 1) := by decide +kernel
theorem c255_48 : mc_cd 255 48 = some (.iload_n 1, 1) := by decide +kernel
theorem c255_49 : mc_cd 255 49 = some (.iload_n 2, 1) := by decide +kernel
theorem c255_50 : mc_cd 255 50 = some (.invokevirtual 440, 3) := by decide +kernel
theorem c255_53 : mc_cd 255 53 = some (.lmul, 1) := by decide +kernel
theorem c255_54 : mc_cd 255 54 = some (.aload_n 0, 1) := by decide +kernel
theorem c255_55 : mc_cd 255 55 = some (.iconst (-1), 1) := by decide +kernel
theorem c255_56 : mc_cd 255 56 = some (.iconst 0, 1) := by decide +kernel
theorem c255_57 : mc_cd 255 57 = some (.invokevirtual 440, 3) := by decide +kernel
theorem c255_60 : mc_cd 255 60 = some (.ldiv, 1) := by decide +kernel
theorem c255_61 : mc_cd 255 61 = some (.l2i, 1) := by decide +kernel
theorem c255_62 : mc_cd 255 62 = some (.invokevirtual 58, 3) := by decide +kernel
theorem c255_65 : mc_cd 255 65 = some (.ireturn, 1) := by decide +kernel
abbrev q_255 (r0 : Nat) (a1 : Int) (a2 : Int) (T : wq_T) (H : wq_H) : Option Value → wq_T → wq_H → Prop := fun r T' H' => T = T' ∧ WT T H' ∧ wfr [(42, 0), (42, 1), (42, 2), (42, 28), (42, 29), (51, 999), (52, 999)] T H H' ∧ ∃ z : Int, some (vI z) = r ∧ ((-2147483648) ≤ z ∧ z ≤ 2147483647) ∧ (wKI H' r0 = 1)
set_option maxHeartbeats 4000000 in
theorem s_255 {kt : Nat → Option mc_E} {T : wq_T} {H : wq_H} {r0 : Nat} {a1 : Int} {a2 : Int} (hW : WT T H) (g0 : T.2.2.2 r0 = some 42) (i1 : (-2147483648) ≤ a1 ∧ a1 ≤ 2147483647) (i2 : (-2147483648) ≤ a2 ∧ a2 ≤ 2147483647) (p0 : wKI H r0 = 1) : wpc kt 9 255 [.ref r0, vI a1, vI a2] T H (q_255 r0 a1 a2 T H) := by
  refine wp_enter e255 (Nat.le_of_ble_eq_true rfl) rfl ?_
  have f0 : wfr [(42, 0), (42, 1), (42, 2), (42, 28), (42, 29), (51, 999), (52, 999)] T H H := wfr.rf
  show wp _ _ 255 0 [(0, .ref r0), (1, vI a1), (2, vI a2)] [] _ H _
  refine wp_of e255 c255_0 (rw_aload_n (pc' := 1) (v := .ref r0) rfl rfl rfl ?_)
  refine wp_of e255 c255_1 (rw_iconst (pc' := 2) rfl ?_)
  refine wp_of e255 c255_2 (xp_I (pc' := 5) lf_9_48 hW g0 sh_42 (by decide) (by decide) ty_42_0 rfl rfl (by omega) (by omega) ⟨by omega, by omega⟩ rfl (fun H137503 e137504 w137505 => ?_))
  have f137506 := f0.put' e137504 g0 rfl
  have k137507 : H137503 r0 0 = 0 := wq_u_s e137504
  refine wp_of e255 c255_5 (rw_aload_n (pc' := 6) (v := .ref r0) rfl rfl rfl ?_)
  refine wp_of e255 c255_6 (rw_aload_n (pc' := 7) (v := .ref r0) rfl rfl rfl ?_)
  refine wp_of e255 c255_7 (rw_iload_n (pc' := 8) (z := a1) rfl rfl ?_)
  refine wp_of e255 c255_8 (xc_V (pc' := 11) (r := r0) (as := [vI a1]) (st := [.ref r0]) (lm_9_364) rfl rfl (Nat.le_of_ble_eq_true rfl) w137505 g0 sh_42 (by decide) rfl (by decide) (s_213 w137505 g0 ⟨by omega, by omega⟩) (fun R137508 T137509 H137510 p137511 => ?_))
  obtain ⟨e137512, e137514, z137516, e137513, b137517, p137515⟩ := p137511
  subst e137512
  subst e137513
  subst e137514
  show wp _ _ 255 11 [(0, .ref r0), (1, vI a1), (2, vI a2)] [vI z137516, .ref r0] _ H137503 _
  refine wp_of e255 c255_11 (rw_if_eq (p1 := 26) (p2 := 14) (by decide) rfl ⟨by omega, by omega⟩ (fun c137518 => ?_) (fun c137518 => ?_))
  · refine wp_of e255 c255_26 (rw_iconst (pc' := 27) rfl ?_)
    have k137519 : wKI H137503 r0 = wKI H r0 := (wKI_fr hW g0 ((wfr.rf (l := [(42, 0)])).put' e137504 g0 rfl) rfl)
    refine wp_of e255 c255_27 (xc_V (pc' := 30) (r := r0) (as := [vI 0]) (st := []) (lm_9_447) rfl rfl (Nat.le_of_ble_eq_true rfl) w137505 g0 sh_42 (by decide) rfl (by decide) (s_253 w137505 g0 ⟨by omega, by omega⟩ (by omega) (by omega)) (fun R137520 T137521 H137522 p137523 => ?_))
    obtain ⟨e137524, w137526, f137527, z137532, e137525, b137533, p137528, p137529, p137530, p137531⟩ := p137523
    subst e137524
    subst e137525
    have f137534 := f137506.tr f137527 rfl
    show wp _ _ 255 30 [(0, .ref r0), (1, vI a1), (2, vI a2)] [vI z137532] _ H137522 _
    refine wp_of e255 c255_30 (rw_istore_n (pc' := 31) (z := z137532) (L' := [(3, vI z137532), (0, .ref r0), (1, vI a1), (2, vI a2)]) rfl rfl rfl ?_)
    refine wp_of e255 c255_31 (rw_iload_n (pc' := 32) (z := z137532) rfl rfl ?_)
    refine wp_of e255 c255_32 (rw_if_le (p1 := 43) (p2 := 35) (by decide) rfl ⟨by omega, by omega⟩ (fun c137535 => ?_) (fun c137535 => ?_))
    · exfalso
      omega
    · refine wp_of e255 c255_35 (rw_aload_n (pc' := 36) (v := .ref r0) rfl rfl rfl ?_)
      refine wp_of e255 c255_36 (rw_iload_n (pc' := 37) (z := z137532) rfl rfl ?_)
      refine wp_of e255 c255_37 (xc_V (pc' := 40) (r := r0) (as := [vI z137532]) (st := []) (lm_9_54) rfl rfl (Nat.le_of_ble_eq_true rfl) w137526 g0 sh_42 (by decide) rfl (by decide) (s_170 w137526 g0 ⟨by omega, by omega⟩) (fun R137536 T137537 H137538 p137539 => ?_))
      obtain ⟨e137540, w137542, f137543, z137544, e137541, b137545⟩ := p137539
      subst e137540
      subst e137541
      have f137546 := f137534.tr f137543 rfl
      show wp _ _ 255 40 [(3, vI z137532), (0, .ref r0), (1, vI a1), (2, vI a2)] [vI z137544] _ H137538 _
      refine wp_of e255 c255_40 (rw_goto (p1 := 65) (by decide) ?_)
      have k137547 : wKI H137538 r0 = wKI H137522 r0 := (wKI_fr w137526 g0 f137543 rfl)
      exact wp_ireturn e255 c255_65 rfl ⟨rfl, w137542, f137546, z137544, rfl, ⟨by omega, by omega⟩, by omega⟩
  · refine wp_of e255 c255_14 (rw_aload_n (pc' := 15) (v := .ref r0) rfl rfl rfl ?_)
    refine wp_of e255 c255_15 (rw_iload_n (pc' := 16) (z := a2) rfl rfl ?_)
    refine wp_of e255 c255_16 (xc_V (pc' := 19) (r := r0) (as := [vI a2]) (st := [.ref r0]) (lm_9_373) rfl rfl (Nat.le_of_ble_eq_true rfl) w137505 g0 sh_42 (by decide) rfl (by decide) (s_218 w137505 g0 ⟨by omega, by omega⟩) (fun R137548 T137549 H137550 p137551 => ?_))
    obtain ⟨e137552, e137554, z137556, e137553, b137557, p137555⟩ := p137551
    subst e137552
    subst e137553
    subst e137554
    show wp _ _ 255 19 [(0, .ref r0), (1, vI a1), (2, vI a2)] [vI z137556, .ref r0] _ H137503 _
    refine wp_of e255 c255_19 (rw_if_eq (p1 := 26) (p2 := 22) (by decide) rfl ⟨by omega, by omega⟩ (fun c137558 => ?_) (fun c137558 => ?_))
    · refine wp_of e255 c255_26 (rw_iconst (pc' := 27) rfl ?_)
      have k137559 : wKI H137503 r0 = wKI H r0 := (wKI_fr hW g0 ((wfr.rf (l := [(42, 0)])).put' e137504 g0 rfl) rfl)
      refine wp_of e255 c255_27 (xc_V (pc' := 30) (r := r0) (as := [vI 0]) (st := []) (lm_9_447) rfl rfl (Nat.le_of_ble_eq_true rfl) w137505 g0 sh_42 (by decide) rfl (by decide) (s_253 w137505 g0 ⟨by omega, by omega⟩ (by omega) (by omega)) (fun R137560 T137561 H137562 p137563 => ?_))
      obtain ⟨e137564, w137566, f137567, z137572, e137565, b137573, p137568, p137569, p137570, p137571⟩ := p137563
      subst e137564
      subst e137565
      have f137574 := f137506.tr f137567 rfl
      show wp _ _ 255 30 [(0, .ref r0), (1, vI a1), (2, vI a2)] [vI z137572] _ H137562 _
      refine wp_of e255 c255_30 (rw_istore_n (pc' := 31) (z := z137572) (L' := [(3, vI z137572), (0, .ref r0), (1, vI a1), (2, vI a2)]) rfl rfl rfl ?_)
      refine wp_of e255 c255_31 (rw_iload_n (pc' := 32) (z := z137572) rfl rfl ?_)
      refine wp_of e255 c255_32 (rw_if_le (p1 := 43) (p2 := 35) (by decide) rfl ⟨by omega, by omega⟩ (fun c137575 => ?_) (fun c137575 => ?_))
      · exfalso
        omega
      · refine wp_of e255 c255_35 (rw_aload_n (pc' := 36) (v := .ref r0) rfl rfl rfl ?_)
        refine wp_of e255 c255_36 (rw_iload_n (pc' := 37) (z := z137572) rfl rfl ?_)
        refine wp_of e255 c255_37 (xc_V (pc' := 40) (r := r0) (as := [vI z137572]) (st := []) (lm_9_54) rfl rfl (Nat.le_of_ble_eq_true rfl) w137566 g0 sh_42 (by decide) rfl (by decide) (s_170 w137566 g0 ⟨by omega, by omega⟩) (fun R137576 T137577 H137578 p137579 => ?_))
        obtain ⟨e137580, w137582, f137583, z137584, e137581, b137585⟩ := p137579
        subst e137580
        subst e137581
        have f137586 := f137574.tr f137583 rfl
        show wp _ _ 255 40 [(3, vI z137572), (0, .ref r0), (1, vI a1), (2, vI a2)] [vI z137584] _ H137578 _
        refine wp_of e255 c255_40 (rw_goto (p1 := 65) (by decide) ?_)
        have k137587 : wKI H137578 r0 = wKI H137562 r0 := (wKI_fr w137566 g0 f137583 rfl)
        exact wp_ireturn e255 c255_65 rfl ⟨rfl, w137582, f137586, z137584, rfl, ⟨by omega, by omega⟩, by omega⟩
    · refine wp_of e255 c255_22 (rw_iconst (pc' := 23) rfl ?_)
      refine wp_of e255 c255_23 (rw_goto (p1 := 27) (by decide) ?_)
      have k137588 : wKI H137503 r0 = wKI H r0 := (wKI_fr hW g0 ((wfr.rf (l := [(42, 0)])).put' e137504 g0 rfl) rfl)
      refine wp_of e255 c255_27 (xc_V (pc' := 30) (r := r0) (as := [vI 1]) (st := []) (lm_9_447) rfl rfl (Nat.le_of_ble_eq_true rfl) w137505 g0 sh_42 (by decide) rfl (by decide) (s_253 w137505 g0 ⟨by omega, by omega⟩ (by omega) (by omega)) (fun R137589 T137590 H137591 p137592 => ?_))
      obtain ⟨e137593, w137595, f137596, z137601, e137594, b137602, p137597, p137598, p137599, p137600⟩ := p137592
      subst e137593
      subst e137594
      have f137603 := f137506.tr f137596 rfl
      show wp _ _ 255 30 [(0, .ref r0), (1, vI a1), (2, vI a2)] [vI z137601] _ H137591 _
      refine wp_of e255 c255_30 (rw_istore_n (pc' := 31) (z := z137601) (L' := [(3, vI z137601), (0, .ref r0), (1, vI a1), (2, vI a2)]) rfl rfl rfl ?_)
      refine wp_of e255 c255_31 (rw_iload_n (pc' := 32) (z := z137601) rfl rfl ?_)
      refine wp_of e255 c255_32 (rw_if_le (p1 := 43) (p2 := 35) (by decide) rfl ⟨by omega, by omega⟩ (fun c137604 => ?_) (fun c137604 => ?_))
      · refine wp_of e255 c255_43 (rw_aload_n (pc' := 44) (v := .ref r0) rfl rfl rfl ?_)
        refine wp_of e255 c255_44 (rw_ldc2 (pc' := 47) (z := 100) rfl rfl rfl ?_)
        refine wp_of e255 c255_47 (rw_aload_n (pc' := 48) (v := .ref r0) rfl rfl rfl ?_)
        refine wp_of e255 c255_48 (rw_iload_n (pc' := 49) (z := a1) rfl rfl ?_)
        refine wp_of e255 c255_49 (rw_iload_n (pc' := 50) (z := a2) rfl rfl ?_)
        have k137605 : H137591 r0 3 = H137503 r0 3 := (f137596 r0 3 _ g0 rfl)
        obtain ⟨r137606, q137607, g137608⟩ := (w137595.opt g0 (t' := 54) (n := 33) (j := 3) (p := 0) (q := 0) rfl (by decide) rfl).resolve_left (by omega)
        refine wp_of e255 c255_50 (xc_V (pc' := 53) (r := r0) (as := [vI a1, vI a2]) (st := [vL 100, .ref r0]) (lm_9_440) rfl rfl (Nat.le_of_ble_eq_true rfl) w137595 g0 sh_42 (by decide) rfl (by decide) (s_247 w137595 g0 ⟨by omega, by omega⟩ ⟨by omega, by omega⟩ q137607 g137608 (by omega)) (fun R137609 T137610 H137611 p137612 => ?_))
        obtain ⟨e137613, w137615, f137616, z137618, e137614, b137619, p137617⟩ := p137612
        subst e137613
        subst e137614
        have f137620 := f137603.tr f137616 rfl
        show wp _ _ 255 53 [(3, vI z137601), (0, .ref r0), (1, vI a1), (2, vI a2)] [vL z137618, vL 100, .ref r0] _ H137611 _
        refine wp_of e255 c255_53 (rw_lmul (pc' := 54) rfl ?_)
        refine wp_of e255 c255_54 (rw_aload_n (pc' := 55) (v := .ref r0) rfl rfl rfl ?_)
        refine wp_of e255 c255_55 (rw_iconst (pc' := 56) rfl ?_)
        refine wp_of e255 c255_56 (rw_iconst (pc' := 57) rfl ?_)
        have k137621 : H137611 r0 29 = H137591 r0 29 := (f137616 r0 29 _ g0 rfl)
        have k137622 : wLM H137611 r0 = wLM H137591 r0 := (wLM_fr w137595 g0 f137616 rfl)
        have k137623 : H137611 r0 3 = H137591 r0 3 := (f137616 r0 3 _ g0 rfl)
        have q137624 : H137611 r0 3 = (r137606 : Int) := k137623.trans q137607
        refine wp_of e255 c255_57 (xc_V (pc' := 60) (r := r0) (as := [vI (-1), vI 0]) (st := [vL (100 * z137618), .ref r0]) (lm_9_440) rfl rfl (Nat.le_of_ble_eq_true rfl) w137615 g0 sh_42 (by decide) rfl (by decide) (s_247 w137615 g0 ⟨by omega, by omega⟩ ⟨by omega, by omega⟩ q137624 g137608 (by omega)) (fun R137625 T137626 H137627 p137628 => ?_))
        obtain ⟨e137629, w137631, f137632, z137634, e137630, b137635, p137633⟩ := p137628
        subst e137629
        subst e137630
        have f137636 := f137620.tr f137632 rfl
        show wp _ _ 255 60 [(3, vI z137601), (0, .ref r0), (1, vI a1), (2, vI a2)] [vL z137634, vL (100 * z137618), .ref r0] _ H137627 _
        refine wp_of e255 c255_60 (rw_ldiv (pc' := 61) rfl ⟨by omega, by omega⟩ (by omega) ?_)
        obtain ⟨v137637, e137638⟩ : ∃ x : Int, x = wl_div (100 * z137618) z137634 := ⟨_, rfl⟩
        rw [← e137638]
        have b137639 : -9223372036854775808 ≤ v137637 ∧ v137637 ≤ 9223372036854775807 := by
          rw [e137638]
          exact wL_div _ _
        refine wp_of e255 c255_61 (rw_l2i (pc' := 62) rfl ?_)
        obtain ⟨v137640, e137641⟩ : ∃ x : Int, x = wq_w v137637 := ⟨_, rfl⟩
        rw [← e137641]
        have b137642 : -2147483648 ≤ v137640 ∧ v137640 ≤ 2147483647 := by
          rw [e137641]
          exact wI_w _
        have b137643 : (-2147483648 ≤ v137637 ∧ v137637 ≤ 2147483647) → v137640 = v137637 := by
          rw [e137641]
          exact fun h => wq_w_id h
        refine wp_of e255 c255_62 (xc_V (pc' := 65) (r := r0) (as := [vI v137640]) (st := []) (lm_9_58) rfl rfl (Nat.le_of_ble_eq_true rfl) w137631 g0 sh_42 (by decide) rfl (by decide) (s_209 w137631 g0 ⟨by omega, by omega⟩) (fun R137644 T137645 H137646 p137647 => ?_))
        obtain ⟨e137648, w137650, f137651, z137652, e137649, b137653⟩ := p137647
        subst e137648
        subst e137649
        have f137654 := f137636.tr f137651 rfl
        show wp _ _ 255 65 [(3, vI z137601), (0, .ref r0), (1, vI a1), (2, vI a2)] [vI z137652] _ H137646 _
        have k137655 : wKI H137646 r0 = wKI H137591 r0 := ((wKI_fr w137631 g0 f137651 rfl).trans ((wKI_fr w137615 g0 f137632 rfl).trans (wKI_fr w137595 g0 f137616 rfl)))
        exact wp_ireturn e255 c255_65 rfl ⟨rfl, w137650, f137654, z137652, rfl, ⟨by omega, by omega⟩, by omega⟩
      · refine wp_of e255 c255_35 (rw_aload_n (pc' := 36) (v := .ref r0) rfl rfl rfl ?_)
        refine wp_of e255 c255_36 (rw_iload_n (pc' := 37) (z := z137601) rfl rfl ?_)
        refine wp_of e255 c255_37 (xc_V (pc' := 40) (r := r0) (as := [vI z137601]) (st := []) (lm_9_54) rfl rfl (Nat.le_of_ble_eq_true rfl) w137595 g0 sh_42 (by decide) rfl (by decide) (s_170 w137595 g0 ⟨by omega, by omega⟩) (fun R137656 T137657 H137658 p137659 => ?_))
        obtain ⟨e137660, w137662, f137663, z137664, e137661, b137665⟩ := p137659
        subst e137660
        subst e137661
        have f137666 := f137603.tr f137663 rfl
        show wp _ _ 255 40 [(3, vI z137601), (0, .ref r0), (1, vI a1), (2, vI a2)] [vI z137664] _ H137658 _
        refine wp_of e255 c255_40 (rw_goto (p1 := 65) (by decide) ?_)
        have k137667 : wKI H137658 r0 = wKI H137591 r0 := (wKI_fr w137595 g0 f137663 rfl)
        exact wp_ireturn e255 c255_65 rfl ⟨rfl, w137662, f137666, z137664, rfl, ⟨by omega, by omega⟩, by omega⟩
/-! StrikeAwakeModel.findLikeliest()J -/
theorem e257 : wq_en 257 = some (9, 5, false, some FieldType.long) := rfl
theorem c257_0 : mc_cd 257 0 = some (.iconst (-1), 1) := by decide +kernel
theorem c257_1 : mc_cd 257 1 = some (.istore_n 1, 1) := by decide +kernel
theorem c257_2 : mc_cd 257 2 = some (.lconst 0, 1) := by decide +kernel
theorem c257_3 : mc_cd 257 3 = some (.lstore_n 2, 1) := by decide +kernel
theorem c257_4 : mc_cd 257 4 = some (.iconst 0, 1) := by decide +kernel
theorem c257_5 : mc_cd 257 5 = some (.istore 4, 2) := by decide +kernel
theorem c257_7 : mc_cd 257 7 = some (.iload 4, 2) := by decide +kernel
theorem c257_9 : mc_cd 257 9 = some (.aload_n 0, 1) := by decide +kernel
theorem c257_10 : mc_cd 257 10 = some (.getfield 422, 3) := by decide +kernel
theorem c257_13 : mc_cd 257 13 = some (.if_icmp .ge 40, 3) := by decide +kernel
theorem c257_16 : mc_cd 257 16 = some (.aload_n 0, 1) := by decide +kernel
theorem c257_17 : mc_cd 257 17 = some (.aload_n 0, 1) := by decide +kernel
theorem c257_18 : mc_cd 257 18 = some (.getfield 42, 3) := by decide +kernel
theorem c257_21 : mc_cd 257 21 = some (.iload 4, 2) := by decide +kernel
theorem c257_23 : mc_cd 257 23 = some (.iaload, 1) := by decide +kernel
theorem c257_24 : mc_cd 257 24 = some (.invokevirtual 425, 3) := by decide +kernel
theorem c257_27 : mc_cd 257 27 = some (.aload_n 0, 1) := by decide +kernel
theorem c257_28 : mc_cd 257 28 = some (.invokevirtual 437, 3) := by decide +kernel
theorem c257_31 : mc_cd 257 31 = some (.lload_n 2, 1) := by decide +kernel
theorem c257_32 : mc_cd 257 32 = some (.lcmp, 1) := by decide +kernel
theorem c257_33 : mc_cd 257 33 = some (.ifCond .gt 6, 3) := by decide +kernel
theorem c257_36 : mc_cd 257 36 = some (.goto 11, 3) := by decide +kernel
theorem c257_39 : mc_cd 257 39 = some (.aload_n 0, 1) := by decide +kernel
theorem c257_40 : mc_cd 257 40 = some (.invokevirtual 437, 3) := by decide +kernel
theorem c257_43 : mc_cd 257 43 = some (.lstore_n 2, 1) := by decide +kernel
theorem c257_44 : mc_cd 257 44 = some (.iload 4, 2) := by decide +kernel
theorem c257_46 : mc_cd 257 46 = some (.istore_n 1, 1) := by decide +kernel
theorem c257_47 : mc_cd 257 47 = some (.iinc 4 1, 3) := by decide +kernel
theorem c257_50 : mc_cd 257 50 = some (.goto (-43), 3) := by decide +kernel
theorem c257_53 : mc_cd 257 53 = some (.aload_n 0, 1) := by decide +kernel
theorem c257_54 : mc_cd 257 54 = some (.aload_n 0, 1) := by decide +kernel
theorem c257_55 : mc_cd 257 55 = some (.getfield 42, 3) := by decide +kernel
theorem c257_58 : mc_cd 257 58 = some (.iload_n 1, 1) := by decide +kernel
theorem c257_59 : mc_cd 257 59 = some (.iaload, 1) := by decide +kernel
theorem c257_60 : mc_cd 257 60 = some (.invokevirtual 425, 3) := by decide +kernel
theorem c257_63 : mc_cd 257 63 = some (.lload_n 2, 1) := by decide +kernel
theorem c257_64 : mc_cd 257 64 = some (.lreturn, 1) := by decide +kernel
abbrev q_257 (r0 : Nat) (pp : Nat) (T : wq_T) (H : wq_H) : Option Value → wq_T → wq_H → Prop := fun r T' H' => T = T' ∧ WT T H' ∧ wfr [(51, 999)] T H H' ∧ ∃ z : Int, some (vL z) = r ∧ (0 ≤ z ∧ z ≤ 1000000)
set_option maxHeartbeats 4000000 in
theorem s_257 {kt : Nat → Option mc_E} {T : wq_T} {H : wq_H} {r0 : Nat} {pp : Nat} (hW : WT T H) (g0 : T.2.2.2 r0 = some 42) (qpp : H r0 3 = (pp : Int)) (gpp : T.2.2.2 pp = some 54) (p0 : H r0 29 = 0 ∨ 0 < wLM H r0) (p1 : 0 < H r0 29) : wpc kt 3 257 [.ref r0] T H (q_257 r0 pp T H) := by
  refine wp_enter e257 (Nat.le_of_ble_eq_true rfl) rfl ?_
  have f0 : wfr [(51, 999)] T H H := wfr.rf
  show wp _ _ 257 0 [(0, .ref r0)] [] _ H _
  refine wp_of e257 c257_0 (rw_iconst (pc' := 1) rfl ?_)
  refine wp_of e257 c257_1 (rw_istore_n (pc' := 2) (z := -1) (L' := [(1, vI (-1)), (0, .ref r0)]) rfl rfl rfl ?_)
  refine wp_of e257 c257_2 (rw_lconst (pc' := 3) (z := 0) rfl rfl ?_)
  refine wp_of e257 c257_3 (rw_lstore_n (pc' := 4) (z := 0) (L' := [(2, vL 0), (1, vI (-1)), (0, .ref r0)]) rfl rfl rfl ?_)
  refine wp_of e257 c257_4 (rw_iconst (pc' := 5) rfl ?_)
  refine wp_of e257 c257_5 (rw_istore (pc' := 7) (z := 0) (L' := [(4, vI 0), (2, vL 0), (1, vI (-1)), (0, .ref r0)]) rfl rfl rfl ?_)
  have lp138417 : ∀ (n138418 : Nat) (v138420 : Int) (v138421 : Int) (v138422 : Int) (H138423 : wq_H), WT T H138423 → wfr [(51, 999)] T H H138423 → (0 ≤ v138420 ∧ v138420 ≤ 20000) → (0 ≤ v138421 ∧ v138421 ≤ 1000000) → ((-1) ≤ v138422 ∧ v138422 ≤ 2147483647) → (0 ≤ v138422 ∨ (v138420 = 0 ∧ v138421 = 0)) → (20000 - v138420).toNat = n138418 → wp kt 2 257 7 [(4, vI v138420), (2, vL v138421), (1, vI v138422), (0, .ref r0)] [] T H138423 (q_257 r0 pp T H) := by
    intro n138418
    induction n138418 using Nat.strongRecOn with
    | _ n138418 ih138419 =>
      intro v138420 v138421 v138422 H138423 w138424 f138425 b138426 b138427 b138428 x138429 m138430
      have f138431 := f0.tr f138425 rfl
      refine wp_of e257 c257_7 (rw_iload (pc' := 9) (z := v138420) rfl rfl ?_)
      refine wp_of e257 c257_9 (rw_aload_n (pc' := 10) (v := .ref r0) rfl rfl rfl ?_)
      have k138432 : H138423 r0 29 = H r0 29 := (f138425 r0 29 _ g0 rfl)
      refine wp_of e257 c257_10 (xg_I (pc' := 13) lf_9_422 w138424 g0 sh_42 (by decide) (by decide) ty_42_29 rfl rfl (fun b138433 b138434 => ?_))
      refine wp_of e257 c257_13 (rw_icmp_ge (p1 := 53) (p2 := 16) (by decide) rfl ⟨by omega, by omega⟩ ⟨by omega, by omega⟩ (fun c138435 => ?_) (fun c138435 => ?_))
      · refine wp_of e257 c257_53 (rw_aload_n (pc' := 54) (v := .ref r0) rfl rfl rfl ?_)
        refine wp_of e257 c257_54 (rw_aload_n (pc' := 55) (v := .ref r0) rfl rfl rfl ?_)
        refine wp_of e257 c257_55 (xg_R (pc' := 58) lf_9_42 w138424 g0 sh_42 (by decide) (by decide) ty_42_30 rfl rfl (fun r138436 q138437 g138438 => ?_))
        refine wp_of e257 c257_58 (rw_iload_n (pc' := 59) (z := v138422) rfl rfl ?_)
        refine wp_of e257 c257_59 (xa_I (so := 0) (pc' := 60) w138424 g138438 sh_52 (by decide) (ty_52 _) (by omega) (by omega) rfl (fun b138439 b138440 => ?_))
        have k138441 : wLM H138423 r0 = wLM H r0 := (wLM_fr hW g0 f138425 rfl)
        have k138442 : H138423 r0 3 = H r0 3 := (f138425 r0 3 _ g0 rfl)
        have q138443 : H138423 r0 3 = (pp : Int) := k138442.trans qpp
        refine wp_of e257 c257_60 (xc_V (pc' := 63) (r := r0) (as := [vI (H138423 r138436 (v138422.toNat))]) (st := []) (lm_9_425) rfl rfl (Nat.le_of_ble_eq_true rfl) w138424 g0 sh_42 (by decide) rfl (by decide) (s_243 w138424 g0 ⟨by omega, by omega⟩ q138443 gpp (by omega)) (fun R138444 T138445 H138446 p138447 => ?_))
        obtain ⟨e138448, w138450, f138451, e138449⟩ := p138447
        subst e138448
        subst e138449
        have f138452 := f138431.tr f138451 rfl
        show wp _ _ 257 63 [(4, vI v138420), (2, vL v138421), (1, vI v138422), (0, .ref r0)] [] _ H138446 _
        refine wp_of e257 c257_63 (rw_lload_n (pc' := 64) (z := v138421) rfl rfl ?_)
        exact wp_lreturn e257 c257_64 rfl ⟨rfl, w138450, f138452, v138421, rfl, ⟨by omega, by omega⟩⟩
      · refine wp_of e257 c257_16 (rw_aload_n (pc' := 17) (v := .ref r0) rfl rfl rfl ?_)
        refine wp_of e257 c257_17 (rw_aload_n (pc' := 18) (v := .ref r0) rfl rfl rfl ?_)
        refine wp_of e257 c257_18 (xg_R (pc' := 21) lf_9_42 w138424 g0 sh_42 (by decide) (by decide) ty_42_30 rfl rfl (fun r138453 q138454 g138455 => ?_))
        refine wp_of e257 c257_21 (rw_iload (pc' := 23) (z := v138420) rfl rfl ?_)
        refine wp_of e257 c257_23 (xa_I (so := 0) (pc' := 24) w138424 g138455 sh_52 (by decide) (ty_52 _) (by omega) (by omega) rfl (fun b138456 b138457 => ?_))
        have k138458 : wLM H138423 r0 = wLM H r0 := (wLM_fr hW g0 f138425 rfl)
        have k138459 : H138423 r0 3 = H r0 3 := (f138425 r0 3 _ g0 rfl)
        have q138460 : H138423 r0 3 = (pp : Int) := k138459.trans qpp
        refine wp_of e257 c257_24 (xc_V (pc' := 27) (r := r0) (as := [vI (H138423 r138453 (v138420.toNat))]) (st := []) (lm_9_425) rfl rfl (Nat.le_of_ble_eq_true rfl) w138424 g0 sh_42 (by decide) rfl (by decide) (s_243 w138424 g0 ⟨by omega, by omega⟩ q138460 gpp (by omega)) (fun R138461 T138462 H138463 p138464 => ?_))
        obtain ⟨e138465, w138467, f138468, e138466⟩ := p138464
        subst e138465
        subst e138466
        have f138469 := f138431.tr f138468 rfl
        have f138470 := f138425.tr f138468 rfl
        show wp _ _ 257 27 [(4, vI v138420), (2, vL v138421), (1, vI v138422), (0, .ref r0)] [] _ H138463 _
        refine wp_of e257 c257_27 (rw_aload_n (pc' := 28) (v := .ref r0) rfl rfl rfl ?_)
        have k138471 : H138463 r0 3 = H138423 r0 3 := (f138468 r0 3 _ g0 rfl)
        have q138472 : H138463 r0 3 = (pp : Int) := k138471.trans q138460
        refine wp_of e257 c257_28 (xc_V (pc' := 31) (r := r0) (as := []) (st := []) (lm_9_437) rfl rfl (Nat.le_of_ble_eq_true rfl) w138467 g0 sh_42 (by decide) rfl (by decide) (s_248 w138467 g0 q138472 gpp) (fun R138473 T138474 H138475 p138476 => ?_))
        obtain ⟨e138477, e138479, z138480, e138478, b138481⟩ := p138476
        subst e138477
        subst e138478
        subst e138479
        show wp _ _ 257 31 [(4, vI v138420), (2, vL v138421), (1, vI v138422), (0, .ref r0)] [vL z138480] _ H138463 _
        refine wp_of e257 c257_31 (rw_lload_n (pc' := 32) (z := v138421) rfl rfl ?_)
        refine wp_of e257 c257_32 (rw_lcmp (pc' := 33) rfl ⟨by omega, by omega⟩ ⟨by omega, by omega⟩ ?_)
        have b138482 := wq_cmp_b z138480 v138421
        refine wp_of e257 c257_33 (rw_if_gt (p1 := 39) (p2 := 36) (by decide) rfl ⟨by omega, by omega⟩ (fun c138483 => ?_) (fun c138483 => ?_))
        · refine wp_of e257 c257_39 (rw_aload_n (pc' := 40) (v := .ref r0) rfl rfl rfl ?_)
          refine wp_of e257 c257_40 (xc_V (pc' := 43) (r := r0) (as := []) (st := []) (lm_9_437) rfl rfl (Nat.le_of_ble_eq_true rfl) w138467 g0 sh_42 (by decide) rfl (by decide) (s_248 w138467 g0 q138472 gpp) (fun R138484 T138485 H138486 p138487 => ?_))
          obtain ⟨e138488, e138490, z138491, e138489, b138492⟩ := p138487
          subst e138488
          subst e138489
          subst e138490
          show wp _ _ 257 43 [(4, vI v138420), (2, vL v138421), (1, vI v138422), (0, .ref r0)] [vL z138491] _ H138463 _
          refine wp_of e257 c257_43 (rw_lstore_n (pc' := 44) (z := z138491) (L' := [(2, vL z138491), (4, vI v138420), (1, vI v138422), (0, .ref r0)]) rfl rfl rfl ?_)
          refine wp_of e257 c257_44 (rw_iload (pc' := 46) (z := v138420) rfl rfl ?_)
          refine wp_of e257 c257_46 (rw_istore_n (pc' := 47) (z := v138420) (L' := [(1, vI v138420), (2, vL z138491), (4, vI v138420), (0, .ref r0)]) rfl rfl rfl ?_)
          refine wp_of e257 c257_47 (rw_iinc (pc' := 50) (z := v138420) (L' := [(4, vI (v138420 + 1)), (1, vI v138420), (2, vL z138491), (0, .ref r0)]) rfl rfl rfl rfl ?_)
          refine wp_of e257 c257_50 (rw_goto (p1 := 7) (by decide) ?_)
          exact wp_lc (ks := [4, 1, 2, 0]) (wl_c rfl (wl_c rfl (wl_c rfl (wl_c rfl wl_n)))) rfl (by decide) (ih138419 _ (by omega) (v138420 + 1) z138491 v138420 H138463 w138467 f138470 ⟨by omega, by omega⟩ ⟨by omega, by omega⟩ ⟨by omega, by omega⟩ (by omega) rfl)
        · refine wp_of e257 c257_36 (rw_goto (p1 := 47) (by decide) ?_)
          refine wp_of e257 c257_47 (rw_iinc (pc' := 50) (z := v138420) (L' := [(4, vI (v138420 + 1)), (2, vL v138421), (1, vI v138422), (0, .ref r0)]) rfl rfl rfl rfl ?_)
          refine wp_of e257 c257_50 (rw_goto (p1 := 7) (by decide) ?_)
          exact wp_lc (ks := [4, 2, 1, 0]) (wl_c rfl (wl_c rfl (wl_c rfl (wl_c rfl wl_n)))) rfl (by decide) (ih138419 _ (by omega) (v138420 + 1) v138421 v138422 H138463 w138467 f138470 ⟨by omega, by omega⟩ ⟨by omega, by omega⟩ ⟨by omega, by omega⟩ (by omega) rfl)
  exact wp_lc (ks := [4, 2, 1, 0]) (wl_c rfl (wl_c rfl (wl_c rfl (wl_c rfl wl_n)))) rfl (by decide) (lp138417 _ 0 0 (-1) H hW wfr.rf ⟨by omega, by omega⟩ ⟨by omega, by omega⟩ ⟨by omega, by omega⟩ (by omega) rfl)
