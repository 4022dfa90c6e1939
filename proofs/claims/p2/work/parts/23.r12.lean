/-! methods of the reference (own work, written by wip/gen2/sx.py) -/
/-! StrikeAwakeModel.struck(I)I -/
theorem e287 : wq_en 287 = some (9, 2, false, some FieldType.int) := rfl
theorem c287_0 : mc_cd 287 0 = some (.aload_n 0, 1) := by decide +kernel
theorem c287_1 : mc_cd 287 1 = some (.iconst 0, 1) := by decide +kernel
theorem c287_2 : mc_cd 287 2 = some (.putfield 48, 3) := by decide +kernel
theorem c287_5 : mc_cd 287 5 = some (.aload_n 0, 1) := by decide +kernel
theorem c287_6 : mc_cd 287 6 = some (.iload_n 1, 1) := by decide +kernel
theorem c287_7 : mc_cd 287 7 = some (.invokevirtual 373, 3) := by decide +kernel
theorem c287_10 : mc_cd 287 10 = some (.ifCond .ne 9, 3) := by decide +kernel
theorem c287_13 : mc_cd 287 13 = some (.aload_n 0, 1) := by decide +kernel
theorem c287_14 : mc_cd 287 14 = some (.iconst 1, 1) := by decide +kernel
theorem c287_15 : mc_cd 287 15 = some (.invokevirtual 54, 3) := by decide +kernel
theorem c287_18 : mc_cd 287 18 = some (.ireturn, 1) := by decide +kernel
theorem c287_19 : mc_cd 287 19 = some (.aload_n 0, 1) := by decide +kernel
theorem c287_20 : mc_cd 287 20 = some (.aload_n 0, 1) := by decide +kernel
theorem c287_21 : mc_cd 287 21 = some (.getfield 17, 3) := by decide +kernel
theorem c287_24 : mc_cd 287 24 = some (.iload_n 1, 1) := by decide +kernel
theorem c287_25 : mc_cd 287 25 = some (.iaload, 1) := by decide +kernel
theorem c287_26 : mc_cd 287 26 = some (.ifCond .ne 8, 3) := by decide +kernel
theorem c287_29 : mc_cd 287 29 = some (.bipush (-2), 2) := by decide +kernel
theorem c287_31 : mc_cd 287 31 = some (.goto 11, 3) := by decide +kernel
theorem c287_34 : mc_cd 287 34 = some (.aload_n 0, 1) := by decide +kernel
theorem c287_35 : mc_cd 287 35 = some (.getfield 17, 3) := by decide +kernel
theorem c287_38 : mc_cd 287 38 = some (.iload_n 1, 1) := by decide +kernel
theorem c287_39 : mc_cd 287 39 = some (.iaload, 1) := by decide +kernel
theorem c287_40 : mc_cd 287 40 = some (.iconst 1, 1) := by decide +kernel
theorem c287_41 : mc_cd 287 41 = some (.isub, 1) := by decide +kernel
theorem c287_42 : mc_cd 287 42 = some (.invokevirtual 58, 3) := by decide +kernel
theorem c287_45 : mc_cd 287 45 = some (.ireturn, 1) := by decide +kernel
abbrev q_287 (r0 : Nat) (a1 : Int) (T : wq_T) (H : wq_H) : Option Value → wq_T → wq_H → Prop := fun r T' H' => T = T' ∧ WT T H' ∧ wfr [(42, 0), (42, 1), (42, 2)] T H H' ∧ ∃ z : Int, some (vI z) = r ∧ ((-2147483648) ≤ z ∧ z ≤ 2147483647) ∧ (wKI H' r0 = 1)
set_option maxHeartbeats 4000000 in
theorem s_287 {kt : Nat → Option mc_E} {T : wq_T} {H : wq_H} {r0 : Nat} {a1 : Int} (hW : WT T H) (g0 : T.2.2.2 r0 = some 42) (i1 : (-2147483648) ≤ a1 ∧ a1 ≤ 2147483647) (p0 : wKI H r0 = 1) : wpc kt 2 287 [.ref r0, vI a1] T H (q_287 r0 a1 T H) := by
  refine wp_enter e287 (Nat.le_of_ble_eq_true rfl) rfl ?_
  have f0 : wfr [(42, 0), (42, 1), (42, 2)] T H H := wfr.rf
  show wp _ _ 287 0 [(0, .ref r0), (1, vI a1)] [] _ H _
  refine wp_of e287 c287_0 (rw_aload_n (pc' := 1) (v := .ref r0) rfl rfl rfl ?_)
  refine wp_of e287 c287_1 (rw_iconst (pc' := 2) rfl ?_)
  refine wp_of e287 c287_2 (xp_I (pc' := 5) lf_9_48 hW g0 sh_42 (by decide) (by decide) ty_42_0 rfl rfl (by omega) (by omega) ⟨by omega, by omega⟩ rfl (fun H220953 e220954 w220955 => ?_))
  have f220956 := f0.put' e220954 g0 rfl
  have k220957 : H220953 r0 0 = 0 := wq_u_s e220954
  refine wp_of e287 c287_5 (rw_aload_n (pc' := 6) (v := .ref r0) rfl rfl rfl ?_)
  refine wp_of e287 c287_6 (rw_iload_n (pc' := 7) (z := a1) rfl rfl ?_)
  refine wp_of e287 c287_7 (xc_V (pc' := 10) (r := r0) (as := [vI a1]) (st := []) (lm_9_373) rfl rfl (Nat.le_of_ble_eq_true rfl) w220955 g0 sh_42 (by decide) rfl (by decide) (s_218 w220955 g0 ⟨by omega, by omega⟩) (fun R220958 T220959 H220960 p220961 => ?_))
  obtain ⟨e220962, e220964, z220966, e220963, b220967, p220965⟩ := p220961
  subst e220962
  subst e220963
  subst e220964
  show wp _ _ 287 10 [(0, .ref r0), (1, vI a1)] [vI z220966] _ H220953 _
  refine wp_of e287 c287_10 (rw_if_ne (p1 := 19) (p2 := 13) (by decide) rfl ⟨by omega, by omega⟩ (fun c220968 => ?_) (fun c220968 => ?_))
  · refine wp_of e287 c287_19 (rw_aload_n (pc' := 20) (v := .ref r0) rfl rfl rfl ?_)
    refine wp_of e287 c287_20 (rw_aload_n (pc' := 21) (v := .ref r0) rfl rfl rfl ?_)
    refine wp_of e287 c287_21 (xg_R (pc' := 24) lf_9_17 w220955 g0 sh_42 (by decide) (by decide) ty_42_20 rfl rfl (fun r220969 q220970 g220971 => ?_))
    refine wp_of e287 c287_24 (rw_iload_n (pc' := 25) (z := a1) rfl rfl ?_)
    refine wp_of e287 c287_25 (xa_I (so := 0) (pc' := 26) w220955 g220971 sh_44 (by decide) (ty_44 _) (by omega) (by omega) rfl (fun b220972 b220973 => ?_))
    refine wp_of e287 c287_26 (rw_if_ne (p1 := 34) (p2 := 29) (by decide) rfl ⟨by omega, by omega⟩ (fun c220974 => ?_) (fun c220974 => ?_))
    · refine wp_of e287 c287_34 (rw_aload_n (pc' := 35) (v := .ref r0) rfl rfl rfl ?_)
      refine wp_of e287 c287_35 (xg_K (pc' := 38) lf_9_17 w220955 g0 sh_42 (by decide) (by decide) rfl q220970 rfl ?_)
      refine wp_of e287 c287_38 (rw_iload_n (pc' := 39) (z := a1) rfl rfl ?_)
      refine wp_of e287 c287_39 (xa_I (so := 0) (pc' := 40) w220955 g220971 sh_44 (by decide) (ty_44 _) (by omega) (by omega) rfl (fun b220975 b220976 => ?_))
      refine wp_of e287 c287_40 (rw_iconst (pc' := 41) rfl ?_)
      refine wp_of e287 c287_41 (rw_isubw (pc' := 42) rfl ?_)
      obtain ⟨v220977, e220978⟩ : ∃ x : Int, x = wq_w ((H220953 r220969 (a1.toNat)) - 1) := ⟨_, rfl⟩
      rw [← e220978]
      have b220979 : -2147483648 ≤ v220977 ∧ v220977 ≤ 2147483647 := by
        rw [e220978]
        exact wI_w _
      refine wp_of e287 c287_42 (xc_V (pc' := 45) (r := r0) (as := [vI v220977]) (st := []) (lm_9_58) rfl rfl (Nat.le_of_ble_eq_true rfl) w220955 g0 sh_42 (by decide) rfl (by decide) (s_209 w220955 g0 ⟨by omega, by omega⟩) (fun R220980 T220981 H220982 p220983 => ?_))
      obtain ⟨e220984, w220986, f220987, z220988, e220985, b220989⟩ := p220983
      subst e220984
      subst e220985
      have f220990 := f220956.tr f220987 rfl
      show wp _ _ 287 45 [(0, .ref r0), (1, vI a1)] [vI z220988] _ H220982 _
      have k220991 : wKI H220982 r0 = wKI H r0 := ((wKI_fr w220955 g0 f220987 rfl).trans (wKI_fr hW g0 ((wfr.rf (l := [(42, 0)])).put' e220954 g0 rfl) rfl))
      exact wp_ireturn e287 c287_45 rfl ⟨rfl, w220986, f220990, z220988, rfl, ⟨by omega, by omega⟩, by omega⟩
    · refine wp_of e287 c287_29 (rw_bipush (pc' := 31) (z := -2) rfl (by decide) ?_)
      refine wp_of e287 c287_31 (rw_goto (p1 := 42) (by decide) ?_)
      refine wp_of e287 c287_42 (xc_V (pc' := 45) (r := r0) (as := [vI (-2)]) (st := []) (lm_9_58) rfl rfl (Nat.le_of_ble_eq_true rfl) w220955 g0 sh_42 (by decide) rfl (by decide) (s_209 w220955 g0 ⟨by omega, by omega⟩) (fun R220992 T220993 H220994 p220995 => ?_))
      obtain ⟨e220996, w220998, f220999, z221000, e220997, b221001⟩ := p220995
      subst e220996
      subst e220997
      have f221002 := f220956.tr f220999 rfl
      show wp _ _ 287 45 [(0, .ref r0), (1, vI a1)] [vI z221000] _ H220994 _
      have k221003 : wKI H220994 r0 = wKI H r0 := ((wKI_fr w220955 g0 f220999 rfl).trans (wKI_fr hW g0 ((wfr.rf (l := [(42, 0)])).put' e220954 g0 rfl) rfl))
      exact wp_ireturn e287 c287_45 rfl ⟨rfl, w220998, f221002, z221000, rfl, ⟨by omega, by omega⟩, by omega⟩
  · refine wp_of e287 c287_13 (rw_aload_n (pc' := 14) (v := .ref r0) rfl rfl rfl ?_)
    refine wp_of e287 c287_14 (rw_iconst (pc' := 15) rfl ?_)
    refine wp_of e287 c287_15 (xc_V (pc' := 18) (r := r0) (as := [vI 1]) (st := []) (lm_9_54) rfl rfl (Nat.le_of_ble_eq_true rfl) w220955 g0 sh_42 (by decide) rfl (by decide) (s_170 w220955 g0 ⟨by omega, by omega⟩) (fun R221004 T221005 H221006 p221007 => ?_))
    obtain ⟨e221008, w221010, f221011, z221012, e221009, b221013⟩ := p221007
    subst e221008
    subst e221009
    have f221014 := f220956.tr f221011 rfl
    show wp _ _ 287 18 [(0, .ref r0), (1, vI a1)] [vI z221012] _ H221006 _
    have k221015 : wKI H221006 r0 = wKI H r0 := ((wKI_fr w220955 g0 f221011 rfl).trans (wKI_fr hW g0 ((wfr.rf (l := [(42, 0)])).put' e220954 g0 rfl) rfl))
    exact wp_ireturn e287 c287_18 rfl ⟨rfl, w221010, f221014, z221012, rfl, ⟨by omega, by omega⟩, by omega⟩
/-! StrikeAwakeModel.seek()I -/
theorem e288 : wq_en 288 = some (9, 3, false, some FieldType.int) := rfl
theorem c288_0 : mc_cd 288 0 = some (.aload_n 0, 1) := by decide +kernel
theorem c288_1 : mc_cd 288 1 = some (.iconst 0, 1) := by decide +kernel
theorem c288_2 : mc_cd 288 2 = some (.putfield 48, 3) := by decide +kernel
theorem c288_5 : mc_cd 288 5 = some (.aload_n 0, 1) := by decide +kernel
theorem c288_6 : mc_cd 288 6 = some (.aload_n 0, 1) := by decide +kernel
theorem c288_7 : mc_cd 288 7 = some (.getfield 337, 3) := by decide +kernel
theorem c288_10 : mc_cd 288 10 = some (.ifnull 7, 3) := by decide +kernel
theorem c288_13 : mc_cd 288 13 = some (.iconst 1, 1) := by decide +kernel
theorem c288_14 : mc_cd 288 14 = some (.goto 4, 3) := by decide +kernel
theorem c288_17 : mc_cd 288 17 = some (.iconst 0, 1) := by decide +kernel
theorem c288_18 : mc_cd 288 18 = some (.invokevirtual 433, 3) := by decide +kernel
theorem c288_21 : mc_cd 288 21 = some (.istore_n 1, 1) := by decide +kernel
theorem c288_22 : mc_cd 288 22 = some (.iload_n 1, 1) := by decide +kernel
theorem c288_23 : mc_cd 288 23 = some (.ifCond .le 9, 3) := by decide +kernel
theorem c288_26 : mc_cd 288 26 = some (.aload_n 0, 1) := by decide +kernel
theorem c288_27 : mc_cd 288 27 = some (.iload_n 1, 1) := by decide +kernel
theorem c288_28 : mc_cd 288 28 = some (.invokevirtual 54, 3) := by decide +kernel
theorem c288_31 : mc_cd 288 31 = some (.ireturn, 1) := by decide +kernel
theorem c288_32 : mc_cd 288 32 = some (.iconst 0, 1) := by decide +kernel
theorem c288_33 : mc_cd 288 33 = some (.istore_n 2, 1) := by decide +kernel
theorem c288_34 : mc_cd 288 34 = some (.iload_n 2, 1) := by decide +kernel
theorem c288_35 : mc_cd 288 35 = some (.aload_n 0, 1) := by decide +kernel
theorem c288_36 : mc_cd 288 36 = some (.getfield 422, 3) := by decide +kernel
theorem c288_39 : mc_cd 288 39 = some (.if_icmp .ge 48, 3) := by decide +kernel
theorem c288_42 : mc_cd 288 42 = some (.aload_n 0, 1) := by decide +kernel
theorem c288_43 : mc_cd 288 43 = some (.getfield 42, 3) := by decide +kernel
theorem c288_46 : mc_cd 288 46 = some (.iload_n 2, 1) := by decide +kernel
theorem c288_47 : mc_cd 288 47 = some (.iaload, 1) := by decide +kernel
theorem c288_48 : mc_cd 288 48 = some (.aload_n 0, 1) := by decide +kernel
theorem c288_49 : mc_cd 288 49 = some (.getfield 340, 3) := by decide +kernel
theorem c288_52 : mc_cd 288 52 = some (.if_icmp .ge 6, 3) := by decide +kernel
theorem c288_55 : mc_cd 288 55 = some (.goto 26, 3) := by decide +kernel
theorem c288_58 : mc_cd 288 58 = some (.aload_n 0, 1) := by decide +kernel
theorem c288_59 : mc_cd 288 59 = some (.aload_n 0, 1) := by decide +kernel
theorem c288_60 : mc_cd 288 60 = some (.getfield 42, 3) := by decide +kernel
theorem c288_63 : mc_cd 288 63 = some (.iload_n 2, 1) := by decide +kernel
theorem c288_64 : mc_cd 288 64 = some (.iaload, 1) := by decide +kernel
theorem c288_65 : mc_cd 288 65 = some (.iconst 1, 1) := by decide +kernel
theorem c288_66 : mc_cd 288 66 = some (.iadd, 1) := by decide +kernel
theorem c288_67 : mc_cd 288 67 = some (.putfield 340, 3) := by decide +kernel
theorem c288_70 : mc_cd 288 70 = some (.aload_n 0, 1) := by decide +kernel
theorem c288_71 : mc_cd 288 71 = some (.aload_n 0, 1) := by decide +kernel
theorem c288_72 : mc_cd 288 72 = some (.getfield 42, 3) := by decide +kernel
theorem c288_75 : mc_cd 288 75 = some (.iload_n 2, 1) := by decide +kernel
theorem c288_76 : mc_cd 288 76 = some (.iaload, 1) := by decide +kernel
theorem c288_77 : mc_cd 288 77 = some (.invokevirtual 58, 3) := by decide +kernel
theorem c288_80 : mc_cd 288 80 = some (.ireturn, 1) := by decide +kernel
theorem c288_81 : mc_cd 288 81 = some (.iinc 2 1, 3) := by decide +kernel
theorem c288_84 : mc_cd 288 84 = some (.goto (-50), 3) := by decide +kernel
theorem c288_87 : mc_cd 288 87 = some (.aload_n 0, 1) := by decide +kernel
theorem c288_88 : mc_cd 288 88 = some (.bipush 6, 2) := by decide +kernel
theorem c288_90 : mc_cd 288 90 = some (.invokevirtual 54, 3) := by decide +kernel
theorem c288_93 : mc_cd 288 93 = some (.ireturn, 1) := by decide +kernel
abbrev q_288 (r0 : Nat) (T : wq_T) (H : wq_H) : Option Value → wq_T → wq_H → Prop := fun r T' H' => T = T' ∧ WT T H' ∧ wfr [(42, 0), (42, 1), (42, 2), (42, 28), (42, 29), (42, 32), (51, 999), (52, 999)] T H H' ∧ ∃ z : Int, some (vI z) = r ∧ ((-2147483648) ≤ z ∧ z ≤ 2147483647) ∧ (wKI H' r0 = 1)
set_option maxHeartbeats 4000000 in
theorem s_288 {kt : Nat → Option mc_E} {T : wq_T} {H : wq_H} {r0 : Nat} (hW : WT T H) (g0 : T.2.2.2 r0 = some 42) (p0 : wKI H r0 = 1) : wpc kt 8 288 [.ref r0] T H (q_288 r0 T H) := by
  refine wp_enter e288 (Nat.le_of_ble_eq_true rfl) rfl ?_
  have f0 : wfr [(42, 0), (42, 1), (42, 2), (42, 28), (42, 29), (42, 32), (51, 999), (52, 999)] T H H := wfr.rf
  show wp _ _ 288 0 [(0, .ref r0)] [] _ H _
  refine wp_of e288 c288_0 (rw_aload_n (pc' := 1) (v := .ref r0) rfl rfl rfl ?_)
  refine wp_of e288 c288_1 (rw_iconst (pc' := 2) rfl ?_)
  refine wp_of e288 c288_2 (xp_I (pc' := 5) lf_9_48 hW g0 sh_42 (by decide) (by decide) ty_42_0 rfl rfl (by omega) (by omega) ⟨by omega, by omega⟩ rfl (fun H221226 e221227 w221228 => ?_))
  have f221229 := f0.put' e221227 g0 rfl
  have k221230 : H221226 r0 0 = 0 := wq_u_s e221227
  refine wp_of e288 c288_5 (rw_aload_n (pc' := 6) (v := .ref r0) rfl rfl rfl ?_)
  refine wp_of e288 c288_6 (rw_aload_n (pc' := 7) (v := .ref r0) rfl rfl rfl ?_)
  refine wp_of e288 c288_7 (xg_O (pc' := 10) lf_9_337 w221228 g0 sh_42 (by decide) (by decide) ty_42_3 rfl rfl (fun q221232 => ?_) (fun r221231 q221232 g221233 => ?_))
  · refine wp_of e288 c288_10 (rw_ifnull_n (p1 := 17) (p2 := 13) (by decide) rfl ?_)
    refine wp_of e288 c288_17 (rw_iconst (pc' := 18) rfl ?_)
    have k221234 : wKI H221226 r0 = wKI H r0 := (wKI_fr hW g0 ((wfr.rf (l := [(42, 0)])).put' e221227 g0 rfl) rfl)
    refine wp_of e288 c288_18 (xc_V (pc' := 21) (r := r0) (as := [vI 0]) (st := []) (lm_9_433) rfl rfl (Nat.le_of_ble_eq_true rfl) w221228 g0 sh_42 (by decide) rfl (by decide) (s_241 w221228 g0 ⟨by omega, by omega⟩ (by omega) (by omega)) (fun R221235 T221236 H221237 p221238 => ?_))
    obtain ⟨e221239, w221241, f221242, z221247, e221240, b221248, p221243, p221244, p221245, p221246⟩ := p221238
    subst e221239
    subst e221240
    have f221249 := f221229.tr f221242 rfl
    show wp _ _ 288 21 [(0, .ref r0)] [vI z221247] _ H221237 _
    refine wp_of e288 c288_21 (rw_istore_n (pc' := 22) (z := z221247) (L' := [(1, vI z221247), (0, .ref r0)]) rfl rfl rfl ?_)
    refine wp_of e288 c288_22 (rw_iload_n (pc' := 23) (z := z221247) rfl rfl ?_)
    refine wp_of e288 c288_23 (rw_if_le (p1 := 32) (p2 := 26) (by decide) rfl ⟨by omega, by omega⟩ (fun c221250 => ?_) (fun c221250 => ?_))
    · exfalso
      omega
    · refine wp_of e288 c288_26 (rw_aload_n (pc' := 27) (v := .ref r0) rfl rfl rfl ?_)
      refine wp_of e288 c288_27 (rw_iload_n (pc' := 28) (z := z221247) rfl rfl ?_)
      refine wp_of e288 c288_28 (xc_V (pc' := 31) (r := r0) (as := [vI z221247]) (st := []) (lm_9_54) rfl rfl (Nat.le_of_ble_eq_true rfl) w221241 g0 sh_42 (by decide) rfl (by decide) (s_170 w221241 g0 ⟨by omega, by omega⟩) (fun R221251 T221252 H221253 p221254 => ?_))
      obtain ⟨e221255, w221257, f221258, z221259, e221256, b221260⟩ := p221254
      subst e221255
      subst e221256
      have f221261 := f221249.tr f221258 rfl
      show wp _ _ 288 31 [(1, vI z221247), (0, .ref r0)] [vI z221259] _ H221253 _
      have k221262 : wKI H221253 r0 = wKI H221237 r0 := (wKI_fr w221241 g0 f221258 rfl)
      exact wp_ireturn e288 c288_31 rfl ⟨rfl, w221257, f221261, z221259, rfl, ⟨by omega, by omega⟩, by omega⟩
  · refine wp_of e288 c288_10 (rw_ifnull_r (p1 := 17) (p2 := 13) (by decide) rfl ?_)
    refine wp_of e288 c288_13 (rw_iconst (pc' := 14) rfl ?_)
    refine wp_of e288 c288_14 (rw_goto (p1 := 18) (by decide) ?_)
    have k221263 : wKI H221226 r0 = wKI H r0 := (wKI_fr hW g0 ((wfr.rf (l := [(42, 0)])).put' e221227 g0 rfl) rfl)
    refine wp_of e288 c288_18 (xc_V (pc' := 21) (r := r0) (as := [vI 1]) (st := []) (lm_9_433) rfl rfl (Nat.le_of_ble_eq_true rfl) w221228 g0 sh_42 (by decide) rfl (by decide) (s_241 w221228 g0 ⟨by omega, by omega⟩ (by omega) (by omega)) (fun R221264 T221265 H221266 p221267 => ?_))
    obtain ⟨e221268, w221270, f221271, z221276, e221269, b221277, p221272, p221273, p221274, p221275⟩ := p221267
    subst e221268
    subst e221269
    have f221278 := f221229.tr f221271 rfl
    show wp _ _ 288 21 [(0, .ref r0)] [vI z221276] _ H221266 _
    refine wp_of e288 c288_21 (rw_istore_n (pc' := 22) (z := z221276) (L' := [(1, vI z221276), (0, .ref r0)]) rfl rfl rfl ?_)
    refine wp_of e288 c288_22 (rw_iload_n (pc' := 23) (z := z221276) rfl rfl ?_)
    refine wp_of e288 c288_23 (rw_if_le (p1 := 32) (p2 := 26) (by decide) rfl ⟨by omega, by omega⟩ (fun c221279 => ?_) (fun c221279 => ?_))
    · refine wp_of e288 c288_32 (rw_iconst (pc' := 33) rfl ?_)
      refine wp_of e288 c288_33 (rw_istore_n (pc' := 34) (z := 0) (L' := [(2, vI 0), (1, vI z221276), (0, .ref r0)]) rfl rfl rfl ?_)
      have lp221376 : ∀ (n221377 : Nat) (v221379 : Int), (0 ≤ v221379 ∧ v221379 ≤ 20000) → (20000 - v221379).toNat = n221377 → wp kt 7 288 34 [(2, vI v221379), (0, .ref r0)] [] T H221266 (q_288 r0 T H) := by
        intro n221377
        induction n221377 using Nat.strongRecOn with
        | _ n221377 ih221378 =>
          intro v221379 b221382 m221383
          refine wp_of e288 c288_34 (rw_iload_n (pc' := 35) (z := v221379) rfl rfl ?_)
          refine wp_of e288 c288_35 (rw_aload_n (pc' := 36) (v := .ref r0) rfl rfl rfl ?_)
          refine wp_of e288 c288_36 (xg_I (pc' := 39) lf_9_422 w221270 g0 sh_42 (by decide) (by decide) ty_42_29 rfl rfl (fun b221384 b221385 => ?_))
          refine wp_of e288 c288_39 (rw_icmp_ge (p1 := 87) (p2 := 42) (by decide) rfl ⟨by omega, by omega⟩ ⟨by omega, by omega⟩ (fun c221386 => ?_) (fun c221386 => ?_))
          · refine wp_of e288 c288_87 (rw_aload_n (pc' := 88) (v := .ref r0) rfl rfl rfl ?_)
            refine wp_of e288 c288_88 (rw_bipush (pc' := 90) (z := 6) rfl (by decide) ?_)
            refine wp_of e288 c288_90 (xc_V (pc' := 93) (r := r0) (as := [vI 6]) (st := []) (lm_9_54) rfl rfl (Nat.le_of_ble_eq_true rfl) w221270 g0 sh_42 (by decide) rfl (by decide) (s_170 w221270 g0 ⟨by omega, by omega⟩) (fun R221387 T221388 H221389 p221390 => ?_))
            obtain ⟨e221391, w221393, f221394, z221395, e221392, b221396⟩ := p221390
            subst e221391
            subst e221392
            have f221397 := f221278.tr f221394 rfl
            show wp _ _ 288 93 [(2, vI v221379), (0, .ref r0)] [vI z221395] _ H221389 _
            have k221398 : wKI H221389 r0 = wKI H221266 r0 := (wKI_fr w221270 g0 f221394 rfl)
            exact wp_ireturn e288 c288_93 rfl ⟨rfl, w221393, f221397, z221395, rfl, ⟨by omega, by omega⟩, by omega⟩
          · refine wp_of e288 c288_42 (rw_aload_n (pc' := 43) (v := .ref r0) rfl rfl rfl ?_)
            refine wp_of e288 c288_43 (xg_R (pc' := 46) lf_9_42 w221270 g0 sh_42 (by decide) (by decide) ty_42_30 rfl rfl (fun r221399 q221400 g221401 => ?_))
            refine wp_of e288 c288_46 (rw_iload_n (pc' := 47) (z := v221379) rfl rfl ?_)
            refine wp_of e288 c288_47 (xa_I (so := 0) (pc' := 48) w221270 g221401 sh_52 (by decide) (ty_52 _) (by omega) (by omega) rfl (fun b221402 b221403 => ?_))
            refine wp_of e288 c288_48 (rw_aload_n (pc' := 49) (v := .ref r0) rfl rfl rfl ?_)
            refine wp_of e288 c288_49 (xg_I (pc' := 52) lf_9_340 w221270 g0 sh_42 (by decide) (by decide) ty_42_32 rfl rfl (fun b221404 b221405 => ?_))
            refine wp_of e288 c288_52 (rw_icmp_ge (p1 := 58) (p2 := 55) (by decide) rfl ⟨by omega, by omega⟩ ⟨by omega, by omega⟩ (fun c221406 => ?_) (fun c221406 => ?_))
            · refine wp_of e288 c288_58 (rw_aload_n (pc' := 59) (v := .ref r0) rfl rfl rfl ?_)
              refine wp_of e288 c288_59 (rw_aload_n (pc' := 60) (v := .ref r0) rfl rfl rfl ?_)
              refine wp_of e288 c288_60 (xg_K (pc' := 63) lf_9_42 w221270 g0 sh_42 (by decide) (by decide) rfl q221400 rfl ?_)
              refine wp_of e288 c288_63 (rw_iload_n (pc' := 64) (z := v221379) rfl rfl ?_)
              refine wp_of e288 c288_64 (xa_I (so := 0) (pc' := 65) w221270 g221401 sh_52 (by decide) (ty_52 _) (by omega) (by omega) rfl (fun b221407 b221408 => ?_))
              refine wp_of e288 c288_65 (rw_iconst (pc' := 66) rfl ?_)
              refine wp_of e288 c288_66 (rw_iadd (pc' := 67) rfl ?_)
              refine wp_of e288 c288_67 (xp_I (pc' := 70) lf_9_340 w221270 g0 sh_42 (by decide) (by decide) ty_42_32 rfl rfl (by omega) (by omega) ⟨by omega, by omega⟩ rfl (fun H221409 e221410 w221411 => ?_))
              have f221412 := f221278.put' e221410 g0 rfl
              have k221413 : H221409 r0 32 = (H221266 r221399 (v221379.toNat)) + 1 := wq_u_s e221410
              refine wp_of e288 c288_70 (rw_aload_n (pc' := 71) (v := .ref r0) rfl rfl rfl ?_)
              refine wp_of e288 c288_71 (rw_aload_n (pc' := 72) (v := .ref r0) rfl rfl rfl ?_)
              have k221414 : H221409 r0 30 = H221266 r0 30 := (wq_u_j e221410 rfl)
              have q221415 : H221409 r0 30 = (r221399 : Int) := k221414.trans q221400
              refine wp_of e288 c288_72 (xg_K (pc' := 75) lf_9_42 w221411 g0 sh_42 (by decide) (by decide) rfl q221415 rfl ?_)
              refine wp_of e288 c288_75 (rw_iload_n (pc' := 76) (z := v221379) rfl rfl ?_)
              have k221416 : H221409 r221399 (v221379.toNat) = H221266 r221399 (v221379.toNat) := (wq_u_t e221410 g0 g221401 rfl (v221379.toNat))
              refine wp_of e288 c288_76 (xa_I (so := 0) (pc' := 77) w221411 g221401 sh_52 (by decide) (ty_52 _) (by omega) (by omega) rfl (fun b221417 b221418 => ?_))
              refine wp_of e288 c288_77 (xc_V (pc' := 80) (r := r0) (as := [vI (H221409 r221399 (v221379.toNat))]) (st := []) (lm_9_58) rfl rfl (Nat.le_of_ble_eq_true rfl) w221411 g0 sh_42 (by decide) rfl (by decide) (s_209 w221411 g0 ⟨by omega, by omega⟩) (fun R221419 T221420 H221421 p221422 => ?_))
              obtain ⟨e221423, w221425, f221426, z221427, e221424, b221428⟩ := p221422
              subst e221423
              subst e221424
              have f221429 := f221412.tr f221426 rfl
              show wp _ _ 288 80 [(2, vI v221379), (0, .ref r0)] [vI z221427] _ H221421 _
              have k221430 : wKI H221421 r0 = wKI H221266 r0 := ((wKI_fr w221411 g0 f221426 rfl).trans (wKI_fr w221270 g0 ((wfr.rf (l := [(42, 32)])).put' e221410 g0 rfl) rfl))
              exact wp_ireturn e288 c288_80 rfl ⟨rfl, w221425, f221429, z221427, rfl, ⟨by omega, by omega⟩, by omega⟩
            · refine wp_of e288 c288_55 (rw_goto (p1 := 81) (by decide) ?_)
              refine wp_of e288 c288_81 (rw_iinc (pc' := 84) (z := v221379) (L' := [(2, vI (v221379 + 1)), (0, .ref r0)]) rfl rfl rfl rfl ?_)
              refine wp_of e288 c288_84 (rw_goto (p1 := 34) (by decide) ?_)
              exact wp_lc (ks := [2, 0]) (wl_c rfl (wl_c rfl wl_n)) rfl (by decide) (ih221378 _ (by omega) (v221379 + 1) ⟨by omega, by omega⟩ rfl)
      exact wp_lc (ks := [2, 1, 0]) (wl_c rfl (wl_c rfl wl_n)) rfl (by decide) (lp221376 _ 0 ⟨by omega, by omega⟩ rfl)
    · refine wp_of e288 c288_26 (rw_aload_n (pc' := 27) (v := .ref r0) rfl rfl rfl ?_)
      refine wp_of e288 c288_27 (rw_iload_n (pc' := 28) (z := z221276) rfl rfl ?_)
      refine wp_of e288 c288_28 (xc_V (pc' := 31) (r := r0) (as := [vI z221276]) (st := []) (lm_9_54) rfl rfl (Nat.le_of_ble_eq_true rfl) w221270 g0 sh_42 (by decide) rfl (by decide) (s_170 w221270 g0 ⟨by omega, by omega⟩) (fun R221431 T221432 H221433 p221434 => ?_))
      obtain ⟨e221435, w221437, f221438, z221439, e221436, b221440⟩ := p221434
      subst e221435
      subst e221436
      have f221441 := f221278.tr f221438 rfl
      show wp _ _ 288 31 [(1, vI z221276), (0, .ref r0)] [vI z221439] _ H221433 _
      have k221442 : wKI H221433 r0 = wKI H221266 r0 := (wKI_fr w221270 g0 f221438 rfl)
      exact wp_ireturn e288 c288_31 rfl ⟨rfl, w221437, f221441, z221439, rfl, ⟨by omega, by omega⟩, by omega⟩
/-! StrikeAwakeModel.lot(II)I -/
theorem e289 : wq_en 289 = some (9, 3, false, some FieldType.int) := rfl
theorem c289_0 : mc_cd 289 0 = some (.aload_n 0, 1) := by decide +kernel
theorem c289_1 : mc_cd 289 1 = some (.iconst 0, 1) := by decide +kernel
theorem c289_2 : mc_cd 289 2 = some (.putfield 48, 3) := by decide +kernel
theorem c289_5 : mc_cd 289 5 = some (.aload_n 0, 1) := by decide +kernel
theorem c289_6 : mc_cd 289 6 = some (.iload_n 2, 1) := by decide +kernel
theorem c289_7 : mc_cd 289 7 = some (.invokevirtual 364, 3) := by decide +kernel
theorem c289_10 : mc_cd 289 10 = some (.ifCond .eq 7, 3) := by decide +kernel
theorem c289_13 : mc_cd 289 13 = some (.iload_n 1, 1) := by decide +kernel
theorem c289_14 : mc_cd 289 14 = some (.ifCond .ge 9, 3) := by decide +kernel
theorem c289_17 : mc_cd 289 17 = some (.aload_n 0, 1) := by decide +kernel
theorem c289_18 : mc_cd 289 18 = some (.iconst 1, 1) := by decide +kernel
theorem c289_19 : mc_cd 289 19 = some (.invokevirtual 54, 3) := by decide +kernel
theorem c289_22 : mc_cd 289 22 = some (.ireturn, 1) := by decide +kernel
theorem c289_23 : mc_cd 289 23 = some (.aload_n 0, 1) := by decide +kernel
theorem c289_24 : mc_cd 289 24 = some (.invokevirtual 376, 3) := by decide +kernel
theorem c289_27 : mc_cd 289 27 = some (.ldc2_w 428, 3) := by decide +kernel
theorem c289_30 : mc_cd 289 30 = some (.lcmp, 1) := by decide +kernel
theorem c289_31 : mc_cd 289 31 = some (.ifCond .le 9, 3) := by decide +kernel
theorem c289_34 : mc_cd 289 34 = some (.aload_n 0, 1) := by decide +kernel
theorem c289_35 : mc_cd 289 35 = some (.iconst 3, 1) := by decide +kernel
theorem c289_36 : mc_cd 289 36 = some (.invokevirtual 54, 3) := by decide +kernel
theorem c289_39 : mc_cd 289 39 = some (.ireturn, 1) := by decide +kernel
theorem c289_40 : mc_cd 289 40 = some (.iload_n 1, 1) := by decide +kernel
theorem c289_41 : mc_cd 289 41 = some (.i2l, 1) := by decide +kernel
theorem c289_42 : mc_cd 289 42 = some (.aload_n 0, 1) := by decide +kernel
theorem c289_43 : mc_cd 289 43 = some (.invokevirtual 376, 3) := by decide +kernel
theorem c289_46 : mc_cd 289 46 = some (.lcmp, 1) := by decide +kernel
theorem c289_47 : mc_cd 289 47 = some (.ifCond .lt 9, 3) := by decide +kernel
theorem c289_50 : mc_cd 289 50 = some (.aload_n 0, 1) := by decide +kernel
theorem c289_51 : mc_cd 289 51 = some (.iconst 1, 1) := by decide +kernel
theorem c289_52 : mc_cd 289 52 = some (.invokevirtual 54, 3) := by decide +kernel
theorem c289_55 : mc_cd 289 55 = some (.ireturn, 1) := by decide +kernel
theorem c289_56 : mc_cd 289 56 = some (.aload_n 0, 1) := by decide +kernel
theorem c289_57 : mc_cd 289 57 = some (.iload_n 1, 1) := by decide +kernel
theorem c289_58 : mc_cd 289 58 = some (.invokevirtual 425, 3) := by decide +kernel
theorem c289_61 : mc_cd 289 61 = some (.aload_n 0, 1) := by decide +kernel
theorem c289_62 : mc_cd 289 62 = some (.aload_n 0, 1) := by decide +kernel
theorem c289_63 : mc_cd 289 63 = some (.getfield 39, 3) := by decide +kernel
theorem c289_66 : mc_cd 289 66 = some (.iload_n 2, 1) := by decide +kernel
theorem c289_67 : mc_cd 289 67 = some (.iaload, 1) := by decide +kernel
theorem c289_68 : mc_cd 289 68 = some (.invokevirtual 58, 3) := by decide +kernel
theorem c289_71 : mc_cd 289 71 = some (.ireturn, 1) := by decide +kernel
abbrev q_289 (r0 : Nat) (a1 : Int) (a2 : Int) (T : wq_T) (H : wq_H) : Option Value → wq_T → wq_H → Prop := fun r T' H' => T = T' ∧ WT T H' ∧ wfr [(42, 0), (42, 1), (42, 2), (51, 999)] T H H' ∧ ∃ z : Int, some (vI z) = r ∧ ((-2147483648) ≤ z ∧ z ≤ 2147483647) ∧ (wKI H' r0 = 1)
set_option maxHeartbeats 4000000 in
theorem s_289 {kt : Nat → Option mc_E} {T : wq_T} {H : wq_H} {r0 : Nat} {a1 : Int} {a2 : Int} (hW : WT T H) (g0 : T.2.2.2 r0 = some 42) (i1 : (-2147483648) ≤ a1 ∧ a1 ≤ 2147483647) (i2 : (-2147483648) ≤ a2 ∧ a2 ≤ 2147483647) (p0 : wKI H r0 = 1) : wpc kt 2 289 [.ref r0, vI a1, vI a2] T H (q_289 r0 a1 a2 T H) := by
  refine wp_enter e289 (Nat.le_of_ble_eq_true rfl) rfl ?_
  have f0 : wfr [(42, 0), (42, 1), (42, 2), (51, 999)] T H H := wfr.rf
  show wp _ _ 289 0 [(0, .ref r0), (1, vI a1), (2, vI a2)] [] _ H _
  refine wp_of e289 c289_0 (rw_aload_n (pc' := 1) (v := .ref r0) rfl rfl rfl ?_)
  refine wp_of e289 c289_1 (rw_iconst (pc' := 2) rfl ?_)
  refine wp_of e289 c289_2 (xp_I (pc' := 5) lf_9_48 hW g0 sh_42 (by decide) (by decide) ty_42_0 rfl rfl (by omega) (by omega) ⟨by omega, by omega⟩ rfl (fun H221562 e221563 w221564 => ?_))
  have f221565 := f0.put' e221563 g0 rfl
  have k221566 : H221562 r0 0 = 0 := wq_u_s e221563
  refine wp_of e289 c289_5 (rw_aload_n (pc' := 6) (v := .ref r0) rfl rfl rfl ?_)
  refine wp_of e289 c289_6 (rw_iload_n (pc' := 7) (z := a2) rfl rfl ?_)
  refine wp_of e289 c289_7 (xc_V (pc' := 10) (r := r0) (as := [vI a2]) (st := []) (lm_9_364) rfl rfl (Nat.le_of_ble_eq_true rfl) w221564 g0 sh_42 (by decide) rfl (by decide) (s_213 w221564 g0 ⟨by omega, by omega⟩) (fun R221567 T221568 H221569 p221570 => ?_))
  obtain ⟨e221571, e221573, z221575, e221572, b221576, p221574⟩ := p221570
  subst e221571
  subst e221572
  subst e221573
  show wp _ _ 289 10 [(0, .ref r0), (1, vI a1), (2, vI a2)] [vI z221575] _ H221562 _
  refine wp_of e289 c289_10 (rw_if_eq (p1 := 17) (p2 := 13) (by decide) rfl ⟨by omega, by omega⟩ (fun c221577 => ?_) (fun c221577 => ?_))
  · refine wp_of e289 c289_17 (rw_aload_n (pc' := 18) (v := .ref r0) rfl rfl rfl ?_)
    refine wp_of e289 c289_18 (rw_iconst (pc' := 19) rfl ?_)
    refine wp_of e289 c289_19 (xc_V (pc' := 22) (r := r0) (as := [vI 1]) (st := []) (lm_9_54) rfl rfl (Nat.le_of_ble_eq_true rfl) w221564 g0 sh_42 (by decide) rfl (by decide) (s_170 w221564 g0 ⟨by omega, by omega⟩) (fun R221578 T221579 H221580 p221581 => ?_))
    obtain ⟨e221582, w221584, f221585, z221586, e221583, b221587⟩ := p221581
    subst e221582
    subst e221583
    have f221588 := f221565.tr f221585 rfl
    show wp _ _ 289 22 [(0, .ref r0), (1, vI a1), (2, vI a2)] [vI z221586] _ H221580 _
    have k221589 : wKI H221580 r0 = wKI H r0 := ((wKI_fr w221564 g0 f221585 rfl).trans (wKI_fr hW g0 ((wfr.rf (l := [(42, 0)])).put' e221563 g0 rfl) rfl))
    exact wp_ireturn e289 c289_22 rfl ⟨rfl, w221584, f221588, z221586, rfl, ⟨by omega, by omega⟩, by omega⟩
  · refine wp_of e289 c289_13 (rw_iload_n (pc' := 14) (z := a1) rfl rfl ?_)
    refine wp_of e289 c289_14 (rw_if_ge (p1 := 23) (p2 := 17) (by decide) rfl ⟨by omega, by omega⟩ (fun c221590 => ?_) (fun c221590 => ?_))
    · refine wp_of e289 c289_23 (rw_aload_n (pc' := 24) (v := .ref r0) rfl rfl rfl ?_)
      have k221591 : wLM H221562 r0 = wLM H r0 := (wLM_fr hW g0 ((wfr.rf (l := [(42, 0)])).put' e221563 g0 rfl) rfl)
      obtain ⟨r221592, q221593, g221594⟩ := (w221564.opt g0 (t' := 54) (n := 33) (j := 3) (p := 0) (q := 0) rfl (by decide) rfl).resolve_left (by omega)
      refine wp_of e289 c289_24 (xc_V (pc' := 27) (r := r0) (as := []) (st := []) (lm_9_376) rfl rfl (Nat.le_of_ble_eq_true rfl) w221564 g0 sh_42 (by decide) rfl (by decide) (s_220 w221564 g0 q221593 g221594) (fun R221595 T221596 H221597 p221598 => ?_))
      obtain ⟨e221599, e221601, z221603, e221600, b221604, p221602⟩ := p221598
      subst e221599
      subst e221600
      subst e221601
      show wp _ _ 289 27 [(0, .ref r0), (1, vI a1), (2, vI a2)] [vL z221603] _ H221562 _
      refine wp_of e289 c289_27 (rw_ldc2 (pc' := 30) (z := 20000) rfl rfl rfl ?_)
      refine wp_of e289 c289_30 (rw_lcmp (pc' := 31) rfl ⟨by omega, by omega⟩ ⟨by omega, by omega⟩ ?_)
      have b221605 := wq_cmp_b z221603 20000
      refine wp_of e289 c289_31 (rw_if_le (p1 := 40) (p2 := 34) (by decide) rfl ⟨by omega, by omega⟩ (fun c221606 => ?_) (fun c221606 => ?_))
      · refine wp_of e289 c289_40 (rw_iload_n (pc' := 41) (z := a1) rfl rfl ?_)
        refine wp_of e289 c289_41 (rw_i2l (pc' := 42) rfl ⟨by omega, by omega⟩ ?_)
        refine wp_of e289 c289_42 (rw_aload_n (pc' := 43) (v := .ref r0) rfl rfl rfl ?_)
        refine wp_of e289 c289_43 (xc_V (pc' := 46) (r := r0) (as := []) (st := [vL a1]) (lm_9_376) rfl rfl (Nat.le_of_ble_eq_true rfl) w221564 g0 sh_42 (by decide) rfl (by decide) (s_220 w221564 g0 q221593 g221594) (fun R221607 T221608 H221609 p221610 => ?_))
        obtain ⟨e221611, e221613, z221615, e221612, b221616, p221614⟩ := p221610
        subst e221611
        subst e221612
        subst e221613
        show wp _ _ 289 46 [(0, .ref r0), (1, vI a1), (2, vI a2)] [vL z221615, vL a1] _ H221562 _
        refine wp_of e289 c289_46 (rw_lcmp (pc' := 47) rfl ⟨by omega, by omega⟩ ⟨by omega, by omega⟩ ?_)
        have b221617 := wq_cmp_b a1 z221615
        refine wp_of e289 c289_47 (rw_if_lt (p1 := 56) (p2 := 50) (by decide) rfl ⟨by omega, by omega⟩ (fun c221618 => ?_) (fun c221618 => ?_))
        · refine wp_of e289 c289_56 (rw_aload_n (pc' := 57) (v := .ref r0) rfl rfl rfl ?_)
          refine wp_of e289 c289_57 (rw_iload_n (pc' := 58) (z := a1) rfl rfl ?_)
          refine wp_of e289 c289_58 (xc_V (pc' := 61) (r := r0) (as := [vI a1]) (st := []) (lm_9_425) rfl rfl (Nat.le_of_ble_eq_true rfl) w221564 g0 sh_42 (by decide) rfl (by decide) (s_243 w221564 g0 ⟨by omega, by omega⟩ q221593 g221594 (by omega)) (fun R221619 T221620 H221621 p221622 => ?_))
          obtain ⟨e221623, w221625, f221626, e221624⟩ := p221622
          subst e221623
          subst e221624
          have f221627 := f221565.tr f221626 rfl
          show wp _ _ 289 61 [(0, .ref r0), (1, vI a1), (2, vI a2)] [] _ H221621 _
          refine wp_of e289 c289_61 (rw_aload_n (pc' := 62) (v := .ref r0) rfl rfl rfl ?_)
          refine wp_of e289 c289_62 (rw_aload_n (pc' := 63) (v := .ref r0) rfl rfl rfl ?_)
          refine wp_of e289 c289_63 (xg_R (pc' := 66) lf_9_39 w221625 g0 sh_42 (by decide) (by decide) ty_42_27 rfl rfl (fun r221628 q221629 g221630 => ?_))
          refine wp_of e289 c289_66 (rw_iload_n (pc' := 67) (z := a2) rfl rfl ?_)
          refine wp_of e289 c289_67 (xa_I (so := 0) (pc' := 68) w221625 g221630 sh_51 (by decide) (ty_51 _) (by omega) (by omega) rfl (fun b221631 b221632 => ?_))
          refine wp_of e289 c289_68 (xc_V (pc' := 71) (r := r0) (as := [vI (H221621 r221628 (a2.toNat))]) (st := []) (lm_9_58) rfl rfl (Nat.le_of_ble_eq_true rfl) w221625 g0 sh_42 (by decide) rfl (by decide) (s_209 w221625 g0 ⟨by omega, by omega⟩) (fun R221633 T221634 H221635 p221636 => ?_))
          obtain ⟨e221637, w221639, f221640, z221641, e221638, b221642⟩ := p221636
          subst e221637
          subst e221638
          have f221643 := f221627.tr f221640 rfl
          show wp _ _ 289 71 [(0, .ref r0), (1, vI a1), (2, vI a2)] [vI z221641] _ H221635 _
          have k221644 : wKI H221635 r0 = wKI H r0 := ((wKI_fr w221625 g0 f221640 rfl).trans ((wKI_fr w221564 g0 f221626 rfl).trans (wKI_fr hW g0 ((wfr.rf (l := [(42, 0)])).put' e221563 g0 rfl) rfl)))
          exact wp_ireturn e289 c289_71 rfl ⟨rfl, w221639, f221643, z221641, rfl, ⟨by omega, by omega⟩, by omega⟩
        · refine wp_of e289 c289_50 (rw_aload_n (pc' := 51) (v := .ref r0) rfl rfl rfl ?_)
          refine wp_of e289 c289_51 (rw_iconst (pc' := 52) rfl ?_)
          refine wp_of e289 c289_52 (xc_V (pc' := 55) (r := r0) (as := [vI 1]) (st := []) (lm_9_54) rfl rfl (Nat.le_of_ble_eq_true rfl) w221564 g0 sh_42 (by decide) rfl (by decide) (s_170 w221564 g0 ⟨by omega, by omega⟩) (fun R221645 T221646 H221647 p221648 => ?_))
          obtain ⟨e221649, w221651, f221652, z221653, e221650, b221654⟩ := p221648
          subst e221649
          subst e221650
          have f221655 := f221565.tr f221652 rfl
          show wp _ _ 289 55 [(0, .ref r0), (1, vI a1), (2, vI a2)] [vI z221653] _ H221647 _
          have k221656 : wKI H221647 r0 = wKI H r0 := ((wKI_fr w221564 g0 f221652 rfl).trans (wKI_fr hW g0 ((wfr.rf (l := [(42, 0)])).put' e221563 g0 rfl) rfl))
          exact wp_ireturn e289 c289_55 rfl ⟨rfl, w221651, f221655, z221653, rfl, ⟨by omega, by omega⟩, by omega⟩
      · refine wp_of e289 c289_34 (rw_aload_n (pc' := 35) (v := .ref r0) rfl rfl rfl ?_)
        refine wp_of e289 c289_35 (rw_iconst (pc' := 36) rfl ?_)
        refine wp_of e289 c289_36 (xc_V (pc' := 39) (r := r0) (as := [vI 3]) (st := []) (lm_9_54) rfl rfl (Nat.le_of_ble_eq_true rfl) w221564 g0 sh_42 (by decide) rfl (by decide) (s_170 w221564 g0 ⟨by omega, by omega⟩) (fun R221657 T221658 H221659 p221660 => ?_))
        obtain ⟨e221661, w221663, f221664, z221665, e221662, b221666⟩ := p221660
        subst e221661
        subst e221662
        have f221667 := f221565.tr f221664 rfl
        show wp _ _ 289 39 [(0, .ref r0), (1, vI a1), (2, vI a2)] [vI z221665] _ H221659 _
        have k221668 : wKI H221659 r0 = wKI H r0 := ((wKI_fr w221564 g0 f221664 rfl).trans (wKI_fr hW g0 ((wfr.rf (l := [(42, 0)])).put' e221563 g0 rfl) rfl))
        exact wp_ireturn e289 c289_39 rfl ⟨rfl, w221663, f221667, z221665, rfl, ⟨by omega, by omega⟩, by omega⟩
    · refine wp_of e289 c289_17 (rw_aload_n (pc' := 18) (v := .ref r0) rfl rfl rfl ?_)
      refine wp_of e289 c289_18 (rw_iconst (pc' := 19) rfl ?_)
      refine wp_of e289 c289_19 (xc_V (pc' := 22) (r := r0) (as := [vI 1]) (st := []) (lm_9_54) rfl rfl (Nat.le_of_ble_eq_true rfl) w221564 g0 sh_42 (by decide) rfl (by decide) (s_170 w221564 g0 ⟨by omega, by omega⟩) (fun R221669 T221670 H221671 p221672 => ?_))
      obtain ⟨e221673, w221675, f221676, z221677, e221674, b221678⟩ := p221672
      subst e221673
      subst e221674
      have f221679 := f221565.tr f221676 rfl
      show wp _ _ 289 22 [(0, .ref r0), (1, vI a1), (2, vI a2)] [vI z221677] _ H221671 _
      have k221680 : wKI H221671 r0 = wKI H r0 := ((wKI_fr w221564 g0 f221676 rfl).trans (wKI_fr hW g0 ((wfr.rf (l := [(42, 0)])).put' e221563 g0 rfl) rfl))
      exact wp_ireturn e289 c289_22 rfl ⟨rfl, w221675, f221679, z221677, rfl, ⟨by omega, by omega⟩, by omega⟩
/-! StrikeAwakeModel.again()Z -/
theorem e290 : wq_en 290 = some (9, 1, false, some FieldType.boolean) := rfl
theorem c290_0 : mc_cd 290 0 = some (.aload_n 0, 1) := by decide +kernel
theorem c290_1 : mc_cd 290 1 = some (.iconst 0, 1) := by decide +kernel
theorem c290_2 : mc_cd 290 2 = some (.putfield 48, 3) := by decide +kernel
theorem c290_5 : mc_cd 290 5 = some (.aload_n 0, 1) := by decide +kernel
theorem c290_6 : mc_cd 290 6 = some (.getfield 337, 3) := by decide +kernel
theorem c290_9 : mc_cd 290 9 = some (.ifnonnull 9, 3) := by decide +kernel
theorem c290_12 : mc_cd 290 12 = some (.aload_n 0, 1) := by decide +kernel
theorem c290_13 : mc_cd 290 13 = some (.iconst 1, 1) := by decide +kernel
theorem c290_14 : mc_cd 290 14 = some (.invokevirtual 400, 3) := by decide +kernel
theorem c290_17 : mc_cd 290 17 = some (.ireturn, 1) := by decide +kernel
theorem c290_18 : mc_cd 290 18 = some (.aload_n 0, 1) := by decide +kernel
theorem c290_19 : mc_cd 290 19 = some (.iconst 0, 1) := by decide +kernel
theorem c290_20 : mc_cd 290 20 = some (.putfield 340, 3) := by decide +kernel
theorem c290_23 : mc_cd 290 23 = some (.aload_n 0, 1) := by decide +kernel
theorem c290_24 : mc_cd 290 24 = some (.invokevirtual 403, 3) := by decide +kernel
theorem c290_27 : mc_cd 290 27 = some (.ireturn, 1) := by decide +kernel
abbrev q_290 (r0 : Nat) (T : wq_T) (H : wq_H) : Option Value → wq_T → wq_H → Prop := fun r T' H' => T = T' ∧ WT T H' ∧ wfr [(42, 0), (42, 1), (42, 2), (42, 32)] T H H' ∧ ∃ z : Int, some (vI z) = r ∧ (0 ≤ z ∧ z ≤ 1) ∧ (wKI H' r0 = 1)
set_option maxHeartbeats 4000000 in
theorem s_290 {kt : Nat → Option mc_E} {T : wq_T} {H : wq_H} {r0 : Nat} (hW : WT T H) (g0 : T.2.2.2 r0 = some 42) (p0 : wKI H r0 = 1) : wpc kt 3 290 [.ref r0] T H (q_290 r0 T H) := by
  refine wp_enter e290 (Nat.le_of_ble_eq_true rfl) rfl ?_
  have f0 : wfr [(42, 0), (42, 1), (42, 2), (42, 32)] T H H := wfr.rf
  show wp _ _ 290 0 [(0, .ref r0)] [] _ H _
  refine wp_of e290 c290_0 (rw_aload_n (pc' := 1) (v := .ref r0) rfl rfl rfl ?_)
  refine wp_of e290 c290_1 (rw_iconst (pc' := 2) rfl ?_)
  refine wp_of e290 c290_2 (xp_I (pc' := 5) lf_9_48 hW g0 sh_42 (by decide) (by decide) ty_42_0 rfl rfl (by omega) (by omega) ⟨by omega, by omega⟩ rfl (fun H221718 e221719 w221720 => ?_))
  have f221721 := f0.put' e221719 g0 rfl
  have k221722 : H221718 r0 0 = 0 := wq_u_s e221719
  refine wp_of e290 c290_5 (rw_aload_n (pc' := 6) (v := .ref r0) rfl rfl rfl ?_)
  refine wp_of e290 c290_6 (xg_O (pc' := 9) lf_9_337 w221720 g0 sh_42 (by decide) (by decide) ty_42_3 rfl rfl (fun q221724 => ?_) (fun r221723 q221724 g221725 => ?_))
  · refine wp_of e290 c290_9 (rw_ifnonnull_n (p1 := 18) (p2 := 12) (by decide) rfl ?_)
    refine wp_of e290 c290_12 (rw_aload_n (pc' := 13) (v := .ref r0) rfl rfl rfl ?_)
    refine wp_of e290 c290_13 (rw_iconst (pc' := 14) rfl ?_)
    refine wp_of e290 c290_14 (xc_V (pc' := 17) (r := r0) (as := [vI 1]) (st := []) (lm_9_400) rfl rfl (Nat.le_of_ble_eq_true rfl) w221720 g0 sh_42 (by decide) rfl (by decide) (s_223 w221720 g0 ⟨by omega, by omega⟩) (fun R221726 T221727 H221728 p221729 => ?_))
    obtain ⟨e221730, w221732, f221733, z221734, e221731, b221735⟩ := p221729
    subst e221730
    subst e221731
    have f221736 := f221721.tr f221733 rfl
    show wp _ _ 290 17 [(0, .ref r0)] [vI z221734] _ H221728 _
    have k221737 : wKI H221728 r0 = wKI H r0 := ((wKI_fr w221720 g0 f221733 rfl).trans (wKI_fr hW g0 ((wfr.rf (l := [(42, 0)])).put' e221719 g0 rfl) rfl))
    exact wp_zreturn e290 c290_17 rfl (by omega) ⟨rfl, w221732, f221736, z221734, rfl, ⟨by omega, by omega⟩, by omega⟩
  · refine wp_of e290 c290_9 (rw_ifnonnull_r (p1 := 18) (p2 := 12) (by decide) rfl ?_)
    refine wp_of e290 c290_18 (rw_aload_n (pc' := 19) (v := .ref r0) rfl rfl rfl ?_)
    refine wp_of e290 c290_19 (rw_iconst (pc' := 20) rfl ?_)
    refine wp_of e290 c290_20 (xp_I (pc' := 23) lf_9_340 w221720 g0 sh_42 (by decide) (by decide) ty_42_32 rfl rfl (by omega) (by omega) ⟨by omega, by omega⟩ rfl (fun H221738 e221739 w221740 => ?_))
    have f221741 := f221721.put' e221739 g0 rfl
    have k221742 : H221738 r0 32 = 0 := wq_u_s e221739
    refine wp_of e290 c290_23 (rw_aload_n (pc' := 24) (v := .ref r0) rfl rfl rfl ?_)
    refine wp_of e290 c290_24 (xc_V (pc' := 27) (r := r0) (as := []) (st := []) (lm_9_403) rfl rfl (Nat.le_of_ble_eq_true rfl) w221740 g0 sh_42 (by decide) rfl (by decide) (s_224 w221740 g0) (fun R221743 T221744 H221745 p221746 => ?_))
    obtain ⟨e221747, w221749, f221750, z221751, e221748, b221752⟩ := p221746
    subst e221747
    subst e221748
    have f221753 := f221741.tr f221750 rfl
    show wp _ _ 290 27 [(0, .ref r0)] [vI z221751] _ H221745 _
    have k221754 : wKI H221745 r0 = wKI H r0 := ((wKI_fr w221740 g0 f221750 rfl).trans ((wKI_fr w221720 g0 ((wfr.rf (l := [(42, 32)])).put' e221739 g0 rfl) rfl).trans (wKI_fr hW g0 ((wfr.rf (l := [(42, 0)])).put' e221719 g0 rfl) rfl)))
    exact wp_zreturn e290 c290_27 rfl (by omega) ⟨rfl, w221749, f221753, z221751, rfl, ⟨by omega, by omega⟩, by omega⟩
/-! StrikeAwakeModel.image()J -/
theorem e291 : wq_en 291 = some (9, 4, false, some FieldType.long) := rfl
theorem c291_0 : mc_cd 291 0 = some (.aload_n 0, 1) := by decide +kernel
theorem c291_1 : mc_cd 291 1 = some (.iconst 0, 1) := by decide +kernel
theorem c291_2 : mc_cd 291 2 = some (.putfield 48, 3) := by decide +kernel
theorem c291_5 : mc_cd 291 5 = some (.aload_n 0, 1) := by decide +kernel
theorem c291_6 : mc_cd 291 6 = some (.getfield 337, 3) := by decide +kernel
theorem c291_9 : mc_cd 291 9 = some (.ifnonnull 10, 3) := by decide +kernel
theorem c291_12 : mc_cd 291 12 = some (.aload_n 0, 1) := by decide +kernel
theorem c291_13 : mc_cd 291 13 = some (.iconst 1, 1) := by decide +kernel
theorem c291_14 : mc_cd 291 14 = some (.invokevirtual 54, 3) := by decide +kernel
theorem c291_17 : mc_cd 291 17 = some (.i2l, 1) := by decide +kernel
theorem c291_18 : mc_cd 291 18 = some (.lreturn, 1) := by decide +kernel
theorem c291_19 : mc_cd 291 19 = some (.aload_n 0, 1) := by decide +kernel
theorem c291_20 : mc_cd 291 20 = some (.getfield 340, 3) := by decide +kernel
theorem c291_23 : mc_cd 291 23 = some (.i2l, 1) := by decide +kernel
theorem c291_24 : mc_cd 291 24 = some (.lstore_n 1, 1) := by decide +kernel
theorem c291_25 : mc_cd 291 25 = some (.iconst 0, 1) := by decide +kernel
theorem c291_26 : mc_cd 291 26 = some (.istore_n 3, 1) := by decide +kernel
theorem c291_27 : mc_cd 291 27 = some (.iload_n 3, 1) := by decide +kernel
theorem c291_28 : mc_cd 291 28 = some (.aload_n 0, 1) := by decide +kernel
theorem c291_29 : mc_cd 291 29 = some (.getfield 337, 3) := by decide +kernel
theorem c291_32 : mc_cd 291 32 = some (.getfield 188, 3) := by decide +kernel
theorem c291_35 : mc_cd 291 35 = some (.if_icmp .ge 23, 3) := by decide +kernel
theorem c291_38 : mc_cd 291 38 = some (.ldc2_w 493, 3) := by decide +kernel
theorem c291_41 : mc_cd 291 41 = some (.lload_n 1, 1) := by decide +kernel
theorem c291_42 : mc_cd 291 42 = some (.lmul, 1) := by decide +kernel
theorem c291_43 : mc_cd 291 43 = some (.aload_n 0, 1) := by decide +kernel
theorem c291_44 : mc_cd 291 44 = some (.getfield 36, 3) := by decide +kernel
theorem c291_47 : mc_cd 291 47 = some (.iload_n 3, 1) := by decide +kernel
theorem c291_48 : mc_cd 291 48 = some (.iaload, 1) := by decide +kernel
theorem c291_49 : mc_cd 291 49 = some (.i2l, 1) := by decide +kernel
theorem c291_50 : mc_cd 291 50 = some (.ladd, 1) := by decide +kernel
theorem c291_51 : mc_cd 291 51 = some (.lstore_n 1, 1) := by decide +kernel
theorem c291_52 : mc_cd 291 52 = some (.iinc 3 1, 3) := by decide +kernel
theorem c291_55 : mc_cd 291 55 = some (.goto (-28), 3) := by decide +kernel
theorem c291_58 : mc_cd 291 58 = some (.aload_n 0, 1) := by decide +kernel
theorem c291_59 : mc_cd 291 59 = some (.lload_n 1, 1) := by decide +kernel
theorem c291_60 : mc_cd 291 60 = some (.invokevirtual 380, 3) := by decide +kernel
theorem c291_63 : mc_cd 291 63 = some (.lreturn, 1) := by decide +kernel
abbrev q_291 (r0 : Nat) (T : wq_T) (H : wq_H) : Option Value → wq_T → wq_H → Prop := fun r T' H' => T = T' ∧ WT T H' ∧ wfr [(42, 0), (42, 1), (42, 2)] T H H' ∧ ∃ z : Int, some (vL z) = r ∧ ((-9223372036854775808) ≤ z ∧ z ≤ 9223372036854775807) ∧ (wKI H' r0 = 1)
set_option maxHeartbeats 4000000 in
theorem s_291 {kt : Nat → Option mc_E} {T : wq_T} {H : wq_H} {r0 : Nat} (hW : WT T H) (g0 : T.2.2.2 r0 = some 42) (p0 : wKI H r0 = 1) : wpc kt 3 291 [.ref r0] T H (q_291 r0 T H) := by
  refine wp_enter e291 (Nat.le_of_ble_eq_true rfl) rfl ?_
  have f0 : wfr [(42, 0), (42, 1), (42, 2)] T H H := wfr.rf
  show wp _ _ 291 0 [(0, .ref r0)] [] _ H _
  refine wp_of e291 c291_0 (rw_aload_n (pc' := 1) (v := .ref r0) rfl rfl rfl ?_)
  refine wp_of e291 c291_1 (rw_iconst (pc' := 2) rfl ?_)
  refine wp_of e291 c291_2 (xp_I (pc' := 5) lf_9_48 hW g0 sh_42 (by decide) (by decide) ty_42_0 rfl rfl (by omega) (by omega) ⟨by omega, by omega⟩ rfl (fun H221888 e221889 w221890 => ?_))
  have f221891 := f0.put' e221889 g0 rfl
  have k221892 : H221888 r0 0 = 0 := wq_u_s e221889
  refine wp_of e291 c291_5 (rw_aload_n (pc' := 6) (v := .ref r0) rfl rfl rfl ?_)
  refine wp_of e291 c291_6 (xg_O (pc' := 9) lf_9_337 w221890 g0 sh_42 (by decide) (by decide) ty_42_3 rfl rfl (fun q221894 => ?_) (fun r221893 q221894 g221895 => ?_))
  · refine wp_of e291 c291_9 (rw_ifnonnull_n (p1 := 19) (p2 := 12) (by decide) rfl ?_)
    refine wp_of e291 c291_12 (rw_aload_n (pc' := 13) (v := .ref r0) rfl rfl rfl ?_)
    refine wp_of e291 c291_13 (rw_iconst (pc' := 14) rfl ?_)
    refine wp_of e291 c291_14 (xc_V (pc' := 17) (r := r0) (as := [vI 1]) (st := []) (lm_9_54) rfl rfl (Nat.le_of_ble_eq_true rfl) w221890 g0 sh_42 (by decide) rfl (by decide) (s_170 w221890 g0 ⟨by omega, by omega⟩) (fun R221896 T221897 H221898 p221899 => ?_))
    obtain ⟨e221900, w221902, f221903, z221904, e221901, b221905⟩ := p221899
    subst e221900
    subst e221901
    have f221906 := f221891.tr f221903 rfl
    show wp _ _ 291 17 [(0, .ref r0)] [vI z221904] _ H221898 _
    refine wp_of e291 c291_17 (rw_i2l (pc' := 18) rfl ⟨by omega, by omega⟩ ?_)
    have k221907 : wKI H221898 r0 = wKI H r0 := ((wKI_fr w221890 g0 f221903 rfl).trans (wKI_fr hW g0 ((wfr.rf (l := [(42, 0)])).put' e221889 g0 rfl) rfl))
    exact wp_lreturn e291 c291_18 rfl ⟨rfl, w221902, f221906, z221904, rfl, ⟨by omega, by omega⟩, by omega⟩
  · refine wp_of e291 c291_9 (rw_ifnonnull_r (p1 := 19) (p2 := 12) (by decide) rfl ?_)
    refine wp_of e291 c291_19 (rw_aload_n (pc' := 20) (v := .ref r0) rfl rfl rfl ?_)
    refine wp_of e291 c291_20 (xg_I (pc' := 23) lf_9_340 w221890 g0 sh_42 (by decide) (by decide) ty_42_32 rfl rfl (fun b221908 b221909 => ?_))
    refine wp_of e291 c291_23 (rw_i2l (pc' := 24) rfl ⟨by omega, by omega⟩ ?_)
    refine wp_of e291 c291_24 (rw_lstore_n (pc' := 25) (z := H221888 r0 32) (L' := [(1, vL (H221888 r0 32)), (0, .ref r0)]) rfl rfl rfl ?_)
    refine wp_of e291 c291_25 (rw_iconst (pc' := 26) rfl ?_)
    refine wp_of e291 c291_26 (rw_istore_n (pc' := 27) (z := 0) (L' := [(3, vI 0), (1, vL (H221888 r0 32)), (0, .ref r0)]) rfl rfl rfl ?_)
    have lp221996 : ∀ (n221997 : Nat) (v221999 : Int) (v222000 : Int), (0 ≤ v221999 ∧ v221999 ≤ 6) → ((-9223372036854775808) ≤ v222000 ∧ v222000 ≤ 9223372036854775807) → (6 - v221999).toNat = n221997 → wp kt 2 291 27 [(3, vI v221999), (1, vL v222000), (0, .ref r0)] [] T H221888 (q_291 r0 T H) := by
      intro n221997
      induction n221997 using Nat.strongRecOn with
      | _ n221997 ih221998 =>
        intro v221999 v222000 b222003 b222004 m222005
        refine wp_of e291 c291_27 (rw_iload_n (pc' := 28) (z := v221999) rfl rfl ?_)
        refine wp_of e291 c291_28 (rw_aload_n (pc' := 29) (v := .ref r0) rfl rfl rfl ?_)
        refine wp_of e291 c291_29 (xg_K (pc' := 32) lf_9_337 w221890 g0 sh_42 (by decide) (by decide) rfl q221894 rfl ?_)
        refine wp_of e291 c291_32 (xg_I (pc' := 35) lf_9_188 w221890 g221895 sh_54 (by decide) (by decide) ty_54_3 rfl rfl (fun b222006 b222007 => ?_))
        refine wp_of e291 c291_35 (rw_icmp_ge (p1 := 58) (p2 := 38) (by decide) rfl ⟨by omega, by omega⟩ ⟨by omega, by omega⟩ (fun c222008 => ?_) (fun c222008 => ?_))
        · refine wp_of e291 c291_58 (rw_aload_n (pc' := 59) (v := .ref r0) rfl rfl rfl ?_)
          refine wp_of e291 c291_59 (rw_lload_n (pc' := 60) (z := v222000) rfl rfl ?_)
          refine wp_of e291 c291_60 (xc_V (pc' := 63) (r := r0) (as := [vL v222000]) (st := []) (lm_9_380) rfl rfl (Nat.le_of_ble_eq_true rfl) w221890 g0 sh_42 (by decide) rfl (by decide) (s_221 w221890 g0 ⟨by omega, by omega⟩) (fun R222009 T222010 H222011 p222012 => ?_))
          obtain ⟨e222013, w222015, f222016, z222017, e222014, b222018⟩ := p222012
          subst e222013
          subst e222014
          have f222019 := f221891.tr f222016 rfl
          show wp _ _ 291 63 [(3, vI v221999), (1, vL v222000), (0, .ref r0)] [vL z222017] _ H222011 _
          have k222020 : wKI H222011 r0 = wKI H r0 := ((wKI_fr w221890 g0 f222016 rfl).trans (wKI_fr hW g0 ((wfr.rf (l := [(42, 0)])).put' e221889 g0 rfl) rfl))
          exact wp_lreturn e291 c291_63 rfl ⟨rfl, w222015, f222019, z222017, rfl, ⟨by omega, by omega⟩, by omega⟩
        · refine wp_of e291 c291_38 (rw_ldc2 (pc' := 41) (z := 40) rfl rfl rfl ?_)
          refine wp_of e291 c291_41 (rw_lload_n (pc' := 42) (z := v222000) rfl rfl ?_)
          refine wp_of e291 c291_42 (rw_lmulw (pc' := 43) rfl ?_)
          obtain ⟨v222021, e222022⟩ : ∃ x : Int, x = wl_w (40 * v222000) := ⟨_, rfl⟩
          rw [← e222022]
          have b222023 : -9223372036854775808 ≤ v222021 ∧ v222021 ≤ 9223372036854775807 := by
            rw [e222022]
            exact wL_w _
          refine wp_of e291 c291_43 (rw_aload_n (pc' := 44) (v := .ref r0) rfl rfl rfl ?_)
          refine wp_of e291 c291_44 (xg_R (pc' := 47) lf_9_36 w221890 g0 sh_42 (by decide) (by decide) ty_42_26 rfl rfl (fun r222024 q222025 g222026 => ?_))
          refine wp_of e291 c291_47 (rw_iload_n (pc' := 48) (z := v221999) rfl rfl ?_)
          refine wp_of e291 c291_48 (xa_I (so := 0) (pc' := 49) w221890 g222026 sh_50 (by decide) (ty_50 _) (by omega) (by omega) rfl (fun b222027 b222028 => ?_))
          refine wp_of e291 c291_49 (rw_i2l (pc' := 50) rfl ⟨by omega, by omega⟩ ?_)
          refine wp_of e291 c291_50 (rw_laddw (pc' := 51) rfl ?_)
          obtain ⟨v222029, e222030⟩ : ∃ x : Int, x = wl_w (v222021 + (H221888 r222024 (v221999.toNat))) := ⟨_, rfl⟩
          rw [← e222030]
          have b222031 : -9223372036854775808 ≤ v222029 ∧ v222029 ≤ 9223372036854775807 := by
            rw [e222030]
            exact wL_w _
          refine wp_of e291 c291_51 (rw_lstore_n (pc' := 52) (z := v222029) (L' := [(1, vL v222029), (3, vI v221999), (0, .ref r0)]) rfl rfl rfl ?_)
          refine wp_of e291 c291_52 (rw_iinc (pc' := 55) (z := v221999) (L' := [(3, vI (v221999 + 1)), (1, vL v222029), (0, .ref r0)]) rfl rfl rfl rfl ?_)
          refine wp_of e291 c291_55 (rw_goto (p1 := 27) (by decide) ?_)
          exact wp_lc (ks := [3, 1, 0]) (wl_c rfl (wl_c rfl (wl_c rfl wl_n))) rfl (by decide) (ih221998 _ (by omega) (v221999 + 1) v222029 ⟨by omega, by omega⟩ ⟨by omega, by omega⟩ rfl)
    exact wp_lc (ks := [3, 1, 0]) (wl_c rfl (wl_c rfl (wl_c rfl wl_n))) rfl (by decide) (lp221996 _ 0 (H221888 r0 32) ⟨by omega, by omega⟩ ⟨by omega, by omega⟩ rfl)
/-! StrikeAwakeModel.restore(J)Z -/
theorem e292 : wq_en 292 = some (9, 7, false, some FieldType.boolean) := rfl
theorem c292_0 : mc_cd 292 0 = some (.aload_n 0, 1) := by decide +kernel
theorem c292_1 : mc_cd 292 1 = some (.iconst 0, 1) := by decide +kernel
theorem c292_2 : mc_cd 292 2 = some (.putfield 48, 3) := by decide +kernel
theorem c292_5 : mc_cd 292 5 = some (.aload_n 0, 1) := by decide +kernel
theorem c292_6 : mc_cd 292 6 = some (.getfield 337, 3) := by decide +kernel
theorem c292_9 : mc_cd 292 9 = some (.ifnonnull 9, 3) := by decide +kernel
theorem c292_12 : mc_cd 292 12 = some (.aload_n 0, 1) := by decide +kernel
theorem c292_13 : mc_cd 292 13 = some (.iconst 1, 1) := by decide +kernel
theorem c292_14 : mc_cd 292 14 = some (.invokevirtual 400, 3) := by decide +kernel
theorem c292_17 : mc_cd 292 17 = some (.ireturn, 1) := by decide +kernel
theorem c292_18 : mc_cd 292 18 = some (.lload_n 1, 1) := by decide +kernel
theorem c292_19 : mc_cd 292 19 = some (.lstore_n 3, 1) := by decide +kernel
theorem c292_20 : mc_cd 292 20 = some (.lload_n 1, 1) := by decide +kernel
theorem c292_21 : mc_cd 292 21 = some (.lconst 0, 1) := by decide +kernel
theorem c292_22 : mc_cd 292 22 = some (.lcmp, 1) := by decide +kernel
theorem c292_23 : mc_cd 292 23 = some (.ifCond .lt 7, 3) := by decide +kernel
theorem c292_26 : mc_cd 292 26 = some (.iconst 1, 1) := by decide +kernel
theorem c292_27 : mc_cd 292 27 = some (.goto 4, 3) := by decide +kernel
theorem c292_30 : mc_cd 292 30 = some (.iconst 0, 1) := by decide +kernel
theorem c292_31 : mc_cd 292 31 = some (.istore 5, 2) := by decide +kernel
theorem c292_33 : mc_cd 292 33 = some (.aload_n 0, 1) := by decide +kernel
theorem c292_34 : mc_cd 292 34 = some (.getfield 337, 3) := by decide +kernel
theorem c292_37 : mc_cd 292 37 = some (.getfield 188, 3) := by decide +kernel
theorem c292_40 : mc_cd 292 40 = some (.iconst 1, 1) := by decide +kernel
theorem c292_41 : mc_cd 292 41 = some (.isub, 1) := by decide +kernel
theorem c292_42 : mc_cd 292 42 = some (.istore 6, 2) := by decide +kernel
theorem c292_44 : mc_cd 292 44 = some (.iload 6, 2) := by decide +kernel
theorem c292_46 : mc_cd 292 46 = some (.ifCond .lt 67, 3) := by decide +kernel
theorem c292_49 : mc_cd 292 49 = some (.iload 5, 2) := by decide +kernel
theorem c292_51 : mc_cd 292 51 = some (.ifCond .eq 62, 3) := by decide +kernel
theorem c292_54 : mc_cd 292 54 = some (.aload_n 0, 1) := by decide +kernel
theorem c292_55 : mc_cd 292 55 = some (.getfield 45, 3) := by decide +kernel
theorem c292_58 : mc_cd 292 58 = some (.iload 6, 2) := by decide +kernel
theorem c292_60 : mc_cd 292 60 = some (.lload_n 3, 1) := by decide +kernel
theorem c292_61 : mc_cd 292 61 = some (.ldc2_w 493, 3) := by decide +kernel
theorem c292_64 : mc_cd 292 64 = some (.lrem, 1) := by decide +kernel
theorem c292_65 : mc_cd 292 65 = some (.l2i, 1) := by decide +kernel
theorem c292_66 : mc_cd 292 66 = some (.iastore, 1) := by decide +kernel
theorem c292_67 : mc_cd 292 67 = some (.aload_n 0, 1) := by decide +kernel
theorem c292_68 : mc_cd 292 68 = some (.getfield 45, 3) := by decide +kernel
theorem c292_71 : mc_cd 292 71 = some (.iload 6, 2) := by decide +kernel
theorem c292_73 : mc_cd 292 73 = some (.iaload, 1) := by decide +kernel
theorem c292_74 : mc_cd 292 74 = some (.ifCond .eq 20, 3) := by decide +kernel
theorem c292_77 : mc_cd 292 77 = some (.aload_n 0, 1) := by decide +kernel
theorem c292_78 : mc_cd 292 78 = some (.getfield 45, 3) := by decide +kernel
theorem c292_81 : mc_cd 292 81 = some (.iload 6, 2) := by decide +kernel
theorem c292_83 : mc_cd 292 83 = some (.iaload, 1) := by decide +kernel
theorem c292_84 : mc_cd 292 84 = some (.aload_n 0, 1) := by decide +kernel
theorem c292_85 : mc_cd 292 85 = some (.getfield 21, 3) := by decide +kernel
theorem c292_88 : mc_cd 292 88 = some (.iload 6, 2) := by decide +kernel
theorem c292_90 : mc_cd 292 90 = some (.iaload, 1) := by decide +kernel
theorem c292_91 : mc_cd 292 91 = some (.if_icmp .ge 7, 3) := by decide +kernel
theorem c292_94 : mc_cd 292 94 = some (.iconst 1, 1) := by decide +kernel
theorem c292_95 : mc_cd 292 95 = some (.goto 4, 3) := by decide +kernel
theorem c292_98 : mc_cd 292 98 = some (.iconst 0, 1) := by decide +kernel
theorem c292_99 : mc_cd 292 99 = some (.istore 5, 2) := by decide +kernel
theorem c292_101 : mc_cd 292 101 = some (.lload_n 3, 1) := by decide +kernel
theorem c292_102 : mc_cd 292 102 = some (.ldc2_w 493, 3) := by decide +kernel
theorem c292_105 : mc_cd 292 105 = some (.ldiv, 1) := by decide +kernel
theorem c292_106 : mc_cd 292 106 = some (.lstore_n 3, 1) := by decide +kernel
theorem c292_107 : mc_cd 292 107 = some (.iinc 6 (-1), 3) := by decide +kernel
theorem c292_110 : mc_cd 292 110 = some (.goto (-66), 3) := by decide +kernel
theorem c292_113 : mc_cd 292 113 = some (.iload 5, 2) := by decide +kernel
theorem c292_115 : mc_cd 292 115 = some (.ifCond .eq 11, 3) := by decide +kernel
theorem c292_118 : mc_cd 292 118 = some (.lload_n 3, 1) := by decide +kernel
theorem c292_119 : mc_cd 292 119 = some (.ldc2_w 428, 3) := by decide +kernel
theorem c292_122 : mc_cd 292 122 = some (.lcmp, 1) := by decide +kernel
theorem c292_123 : mc_cd 292 123 = some (.ifCond .le 9, 3) := by decide +kernel
theorem c292_126 : mc_cd 292 126 = some (.aload_n 0, 1) := by decide +kernel
theorem c292_127 : mc_cd 292 127 = some (.iconst 2, 1) := by decide +kernel
theorem c292_128 : mc_cd 292 128 = some (.invokevirtual 400, 3) := by decide +kernel
theorem c292_131 : mc_cd 292 131 = some (.ireturn, 1) := by decide +kernel
theorem c292_132 : mc_cd 292 132 = some (.iconst 0, 1) := by decide +kernel
theorem c292_133 : mc_cd 292 133 = some (.istore 6, 2) := by decide +kernel
theorem c292_135 : mc_cd 292 135 = some (.iload 6, 2) := by decide +kernel
theorem c292_137 : mc_cd 292 137 = some (.aload_n 0, 1) := by decide +kernel
theorem c292_138 : mc_cd 292 138 = some (.getfield 337, 3) := by decide +kernel
theorem c292_141 : mc_cd 292 141 = some (.getfield 188, 3) := by decide +kernel
theorem c292_144 : mc_cd 292 144 = some (.if_icmp .ge 23, 3) := by decide +kernel
theorem c292_147 : mc_cd 292 147 = some (.aload_n 0, 1) := by decide +kernel
theorem c292_148 : mc_cd 292 148 = some (.getfield 36, 3) := by decide +kernel
theorem c292_151 : mc_cd 292 151 = some (.iload 6, 2) := by decide +kernel
theorem c292_153 : mc_cd 292 153 = some (.aload_n 0, 1) := by decide +kernel
theorem c292_154 : mc_cd 292 154 = some (.getfield 45, 3) := by decide +kernel
theorem c292_157 : mc_cd 292 157 = some (.iload 6, 2) := by decide +kernel
theorem c292_159 : mc_cd 292 159 = some (.iaload, 1) := by decide +kernel
theorem c292_160 : mc_cd 292 160 = some (.iastore, 1) := by decide +kernel
theorem c292_161 : mc_cd 292 161 = some (.iinc 6 1, 3) := by decide +kernel
theorem c292_164 : mc_cd 292 164 = some (.goto (-29), 3) := by decide +kernel
theorem c292_167 : mc_cd 292 167 = some (.aload_n 0, 1) := by decide +kernel
theorem c292_168 : mc_cd 292 168 = some (.lload_n 3, 1) := by decide +kernel
theorem c292_169 : mc_cd 292 169 = some (.l2i, 1) := by decide +kernel
theorem c292_170 : mc_cd 292 170 = some (.putfield 340, 3) := by decide +kernel
theorem c292_173 : mc_cd 292 173 = some (.aload_n 0, 1) := by decide +kernel
theorem c292_174 : mc_cd 292 174 = some (.invokevirtual 403, 3) := by decide +kernel
theorem c292_177 : mc_cd 292 177 = some (.ireturn, 1) := by decide +kernel
abbrev q_292 (r0 : Nat) (a1 : Int) (T : wq_T) (H : wq_H) : Option Value → wq_T → wq_H → Prop := fun r T' H' => T = T' ∧ WT T H' ∧ wfr [(42, 0), (42, 1), (42, 2), (42, 32), (53, 999), (50, 999)] T H H' ∧ ∃ z : Int, some (vI z) = r ∧ (0 ≤ z ∧ z ≤ 1) ∧ (wKI H' r0 = 1)
set_option maxHeartbeats 4000000 in
theorem s_292 {kt : Nat → Option mc_E} {T : wq_T} {H : wq_H} {r0 : Nat} {a1 : Int} (hW : WT T H) (g0 : T.2.2.2 r0 = some 42) (i1 : (-9223372036854775808) ≤ a1 ∧ a1 ≤ 9223372036854775807) (p0 : wKI H r0 = 1) : wpc kt 3 292 [.ref r0, vL a1] T H (q_292 r0 a1 T H) := by
  refine wp_enter e292 (Nat.le_of_ble_eq_true rfl) rfl ?_
  have f0 : wfr [(42, 0), (42, 1), (42, 2), (42, 32), (53, 999), (50, 999)] T H H := wfr.rf
  show wp _ _ 292 0 [(0, .ref r0), (1, vL a1)] [] _ H _
  refine wp_of e292 c292_0 (rw_aload_n (pc' := 1) (v := .ref r0) rfl rfl rfl ?_)
  refine wp_of e292 c292_1 (rw_iconst (pc' := 2) rfl ?_)
  refine wp_of e292 c292_2 (xp_I (pc' := 5) lf_9_48 hW g0 sh_42 (by decide) (by decide) ty_42_0 rfl rfl (by omega) (by omega) ⟨by omega, by omega⟩ rfl (fun H222390 e222391 w222392 => ?_))
  have f222393 := f0.put' e222391 g0 rfl
  have k222394 : H222390 r0 0 = 0 := wq_u_s e222391
  refine wp_of e292 c292_5 (rw_aload_n (pc' := 6) (v := .ref r0) rfl rfl rfl ?_)
  refine wp_of e292 c292_6 (xg_O (pc' := 9) lf_9_337 w222392 g0 sh_42 (by decide) (by decide) ty_42_3 rfl rfl (fun q222396 => ?_) (fun r222395 q222396 g222397 => ?_))
  · refine wp_of e292 c292_9 (rw_ifnonnull_n (p1 := 18) (p2 := 12) (by decide) rfl ?_)
    refine wp_of e292 c292_12 (rw_aload_n (pc' := 13) (v := .ref r0) rfl rfl rfl ?_)
    refine wp_of e292 c292_13 (rw_iconst (pc' := 14) rfl ?_)
    refine wp_of e292 c292_14 (xc_V (pc' := 17) (r := r0) (as := [vI 1]) (st := []) (lm_9_400) rfl rfl (Nat.le_of_ble_eq_true rfl) w222392 g0 sh_42 (by decide) rfl (by decide) (s_223 w222392 g0 ⟨by omega, by omega⟩) (fun R222398 T222399 H222400 p222401 => ?_))
    obtain ⟨e222402, w222404, f222405, z222406, e222403, b222407⟩ := p222401
    subst e222402
    subst e222403
    have f222408 := f222393.tr f222405 rfl
    show wp _ _ 292 17 [(0, .ref r0), (1, vL a1)] [vI z222406] _ H222400 _
    have k222409 : wKI H222400 r0 = wKI H r0 := ((wKI_fr w222392 g0 f222405 rfl).trans (wKI_fr hW g0 ((wfr.rf (l := [(42, 0)])).put' e222391 g0 rfl) rfl))
    exact wp_zreturn e292 c292_17 rfl (by omega) ⟨rfl, w222404, f222408, z222406, rfl, ⟨by omega, by omega⟩, by omega⟩
  · refine wp_of e292 c292_9 (rw_ifnonnull_r (p1 := 18) (p2 := 12) (by decide) rfl ?_)
    refine wp_of e292 c292_18 (rw_lload_n (pc' := 19) (z := a1) rfl rfl ?_)
    refine wp_of e292 c292_19 (rw_lstore_n (pc' := 20) (z := a1) (L' := [(3, vL a1), (0, .ref r0), (1, vL a1)]) rfl rfl rfl ?_)
    refine wp_of e292 c292_20 (rw_lload_n (pc' := 21) (z := a1) rfl rfl ?_)
    refine wp_of e292 c292_21 (rw_lconst (pc' := 22) (z := 0) rfl rfl ?_)
    refine wp_of e292 c292_22 (rw_lcmp (pc' := 23) rfl ⟨by omega, by omega⟩ ⟨by omega, by omega⟩ ?_)
    have b222410 := wq_cmp_b a1 0
    refine wp_of e292 c292_23 (rw_if_lt (p1 := 30) (p2 := 26) (by decide) rfl ⟨by omega, by omega⟩ (fun c222411 => ?_) (fun c222411 => ?_))
    · refine wp_of e292 c292_30 (rw_iconst (pc' := 31) rfl ?_)
      refine wp_of e292 c292_31 (rw_istore (pc' := 33) (z := 0) (L' := [(5, vI 0), (3, vL a1), (0, .ref r0), (1, vL a1)]) rfl rfl rfl ?_)
      refine wp_of e292 c292_33 (rw_aload_n (pc' := 34) (v := .ref r0) rfl rfl rfl ?_)
      refine wp_of e292 c292_34 (xg_K (pc' := 37) lf_9_337 w222392 g0 sh_42 (by decide) (by decide) rfl q222396 rfl ?_)
      refine wp_of e292 c292_37 (xg_I (pc' := 40) lf_9_188 w222392 g222397 sh_54 (by decide) (by decide) ty_54_3 rfl rfl (fun b222412 b222413 => ?_))
      refine wp_of e292 c292_40 (rw_iconst (pc' := 41) rfl ?_)
      refine wp_of e292 c292_41 (rw_isub (pc' := 42) rfl ?_)
      refine wp_of e292 c292_42 (rw_istore (pc' := 44) (z := (H222390 r222395 3) - 1) (L' := [(6, vI ((H222390 r222395 3) - 1)), (5, vI 0), (3, vL a1), (0, .ref r0), (1, vL a1)]) rfl rfl rfl ?_)
      have lp222416 : ∀ (n222417 : Nat) (v222419 : Int) (v222420 : Int) (v222421 : Int), ((-1) ≤ v222419 ∧ v222419 ≤ 5) → (0 ≤ v222420 ∧ v222420 ≤ 0) → ((-9223372036854775808) ≤ v222421 ∧ v222421 ≤ (-1)) → (v222420 = 0 ∨ 0 ≤ v222421) → 0 = n222417 → wp kt 2 292 44 [(6, vI v222419), (5, vI v222420), (3, vL v222421), (0, .ref r0)] [] T H222390 (q_292 r0 a1 T H) := by
        intro n222417
        induction n222417 using Nat.strongRecOn with
        | _ n222417 ih222418 =>
          intro v222419 v222420 v222421 b222424 b222425 b222426 x222427 m222428
          refine wp_of e292 c292_44 (rw_iload (pc' := 46) (z := v222419) rfl rfl ?_)
          refine wp_of e292 c292_46 (rw_if_lt (p1 := 113) (p2 := 49) (by decide) rfl ⟨by omega, by omega⟩ (fun c222429 => ?_) (fun c222429 => ?_))
          · refine wp_of e292 c292_113 (rw_iload (pc' := 115) (z := v222420) rfl rfl ?_)
            refine wp_of e292 c292_115 (rw_if_eq (p1 := 126) (p2 := 118) (by decide) rfl ⟨by omega, by omega⟩ (fun c222430 => ?_) (fun c222430 => ?_))
            · refine wp_of e292 c292_126 (rw_aload_n (pc' := 127) (v := .ref r0) rfl rfl rfl ?_)
              refine wp_of e292 c292_127 (rw_iconst (pc' := 128) rfl ?_)
              refine wp_of e292 c292_128 (xc_V (pc' := 131) (r := r0) (as := [vI 2]) (st := []) (lm_9_400) rfl rfl (Nat.le_of_ble_eq_true rfl) w222392 g0 sh_42 (by decide) rfl (by decide) (s_223 w222392 g0 ⟨by omega, by omega⟩) (fun R222431 T222432 H222433 p222434 => ?_))
              obtain ⟨e222435, w222437, f222438, z222439, e222436, b222440⟩ := p222434
              subst e222435
              subst e222436
              have f222441 := f222393.tr f222438 rfl
              show wp _ _ 292 131 [(6, vI v222419), (5, vI v222420), (3, vL v222421), (0, .ref r0)] [vI z222439] _ H222433 _
              have k222442 : wKI H222433 r0 = wKI H r0 := ((wKI_fr w222392 g0 f222438 rfl).trans (wKI_fr hW g0 ((wfr.rf (l := [(42, 0)])).put' e222391 g0 rfl) rfl))
              exact wp_zreturn e292 c292_131 rfl (by omega) ⟨rfl, w222437, f222441, z222439, rfl, ⟨by omega, by omega⟩, by omega⟩
            · exfalso
              omega
          · refine wp_of e292 c292_49 (rw_iload (pc' := 51) (z := v222420) rfl rfl ?_)
            refine wp_of e292 c292_51 (rw_if_eq (p1 := 113) (p2 := 54) (by decide) rfl ⟨by omega, by omega⟩ (fun c222443 => ?_) (fun c222443 => ?_))
            · refine wp_of e292 c292_113 (rw_iload (pc' := 115) (z := v222420) rfl rfl ?_)
              refine wp_of e292 c292_115 (rw_if_eq (p1 := 126) (p2 := 118) (by decide) rfl ⟨by omega, by omega⟩ (fun c222444 => ?_) (fun c222444 => ?_))
              · refine wp_of e292 c292_126 (rw_aload_n (pc' := 127) (v := .ref r0) rfl rfl rfl ?_)
                refine wp_of e292 c292_127 (rw_iconst (pc' := 128) rfl ?_)
                refine wp_of e292 c292_128 (xc_V (pc' := 131) (r := r0) (as := [vI 2]) (st := []) (lm_9_400) rfl rfl (Nat.le_of_ble_eq_true rfl) w222392 g0 sh_42 (by decide) rfl (by decide) (s_223 w222392 g0 ⟨by omega, by omega⟩) (fun R222445 T222446 H222447 p222448 => ?_))
                obtain ⟨e222449, w222451, f222452, z222453, e222450, b222454⟩ := p222448
                subst e222449
                subst e222450
                have f222455 := f222393.tr f222452 rfl
                show wp _ _ 292 131 [(6, vI v222419), (5, vI v222420), (3, vL v222421), (0, .ref r0)] [vI z222453] _ H222447 _
                have k222456 : wKI H222447 r0 = wKI H r0 := ((wKI_fr w222392 g0 f222452 rfl).trans (wKI_fr hW g0 ((wfr.rf (l := [(42, 0)])).put' e222391 g0 rfl) rfl))
                exact wp_zreturn e292 c292_131 rfl (by omega) ⟨rfl, w222451, f222455, z222453, rfl, ⟨by omega, by omega⟩, by omega⟩
              · exfalso
                omega
            · exfalso
              omega
      exact wp_lc (ks := [6, 5, 3, 0, 1]) (wl_c rfl (wl_c rfl (wl_c rfl (wl_c rfl wl_n)))) rfl (by decide) (lp222416 _ ((H222390 r222395 3) - 1) 0 a1 ⟨by omega, by omega⟩ ⟨by omega, by omega⟩ ⟨by omega, by omega⟩ (by omega) rfl)
    · refine wp_of e292 c292_26 (rw_iconst (pc' := 27) rfl ?_)
      refine wp_of e292 c292_27 (rw_goto (p1 := 31) (by decide) ?_)
      refine wp_of e292 c292_31 (rw_istore (pc' := 33) (z := 1) (L' := [(5, vI 1), (3, vL a1), (0, .ref r0), (1, vL a1)]) rfl rfl rfl ?_)
      refine wp_of e292 c292_33 (rw_aload_n (pc' := 34) (v := .ref r0) rfl rfl rfl ?_)
      refine wp_of e292 c292_34 (xg_K (pc' := 37) lf_9_337 w222392 g0 sh_42 (by decide) (by decide) rfl q222396 rfl ?_)
      refine wp_of e292 c292_37 (xg_I (pc' := 40) lf_9_188 w222392 g222397 sh_54 (by decide) (by decide) ty_54_3 rfl rfl (fun b222457 b222458 => ?_))
      refine wp_of e292 c292_40 (rw_iconst (pc' := 41) rfl ?_)
      refine wp_of e292 c292_41 (rw_isub (pc' := 42) rfl ?_)
      refine wp_of e292 c292_42 (rw_istore (pc' := 44) (z := (H222390 r222395 3) - 1) (L' := [(6, vI ((H222390 r222395 3) - 1)), (5, vI 1), (3, vL a1), (0, .ref r0), (1, vL a1)]) rfl rfl rfl ?_)
      have lp222523 : ∀ (n222524 : Nat) (v222526 : Int) (v222527 : Int) (v222528 : Int) (H222529 : wq_H), WT T H222529 → wfr [(53, 999)] T H222390 H222529 → ((-1) ≤ v222526 ∧ v222526 ≤ 5) → (0 ≤ v222527 ∧ v222527 ≤ 1) → (0 ≤ v222528 ∧ v222528 ≤ 9223372036854775807) → (v222527 = 0 ∨ 0 ≤ v222528) → (v222526 - (-1)).toNat = n222524 → wp kt 2 292 44 [(6, vI v222526), (5, vI v222527), (3, vL v222528), (0, .ref r0)] [] T H222529 (q_292 r0 a1 T H) := by
        intro n222524
        induction n222524 using Nat.strongRecOn with
        | _ n222524 ih222525 =>
          intro v222526 v222527 v222528 H222529 w222530 f222531 b222532 b222533 b222534 x222535 m222536
          have f222537 := f222393.tr f222531 rfl
          refine wp_of e292 c292_44 (rw_iload (pc' := 46) (z := v222526) rfl rfl ?_)
          refine wp_of e292 c292_46 (rw_if_lt (p1 := 113) (p2 := 49) (by decide) rfl ⟨by omega, by omega⟩ (fun c222538 => ?_) (fun c222538 => ?_))
          · refine wp_of e292 c292_113 (rw_iload (pc' := 115) (z := v222527) rfl rfl ?_)
            refine wp_of e292 c292_115 (rw_if_eq (p1 := 126) (p2 := 118) (by decide) rfl ⟨by omega, by omega⟩ (fun c222539 => ?_) (fun c222539 => ?_))
            · refine wp_of e292 c292_126 (rw_aload_n (pc' := 127) (v := .ref r0) rfl rfl rfl ?_)
              refine wp_of e292 c292_127 (rw_iconst (pc' := 128) rfl ?_)
              refine wp_of e292 c292_128 (xc_V (pc' := 131) (r := r0) (as := [vI 2]) (st := []) (lm_9_400) rfl rfl (Nat.le_of_ble_eq_true rfl) w222530 g0 sh_42 (by decide) rfl (by decide) (s_223 w222530 g0 ⟨by omega, by omega⟩) (fun R222540 T222541 H222542 p222543 => ?_))
              obtain ⟨e222544, w222546, f222547, z222548, e222545, b222549⟩ := p222543
              subst e222544
              subst e222545
              have f222550 := f222537.tr f222547 rfl
              show wp _ _ 292 131 [(6, vI v222526), (5, vI v222527), (3, vL v222528), (0, .ref r0)] [vI z222548] _ H222542 _
              have k222551 : wKI H222542 r0 = wKI H r0 := ((wKI_fr w222530 g0 f222547 rfl).trans ((wKI_fr w222392 g0 f222531 rfl).trans (wKI_fr hW g0 ((wfr.rf (l := [(42, 0)])).put' e222391 g0 rfl) rfl)))
              exact wp_zreturn e292 c292_131 rfl (by omega) ⟨rfl, w222546, f222550, z222548, rfl, ⟨by omega, by omega⟩, by omega⟩
            · refine wp_of e292 c292_118 (rw_lload_n (pc' := 119) (z := v222528) rfl rfl ?_)
              refine wp_of e292 c292_119 (rw_ldc2 (pc' := 122) (z := 20000) rfl rfl rfl ?_)
              refine wp_of e292 c292_122 (rw_lcmp (pc' := 123) rfl ⟨by omega, by omega⟩ ⟨by omega, by omega⟩ ?_)
              have b222552 := wq_cmp_b v222528 20000
              refine wp_of e292 c292_123 (rw_if_le (p1 := 132) (p2 := 126) (by decide) rfl ⟨by omega, by omega⟩ (fun c222553 => ?_) (fun c222553 => ?_))
              · refine wp_of e292 c292_132 (rw_iconst (pc' := 133) rfl ?_)
                refine wp_of e292 c292_133 (rw_istore (pc' := 135) (z := 0) (L' := [(6, vI 0), (5, vI v222527), (3, vL v222528), (0, .ref r0)]) rfl rfl rfl ?_)
                have lp222680 : ∀ (n222681 : Nat) (v222683 : Int) (H222684 : wq_H), WT T H222684 → wfr [(50, 999)] T H222529 H222684 → (0 ≤ v222683 ∧ v222683 ≤ 6) → (6 - v222683).toNat = n222681 → wp kt 2 292 135 [(6, vI v222683), (3, vL v222528), (0, .ref r0)] [] T H222684 (q_292 r0 a1 T H) := by
                  intro n222681
                  induction n222681 using Nat.strongRecOn with
                  | _ n222681 ih222682 =>
                    intro v222683 H222684 w222685 f222686 b222687 m222688
                    have f222689 := f222537.tr f222686 rfl
                    refine wp_of e292 c292_135 (rw_iload (pc' := 137) (z := v222683) rfl rfl ?_)
                    refine wp_of e292 c292_137 (rw_aload_n (pc' := 138) (v := .ref r0) rfl rfl rfl ?_)
                    have k222690 : H222684 r0 3 = H222390 r0 3 := ((f222686 r0 3 _ g0 rfl).trans (f222531 r0 3 _ g0 rfl))
                    have q222691 : H222684 r0 3 = (r222395 : Int) := k222690.trans q222396
                    refine wp_of e292 c292_138 (xg_K (pc' := 141) lf_9_337 w222685 g0 sh_42 (by decide) (by decide) rfl q222691 rfl ?_)
                    have k222692 : H222684 r222395 3 = H222390 r222395 3 := ((f222686 r222395 3 _ g222397 rfl).trans (f222531 r222395 3 _ g222397 rfl))
                    refine wp_of e292 c292_141 (xg_I (pc' := 144) lf_9_188 w222685 g222397 sh_54 (by decide) (by decide) ty_54_3 rfl rfl (fun b222693 b222694 => ?_))
                    refine wp_of e292 c292_144 (rw_icmp_ge (p1 := 167) (p2 := 147) (by decide) rfl ⟨by omega, by omega⟩ ⟨by omega, by omega⟩ (fun c222695 => ?_) (fun c222695 => ?_))
                    · refine wp_of e292 c292_167 (rw_aload_n (pc' := 168) (v := .ref r0) rfl rfl rfl ?_)
                      refine wp_of e292 c292_168 (rw_lload_n (pc' := 169) (z := v222528) rfl rfl ?_)
                      refine wp_of e292 c292_169 (rw_l2i (pc' := 170) rfl ?_)
                      obtain ⟨v222696, e222697⟩ : ∃ x : Int, x = wq_w v222528 := ⟨_, rfl⟩
                      rw [← e222697]
                      have b222698 : v222696 = v222528 := by
                        rw [e222697]
                        exact wq_w_id ⟨by omega, by omega⟩
                      refine wp_of e292 c292_170 (xp_I (pc' := 173) lf_9_340 w222685 g0 sh_42 (by decide) (by decide) ty_42_32 rfl rfl (by omega) (by omega) ⟨by omega, by omega⟩ rfl (fun H222699 e222700 w222701 => ?_))
                      have f222702 := f222689.put' e222700 g0 rfl
                      have k222703 : H222699 r0 32 = v222696 := wq_u_s e222700
                      refine wp_of e292 c292_173 (rw_aload_n (pc' := 174) (v := .ref r0) rfl rfl rfl ?_)
                      refine wp_of e292 c292_174 (xc_V (pc' := 177) (r := r0) (as := []) (st := []) (lm_9_403) rfl rfl (Nat.le_of_ble_eq_true rfl) w222701 g0 sh_42 (by decide) rfl (by decide) (s_224 w222701 g0) (fun R222704 T222705 H222706 p222707 => ?_))
                      obtain ⟨e222708, w222710, f222711, z222712, e222709, b222713⟩ := p222707
                      subst e222708
                      subst e222709
                      have f222714 := f222702.tr f222711 rfl
                      show wp _ _ 292 177 [(6, vI v222683), (3, vL v222528), (0, .ref r0)] [vI z222712] _ H222706 _
                      have k222715 : wKI H222706 r0 = wKI H r0 := ((wKI_fr w222701 g0 f222711 rfl).trans ((wKI_fr w222685 g0 ((wfr.rf (l := [(42, 32)])).put' e222700 g0 rfl) rfl).trans ((wKI_fr w222530 g0 f222686 rfl).trans ((wKI_fr w222392 g0 f222531 rfl).trans (wKI_fr hW g0 ((wfr.rf (l := [(42, 0)])).put' e222391 g0 rfl) rfl)))))
                      exact wp_zreturn e292 c292_177 rfl (by omega) ⟨rfl, w222710, f222714, z222712, rfl, ⟨by omega, by omega⟩, by omega⟩
                    · refine wp_of e292 c292_147 (rw_aload_n (pc' := 148) (v := .ref r0) rfl rfl rfl ?_)
                      refine wp_of e292 c292_148 (xg_R (pc' := 151) lf_9_36 w222685 g0 sh_42 (by decide) (by decide) ty_42_26 rfl rfl (fun r222716 q222717 g222718 => ?_))
                      refine wp_of e292 c292_151 (rw_iload (pc' := 153) (z := v222683) rfl rfl ?_)
                      refine wp_of e292 c292_153 (rw_aload_n (pc' := 154) (v := .ref r0) rfl rfl rfl ?_)
                      refine wp_of e292 c292_154 (xg_R (pc' := 157) lf_9_45 w222685 g0 sh_42 (by decide) (by decide) ty_42_31 rfl rfl (fun r222719 q222720 g222721 => ?_))
                      refine wp_of e292 c292_157 (rw_iload (pc' := 159) (z := v222683) rfl rfl ?_)
                      refine wp_of e292 c292_159 (xa_I (so := 0) (pc' := 160) w222685 g222721 sh_53 (by decide) (ty_53 _) (by omega) (by omega) rfl (fun b222722 b222723 => ?_))
                      refine wp_of e292 c292_160 (xs_I (pc' := 161) w222685 g222718 (by decide) sh_50 (by decide) (ty_50 _) (by omega) (by omega) ⟨by omega, by omega⟩ (by omega) (by omega) rfl (fun H222724 e222725 w222726 => ?_))
                      have f222727 := f222689.put' e222725 g222718 rfl
                      have f222728 := f222686.put' e222725 g222718 rfl
                      refine wp_of e292 c292_161 (rw_iinc (pc' := 164) (z := v222683) (L' := [(6, vI (v222683 + 1)), (3, vL v222528), (0, .ref r0)]) rfl rfl rfl rfl ?_)
                      refine wp_of e292 c292_164 (rw_goto (p1 := 135) (by decide) ?_)
                      exact wp_lc (ks := [6, 3, 0]) (wl_c rfl (wl_c rfl (wl_c rfl wl_n))) rfl (by decide) (ih222682 _ (by omega) (v222683 + 1) H222724 w222726 f222728 ⟨by omega, by omega⟩ rfl)
                exact wp_lc (ks := [6, 5, 3, 0]) (wl_c rfl (wl_c rfl (wl_c rfl wl_n))) rfl (by decide) (lp222680 _ 0 H222529 w222530 wfr.rf ⟨by omega, by omega⟩ rfl)
              · refine wp_of e292 c292_126 (rw_aload_n (pc' := 127) (v := .ref r0) rfl rfl rfl ?_)
                refine wp_of e292 c292_127 (rw_iconst (pc' := 128) rfl ?_)
                refine wp_of e292 c292_128 (xc_V (pc' := 131) (r := r0) (as := [vI 2]) (st := []) (lm_9_400) rfl rfl (Nat.le_of_ble_eq_true rfl) w222530 g0 sh_42 (by decide) rfl (by decide) (s_223 w222530 g0 ⟨by omega, by omega⟩) (fun R222729 T222730 H222731 p222732 => ?_))
                obtain ⟨e222733, w222735, f222736, z222737, e222734, b222738⟩ := p222732
                subst e222733
                subst e222734
                have f222739 := f222537.tr f222736 rfl
                show wp _ _ 292 131 [(6, vI v222526), (5, vI v222527), (3, vL v222528), (0, .ref r0)] [vI z222737] _ H222731 _
                have k222740 : wKI H222731 r0 = wKI H r0 := ((wKI_fr w222530 g0 f222736 rfl).trans ((wKI_fr w222392 g0 f222531 rfl).trans (wKI_fr hW g0 ((wfr.rf (l := [(42, 0)])).put' e222391 g0 rfl) rfl)))
                exact wp_zreturn e292 c292_131 rfl (by omega) ⟨rfl, w222735, f222739, z222737, rfl, ⟨by omega, by omega⟩, by omega⟩
          · refine wp_of e292 c292_49 (rw_iload (pc' := 51) (z := v222527) rfl rfl ?_)
            refine wp_of e292 c292_51 (rw_if_eq (p1 := 113) (p2 := 54) (by decide) rfl ⟨by omega, by omega⟩ (fun c222741 => ?_) (fun c222741 => ?_))
            · refine wp_of e292 c292_113 (rw_iload (pc' := 115) (z := v222527) rfl rfl ?_)
              refine wp_of e292 c292_115 (rw_if_eq (p1 := 126) (p2 := 118) (by decide) rfl ⟨by omega, by omega⟩ (fun c222742 => ?_) (fun c222742 => ?_))
              · refine wp_of e292 c292_126 (rw_aload_n (pc' := 127) (v := .ref r0) rfl rfl rfl ?_)
                refine wp_of e292 c292_127 (rw_iconst (pc' := 128) rfl ?_)
                refine wp_of e292 c292_128 (xc_V (pc' := 131) (r := r0) (as := [vI 2]) (st := []) (lm_9_400) rfl rfl (Nat.le_of_ble_eq_true rfl) w222530 g0 sh_42 (by decide) rfl (by decide) (s_223 w222530 g0 ⟨by omega, by omega⟩) (fun R222743 T222744 H222745 p222746 => ?_))
                obtain ⟨e222747, w222749, f222750, z222751, e222748, b222752⟩ := p222746
                subst e222747
                subst e222748
                have f222753 := f222537.tr f222750 rfl
                show wp _ _ 292 131 [(6, vI v222526), (5, vI v222527), (3, vL v222528), (0, .ref r0)] [vI z222751] _ H222745 _
                have k222754 : wKI H222745 r0 = wKI H r0 := ((wKI_fr w222530 g0 f222750 rfl).trans ((wKI_fr w222392 g0 f222531 rfl).trans (wKI_fr hW g0 ((wfr.rf (l := [(42, 0)])).put' e222391 g0 rfl) rfl)))
                exact wp_zreturn e292 c292_131 rfl (by omega) ⟨rfl, w222749, f222753, z222751, rfl, ⟨by omega, by omega⟩, by omega⟩
              · exfalso
                omega
            · refine wp_of e292 c292_54 (rw_aload_n (pc' := 55) (v := .ref r0) rfl rfl rfl ?_)
              refine wp_of e292 c292_55 (xg_R (pc' := 58) lf_9_45 w222530 g0 sh_42 (by decide) (by decide) ty_42_31 rfl rfl (fun r222755 q222756 g222757 => ?_))
              refine wp_of e292 c292_58 (rw_iload (pc' := 60) (z := v222526) rfl rfl ?_)
              refine wp_of e292 c292_60 (rw_lload_n (pc' := 61) (z := v222528) rfl rfl ?_)
              refine wp_of e292 c292_61 (rw_ldc2 (pc' := 64) (z := 40) rfl rfl rfl ?_)
              refine wp_of e292 c292_64 (rw_lrem (pc' := 65) rfl ⟨by omega, by omega⟩ (by omega) ?_)
              obtain ⟨v222758, e222759⟩ : ∃ x : Int, x = wl_rem v222528 40 := ⟨_, rfl⟩
              rw [← e222759]
              have b222760 : v222758 = v222528 % 40 := by
                rw [e222759]
                exact wl_rem_e ⟨by omega, by omega⟩ ⟨by omega, by omega⟩
              refine wp_of e292 c292_65 (rw_l2i (pc' := 66) rfl ?_)
              obtain ⟨v222761, e222762⟩ : ∃ x : Int, x = wq_w v222758 := ⟨_, rfl⟩
              rw [← e222762]
              have b222763 : v222761 = v222758 := by
                rw [e222762]
                exact wq_w_id ⟨by omega, by omega⟩
              refine wp_of e292 c292_66 (xs_I (pc' := 67) w222530 g222757 (by decide) sh_53 (by decide) (ty_53 _) (by omega) (by omega) ⟨by omega, by omega⟩ (by omega) (by omega) rfl (fun H222764 e222765 w222766 => ?_))
              have f222767 := f222537.put' e222765 g222757 rfl
              have f222768 := f222531.put' e222765 g222757 rfl
              refine wp_of e292 c292_67 (rw_aload_n (pc' := 68) (v := .ref r0) rfl rfl rfl ?_)
              have k222769 : H222764 r0 31 = H222529 r0 31 := (wq_u_t e222765 g222757 g0 rfl 31)
              have q222770 : H222764 r0 31 = (r222755 : Int) := k222769.trans q222756
              refine wp_of e292 c292_68 (xg_K (pc' := 71) lf_9_45 w222766 g0 sh_42 (by decide) (by decide) rfl q222770 rfl ?_)
              refine wp_of e292 c292_71 (rw_iload (pc' := 73) (z := v222526) rfl rfl ?_)
              refine wp_of e292 c292_73 (xa_I (so := 0) (pc' := 74) w222766 g222757 sh_53 (by decide) (ty_53 _) (by omega) (by omega) rfl (fun b222771 b222772 => ?_))
              refine wp_of e292 c292_74 (rw_if_eq (p1 := 94) (p2 := 77) (by decide) rfl ⟨by omega, by omega⟩ (fun c222773 => ?_) (fun c222773 => ?_))
              · refine wp_of e292 c292_94 (rw_iconst (pc' := 95) rfl ?_)
                refine wp_of e292 c292_95 (rw_goto (p1 := 99) (by decide) ?_)
                refine wp_of e292 c292_99 (rw_istore (pc' := 101) (z := 1) (L' := [(5, vI 1), (6, vI v222526), (3, vL v222528), (0, .ref r0)]) rfl rfl rfl ?_)
                refine wp_of e292 c292_101 (rw_lload_n (pc' := 102) (z := v222528) rfl rfl ?_)
                refine wp_of e292 c292_102 (rw_ldc2 (pc' := 105) (z := 40) rfl rfl rfl ?_)
                refine wp_of e292 c292_105 (rw_ldiv (pc' := 106) rfl ⟨by omega, by omega⟩ (by omega) ?_)
                obtain ⟨v222774, e222775⟩ : ∃ x : Int, x = wl_div v222528 40 := ⟨_, rfl⟩
                rw [← e222775]
                have b222776 : v222774 = v222528 / 40 := by
                  rw [e222775]
                  exact wl_div_e ⟨by omega, by omega⟩ ⟨by omega, by omega⟩
                refine wp_of e292 c292_106 (rw_lstore_n (pc' := 107) (z := v222774) (L' := [(3, vL v222774), (5, vI 1), (6, vI v222526), (0, .ref r0)]) rfl rfl rfl ?_)
                refine wp_of e292 c292_107 (rw_iinc (pc' := 110) (z := v222526) (L' := [(6, vI (v222526 + (-1))), (3, vL v222774), (5, vI 1), (0, .ref r0)]) rfl rfl rfl rfl ?_)
                refine wp_of e292 c292_110 (rw_goto (p1 := 44) (by decide) ?_)
                exact wp_lc (ks := [6, 3, 5, 0]) (wl_c rfl (wl_c rfl (wl_c rfl (wl_c rfl wl_n)))) rfl (by decide) (ih222525 _ (by omega) (v222526 + (-1)) 1 v222774 H222764 w222766 f222768 ⟨by omega, by omega⟩ ⟨by omega, by omega⟩ ⟨by omega, by omega⟩ (by omega) rfl)
              · refine wp_of e292 c292_77 (rw_aload_n (pc' := 78) (v := .ref r0) rfl rfl rfl ?_)
                refine wp_of e292 c292_78 (xg_K (pc' := 81) lf_9_45 w222766 g0 sh_42 (by decide) (by decide) rfl q222770 rfl ?_)
                refine wp_of e292 c292_81 (rw_iload (pc' := 83) (z := v222526) rfl rfl ?_)
                refine wp_of e292 c292_83 (xa_I (so := 0) (pc' := 84) w222766 g222757 sh_53 (by decide) (ty_53 _) (by omega) (by omega) rfl (fun b222777 b222778 => ?_))
                refine wp_of e292 c292_84 (rw_aload_n (pc' := 85) (v := .ref r0) rfl rfl rfl ?_)
                refine wp_of e292 c292_85 (xg_R (pc' := 88) lf_9_21 w222766 g0 sh_42 (by decide) (by decide) ty_42_21 rfl rfl (fun r222779 q222780 g222781 => ?_))
                refine wp_of e292 c292_88 (rw_iload (pc' := 90) (z := v222526) rfl rfl ?_)
                refine wp_of e292 c292_90 (xa_I (so := 0) (pc' := 91) w222766 g222781 sh_45 (by decide) (ty_45 _) (by omega) (by omega) rfl (fun b222782 b222783 => ?_))
                refine wp_of e292 c292_91 (rw_icmp_ge (p1 := 98) (p2 := 94) (by decide) rfl ⟨by omega, by omega⟩ ⟨by omega, by omega⟩ (fun c222784 => ?_) (fun c222784 => ?_))
                · refine wp_of e292 c292_98 (rw_iconst (pc' := 99) rfl ?_)
                  refine wp_of e292 c292_99 (rw_istore (pc' := 101) (z := 0) (L' := [(5, vI 0), (6, vI v222526), (3, vL v222528), (0, .ref r0)]) rfl rfl rfl ?_)
                  refine wp_of e292 c292_101 (rw_lload_n (pc' := 102) (z := v222528) rfl rfl ?_)
                  refine wp_of e292 c292_102 (rw_ldc2 (pc' := 105) (z := 40) rfl rfl rfl ?_)
                  refine wp_of e292 c292_105 (rw_ldiv (pc' := 106) rfl ⟨by omega, by omega⟩ (by omega) ?_)
                  obtain ⟨v222785, e222786⟩ : ∃ x : Int, x = wl_div v222528 40 := ⟨_, rfl⟩
                  rw [← e222786]
                  have b222787 : v222785 = v222528 / 40 := by
                    rw [e222786]
                    exact wl_div_e ⟨by omega, by omega⟩ ⟨by omega, by omega⟩
                  refine wp_of e292 c292_106 (rw_lstore_n (pc' := 107) (z := v222785) (L' := [(3, vL v222785), (5, vI 0), (6, vI v222526), (0, .ref r0)]) rfl rfl rfl ?_)
                  refine wp_of e292 c292_107 (rw_iinc (pc' := 110) (z := v222526) (L' := [(6, vI (v222526 + (-1))), (3, vL v222785), (5, vI 0), (0, .ref r0)]) rfl rfl rfl rfl ?_)
                  refine wp_of e292 c292_110 (rw_goto (p1 := 44) (by decide) ?_)
                  exact wp_lc (ks := [6, 3, 5, 0]) (wl_c rfl (wl_c rfl (wl_c rfl (wl_c rfl wl_n)))) rfl (by decide) (ih222525 _ (by omega) (v222526 + (-1)) 0 v222785 H222764 w222766 f222768 ⟨by omega, by omega⟩ ⟨by omega, by omega⟩ ⟨by omega, by omega⟩ (by omega) rfl)
                · refine wp_of e292 c292_94 (rw_iconst (pc' := 95) rfl ?_)
                  refine wp_of e292 c292_95 (rw_goto (p1 := 99) (by decide) ?_)
                  refine wp_of e292 c292_99 (rw_istore (pc' := 101) (z := 1) (L' := [(5, vI 1), (6, vI v222526), (3, vL v222528), (0, .ref r0)]) rfl rfl rfl ?_)
                  refine wp_of e292 c292_101 (rw_lload_n (pc' := 102) (z := v222528) rfl rfl ?_)
                  refine wp_of e292 c292_102 (rw_ldc2 (pc' := 105) (z := 40) rfl rfl rfl ?_)
                  refine wp_of e292 c292_105 (rw_ldiv (pc' := 106) rfl ⟨by omega, by omega⟩ (by omega) ?_)
                  obtain ⟨v222788, e222789⟩ : ∃ x : Int, x = wl_div v222528 40 := ⟨_, rfl⟩
                  rw [← e222789]
                  have b222790 : v222788 = v222528 / 40 := by
                    rw [e222789]
                    exact wl_div_e ⟨by omega, by omega⟩ ⟨by omega, by omega⟩
                  refine wp_of e292 c292_106 (rw_lstore_n (pc' := 107) (z := v222788) (L' := [(3, vL v222788), (5, vI 1), (6, vI v222526), (0, .ref r0)]) rfl rfl rfl ?_)
                  refine wp_of e292 c292_107 (rw_iinc (pc' := 110) (z := v222526) (L' := [(6, vI (v222526 + (-1))), (3, vL v222788), (5, vI 1), (0, .ref r0)]) rfl rfl rfl rfl ?_)
                  refine wp_of e292 c292_110 (rw_goto (p1 := 44) (by decide) ?_)
                  exact wp_lc (ks := [6, 3, 5, 0]) (wl_c rfl (wl_c rfl (wl_c rfl (wl_c rfl wl_n)))) rfl (by decide) (ih222525 _ (by omega) (v222526 + (-1)) 1 v222788 H222764 w222766 f222768 ⟨by omega, by omega⟩ ⟨by omega, by omega⟩ ⟨by omega, by omega⟩ (by omega) rfl)
      exact wp_lc (ks := [6, 5, 3, 0, 1]) (wl_c rfl (wl_c rfl (wl_c rfl (wl_c rfl wl_n)))) rfl (by decide) (lp222523 _ ((H222390 r222395 3) - 1) 1 a1 H222390 w222392 wfr.rf ⟨by omega, by omega⟩ ⟨by omega, by omega⟩ ⟨by omega, by omega⟩ (by omega) rfl)
/-! StrikeAwakeModel.led(I)I -/
theorem e293 : wq_en 293 = some (9, 4, false, some FieldType.int) := rfl
theorem c293_0 : mc_cd 293 0 = some (.aload_n 0, 1) := by decide +kernel
theorem c293_1 : mc_cd 293 1 = some (.iconst 0, 1) := by decide +kernel
theorem c293_2 : mc_cd 293 2 = some (.putfield 48, 3) := by decide +kernel
theorem c293_5 : mc_cd 293 5 = some (.iconst 0, 1) := by decide +kernel
theorem c293_6 : mc_cd 293 6 = some (.istore_n 2, 1) := by decide +kernel
theorem c293_7 : mc_cd 293 7 = some (.iconst 0, 1) := by decide +kernel
theorem c293_8 : mc_cd 293 8 = some (.istore_n 3, 1) := by decide +kernel
theorem c293_9 : mc_cd 293 9 = some (.aload_n 0, 1) := by decide +kernel
theorem c293_10 : mc_cd 293 10 = some (.getfield 337, 3) := by decide +kernel
theorem c293_13 : mc_cd 293 13 = some (.ifnull 45, 3) := by decide +kernel
theorem c293_16 : mc_cd 293 16 = some (.iload_n 3, 1) := by decide +kernel
theorem c293_17 : mc_cd 293 17 = some (.aload_n 0, 1) := by decide +kernel
theorem c293_18 : mc_cd 293 18 = some (.getfield 337, 3) := by decide +kernel
theorem c293_21 : mc_cd 293 21 = some (.getfield 188, 3) := by decide +kernel
theorem c293_24 : mc_cd 293 24 = some (.if_icmp .ge 34, 3) := by decide +kernel
theorem c293_27 : mc_cd 293 27 = some (.aload_n 0, 1) := by decide +kernel
theorem c293_28 : mc_cd 293 28 = some (.getfield 337, 3) := by decide +kernel
theorem c293_31 : mc_cd 293 31 = some (.getfield 267, 3) := by decide +kernel
theorem c293_34 : mc_cd 293 34 = some (.iload_n 3, 1) := by decide +kernel
theorem c293_35 : mc_cd 293 35 = some (.baload, 1) := by decide +kernel
theorem c293_36 : mc_cd 293 36 = some (.ifCond .ne 6, 3) := by decide +kernel
theorem c293_39 : mc_cd 293 39 = some (.goto 13, 3) := by decide +kernel
theorem c293_42 : mc_cd 293 42 = some (.iload_n 2, 1) := by decide +kernel
theorem c293_43 : mc_cd 293 43 = some (.iload_n 1, 1) := by decide +kernel
theorem c293_44 : mc_cd 293 44 = some (.if_icmp .ne 5, 3) := by decide +kernel
theorem c293_47 : mc_cd 293 47 = some (.iload_n 3, 1) := by decide +kernel
theorem c293_48 : mc_cd 293 48 = some (.ireturn, 1) := by decide +kernel
theorem c293_49 : mc_cd 293 49 = some (.iinc 2 1, 3) := by decide +kernel
theorem c293_52 : mc_cd 293 52 = some (.iinc 3 1, 3) := by decide +kernel
theorem c293_55 : mc_cd 293 55 = some (.goto (-46), 3) := by decide +kernel
theorem c293_58 : mc_cd 293 58 = some (.aload_n 0, 1) := by decide +kernel
theorem c293_59 : mc_cd 293 59 = some (.iconst 1, 1) := by decide +kernel
theorem c293_60 : mc_cd 293 60 = some (.putfield 48, 3) := by decide +kernel
theorem c293_63 : mc_cd 293 63 = some (.iconst 0, 1) := by decide +kernel
theorem c293_64 : mc_cd 293 64 = some (.ireturn, 1) := by decide +kernel
abbrev q_293 (r0 : Nat) (a1 : Int) (T : wq_T) (H : wq_H) : Option Value → wq_T → wq_H → Prop := fun r T' H' => T = T' ∧ WT T H' ∧ wfr [(42, 0)] T H H' ∧ ∃ z : Int, some (vI z) = r ∧ ((-2147483648) ≤ z ∧ z ≤ 2147483647) ∧ (wKI H' r0 = 1)
set_option maxHeartbeats 4000000 in
theorem s_293 {kt : Nat → Option mc_E} {T : wq_T} {H : wq_H} {r0 : Nat} {a1 : Int} (hW : WT T H) (g0 : T.2.2.2 r0 = some 42) (i1 : (-2147483648) ≤ a1 ∧ a1 ≤ 2147483647) (p0 : wKI H r0 = 1) : wpc kt 1 293 [.ref r0, vI a1] T H (q_293 r0 a1 T H) := by
  refine wp_enter e293 (Nat.le_of_ble_eq_true rfl) rfl ?_
  have f0 : wfr [(42, 0)] T H H := wfr.rf
  show wp _ _ 293 0 [(0, .ref r0), (1, vI a1)] [] _ H _
  refine wp_of e293 c293_0 (rw_aload_n (pc' := 1) (v := .ref r0) rfl rfl rfl ?_)
  refine wp_of e293 c293_1 (rw_iconst (pc' := 2) rfl ?_)
  refine wp_of e293 c293_2 (xp_I (pc' := 5) lf_9_48 hW g0 sh_42 (by decide) (by decide) ty_42_0 rfl rfl (by omega) (by omega) ⟨by omega, by omega⟩ rfl (fun H222914 e222915 w222916 => ?_))
  have f222917 := f0.put' e222915 g0 rfl
  have k222918 : H222914 r0 0 = 0 := wq_u_s e222915
  refine wp_of e293 c293_5 (rw_iconst (pc' := 6) rfl ?_)
  refine wp_of e293 c293_6 (rw_istore_n (pc' := 7) (z := 0) (L' := [(2, vI 0), (0, .ref r0), (1, vI a1)]) rfl rfl rfl ?_)
  refine wp_of e293 c293_7 (rw_iconst (pc' := 8) rfl ?_)
  refine wp_of e293 c293_8 (rw_istore_n (pc' := 9) (z := 0) (L' := [(3, vI 0), (2, vI 0), (0, .ref r0), (1, vI a1)]) rfl rfl rfl ?_)
  have lp223010 : ∀ (n223011 : Nat) (v223013 : Int) (v223014 : Int), (0 ≤ v223013 ∧ v223013 ≤ 6) → (0 ≤ v223014 ∧ v223014 ≤ 6) → (v223014 ≤ v223013) → (6 - v223013).toNat = n223011 → wp kt 0 293 9 [(3, vI v223013), (2, vI v223014), (0, .ref r0), (1, vI a1)] [] T H222914 (q_293 r0 a1 T H) := by
    intro n223011
    induction n223011 using Nat.strongRecOn with
    | _ n223011 ih223012 =>
      intro v223013 v223014 b223017 b223018 x223019 m223020
      refine wp_of e293 c293_9 (rw_aload_n (pc' := 10) (v := .ref r0) rfl rfl rfl ?_)
      refine wp_of e293 c293_10 (xg_O (pc' := 13) lf_9_337 w222916 g0 sh_42 (by decide) (by decide) ty_42_3 rfl rfl (fun q223022 => ?_) (fun r223021 q223022 g223023 => ?_))
      · refine wp_of e293 c293_13 (rw_ifnull_n (p1 := 58) (p2 := 16) (by decide) rfl ?_)
        refine wp_of e293 c293_58 (rw_aload_n (pc' := 59) (v := .ref r0) rfl rfl rfl ?_)
        refine wp_of e293 c293_59 (rw_iconst (pc' := 60) rfl ?_)
        refine wp_of e293 c293_60 (xp_I (pc' := 63) lf_9_48 w222916 g0 sh_42 (by decide) (by decide) ty_42_0 rfl rfl (by omega) (by omega) ⟨by omega, by omega⟩ rfl (fun H223024 e223025 w223026 => ?_))
        have f223027 := f222917.put' e223025 g0 rfl
        have k223028 : H223024 r0 0 = 1 := wq_u_s e223025
        refine wp_of e293 c293_63 (rw_iconst (pc' := 64) rfl ?_)
        have k223029 : wKI H223024 r0 = wKI H r0 := ((wKI_fr w222916 g0 ((wfr.rf (l := [(42, 0)])).put' e223025 g0 rfl) rfl).trans (wKI_fr hW g0 ((wfr.rf (l := [(42, 0)])).put' e222915 g0 rfl) rfl))
        exact wp_ireturn e293 c293_64 rfl ⟨rfl, w223026, f223027, 0, rfl, ⟨by omega, by omega⟩, by omega⟩
      · refine wp_of e293 c293_13 (rw_ifnull_r (p1 := 58) (p2 := 16) (by decide) rfl ?_)
        refine wp_of e293 c293_16 (rw_iload_n (pc' := 17) (z := v223013) rfl rfl ?_)
        refine wp_of e293 c293_17 (rw_aload_n (pc' := 18) (v := .ref r0) rfl rfl rfl ?_)
        refine wp_of e293 c293_18 (xg_K (pc' := 21) lf_9_337 w222916 g0 sh_42 (by decide) (by decide) rfl q223022 rfl ?_)
        refine wp_of e293 c293_21 (xg_I (pc' := 24) lf_9_188 w222916 g223023 sh_54 (by decide) (by decide) ty_54_3 rfl rfl (fun b223030 b223031 => ?_))
        refine wp_of e293 c293_24 (rw_icmp_ge (p1 := 58) (p2 := 27) (by decide) rfl ⟨by omega, by omega⟩ ⟨by omega, by omega⟩ (fun c223032 => ?_) (fun c223032 => ?_))
        · refine wp_of e293 c293_58 (rw_aload_n (pc' := 59) (v := .ref r0) rfl rfl rfl ?_)
          refine wp_of e293 c293_59 (rw_iconst (pc' := 60) rfl ?_)
          refine wp_of e293 c293_60 (xp_I (pc' := 63) lf_9_48 w222916 g0 sh_42 (by decide) (by decide) ty_42_0 rfl rfl (by omega) (by omega) ⟨by omega, by omega⟩ rfl (fun H223033 e223034 w223035 => ?_))
          have f223036 := f222917.put' e223034 g0 rfl
          have k223037 : H223033 r0 0 = 1 := wq_u_s e223034
          refine wp_of e293 c293_63 (rw_iconst (pc' := 64) rfl ?_)
          have k223038 : wKI H223033 r0 = wKI H r0 := ((wKI_fr w222916 g0 ((wfr.rf (l := [(42, 0)])).put' e223034 g0 rfl) rfl).trans (wKI_fr hW g0 ((wfr.rf (l := [(42, 0)])).put' e222915 g0 rfl) rfl))
          exact wp_ireturn e293 c293_64 rfl ⟨rfl, w223035, f223036, 0, rfl, ⟨by omega, by omega⟩, by omega⟩
        · refine wp_of e293 c293_27 (rw_aload_n (pc' := 28) (v := .ref r0) rfl rfl rfl ?_)
          refine wp_of e293 c293_28 (xg_K (pc' := 31) lf_9_337 w222916 g0 sh_42 (by decide) (by decide) rfl q223022 rfl ?_)
          refine wp_of e293 c293_31 (xg_R (pc' := 34) lf_9_267 w222916 g223023 sh_54 (by decide) (by decide) ty_54_17 rfl rfl (fun r223039 q223040 g223041 => ?_))
          refine wp_of e293 c293_34 (rw_iload_n (pc' := 35) (z := v223013) rfl rfl ?_)
          refine wp_of e293 c293_35 (xa_B (by decide) (pc' := 36) w222916 g223041 sh_63 (by decide) (ty_63 _) (by omega) (by omega) rfl (fun b223042 b223043 => ?_))
          refine wp_of e293 c293_36 (rw_if_ne (p1 := 42) (p2 := 39) (by decide) rfl ⟨by omega, by omega⟩ (fun c223044 => ?_) (fun c223044 => ?_))
          · refine wp_of e293 c293_42 (rw_iload_n (pc' := 43) (z := v223014) rfl rfl ?_)
            refine wp_of e293 c293_43 (rw_iload_n (pc' := 44) (z := a1) rfl rfl ?_)
            refine wp_of e293 c293_44 (rw_icmp_ne (p1 := 49) (p2 := 47) (by decide) rfl ⟨by omega, by omega⟩ ⟨by omega, by omega⟩ (fun c223045 => ?_) (fun c223045 => ?_))
            · refine wp_of e293 c293_49 (rw_iinc (pc' := 52) (z := v223014) (L' := [(2, vI (v223014 + 1)), (3, vI v223013), (0, .ref r0), (1, vI a1)]) rfl rfl rfl rfl ?_)
              refine wp_of e293 c293_52 (rw_iinc (pc' := 55) (z := v223013) (L' := [(3, vI (v223013 + 1)), (2, vI (v223014 + 1)), (0, .ref r0), (1, vI a1)]) rfl rfl rfl rfl ?_)
              refine wp_of e293 c293_55 (rw_goto (p1 := 9) (by decide) ?_)
              exact wp_lc (ks := [3, 2, 0, 1]) (wl_c rfl (wl_c rfl (wl_c rfl (wl_c rfl wl_n)))) rfl (by decide) (ih223012 _ (by omega) (v223013 + 1) (v223014 + 1) ⟨by omega, by omega⟩ ⟨by omega, by omega⟩ (by omega) rfl)
            · refine wp_of e293 c293_47 (rw_iload_n (pc' := 48) (z := v223013) rfl rfl ?_)
              have k223046 : wKI H222914 r0 = wKI H r0 := (wKI_fr hW g0 ((wfr.rf (l := [(42, 0)])).put' e222915 g0 rfl) rfl)
              exact wp_ireturn e293 c293_48 rfl ⟨rfl, w222916, f222917, v223013, rfl, ⟨by omega, by omega⟩, by omega⟩
          · refine wp_of e293 c293_39 (rw_goto (p1 := 52) (by decide) ?_)
            refine wp_of e293 c293_52 (rw_iinc (pc' := 55) (z := v223013) (L' := [(3, vI (v223013 + 1)), (2, vI v223014), (0, .ref r0), (1, vI a1)]) rfl rfl rfl rfl ?_)
            refine wp_of e293 c293_55 (rw_goto (p1 := 9) (by decide) ?_)
            exact wp_lc (ks := [3, 2, 0, 1]) (wl_c rfl (wl_c rfl (wl_c rfl (wl_c rfl wl_n)))) rfl (by decide) (ih223012 _ (by omega) (v223013 + 1) v223014 ⟨by omega, by omega⟩ ⟨by omega, by omega⟩ (by omega) rfl)
  exact wp_lc (ks := [3, 2, 0, 1]) (wl_c rfl (wl_c rfl (wl_c rfl (wl_c rfl wl_n)))) rfl (by decide) (lp223010 _ 0 0 ⟨by omega, by omega⟩ ⟨by omega, by omega⟩ (by omega) rfl)
/-! StrikeAwakeModel.size(I)I -/
theorem e294 : wq_en 294 = some (9, 2, false, some FieldType.int) := rfl
theorem c294_0 : mc_cd 294 0 = some (.aload_n 0, 1) := by decide +kernel
theorem c294_1 : mc_cd 294 1 = some (.iconst 0, 1) := by decide +kernel
theorem c294_2 : mc_cd 294 2 = some (.putfield 48, 3) := by decide +kernel
theorem c294_5 : mc_cd 294 5 = some (.iload_n 1, 1) := by decide +kernel
theorem c294_6 : mc_cd 294 6 = some (.bipush 9, 2) := by decide +kernel
theorem c294_8 : mc_cd 294 8 = some (.if_icmp .ne 8, 3) := by decide +kernel
theorem c294_11 : mc_cd 294 11 = some (.aload_n 0, 1) := by decide +kernel
theorem c294_12 : mc_cd 294 12 = some (.getfield 330, 3) := by decide +kernel
theorem c294_15 : mc_cd 294 15 = some (.ireturn, 1) := by decide +kernel
theorem c294_16 : mc_cd 294 16 = some (.iload_n 1, 1) := by decide +kernel
theorem c294_17 : mc_cd 294 17 = some (.iconst 0, 1) := by decide +kernel
theorem c294_18 : mc_cd 294 18 = some (.bipush 8, 2) := by decide +kernel
theorem c294_20 : mc_cd 294 20 = some (.invokestatic 125, 3) := by decide +kernel
theorem c294_23 : mc_cd 294 23 = some (.ifCond .ne 5, 3) := by decide +kernel
theorem c294_26 : mc_cd 294 26 = some (.iconst (-1), 1) := by decide +kernel
theorem c294_27 : mc_cd 294 27 = some (.ireturn, 1) := by decide +kernel
theorem c294_28 : mc_cd 294 28 = some (.aload_n 0, 1) := by decide +kernel
theorem c294_29 : mc_cd 294 29 = some (.getfield 337, 3) := by decide +kernel
theorem c294_32 : mc_cd 294 32 = some (.ifnonnull 5, 3) := by decide +kernel
theorem c294_35 : mc_cd 294 35 = some (.iconst 0, 1) := by decide +kernel
theorem c294_36 : mc_cd 294 36 = some (.ireturn, 1) := by decide +kernel
theorem c294_37 : mc_cd 294 37 = some (.iload_n 1, 1) := by decide +kernel
theorem c294_38 : mc_cd 294 38 = some (.tableswitch 126 0 7 #[46, 54, 62, 70, 78, 86, 94, 102], 46) := by decide +kernel
theorem c294_84 : mc_cd 294 84 = some (.aload_n 0, 1) := by decide +kernel
theorem c294_85 : mc_cd 294 85 = some (.getfield 337, 3) := by decide +kernel
theorem c294_88 : mc_cd 294 88 = some (.getfield 188, 3) := by decide +kernel
theorem c294_91 : mc_cd 294 91 = some (.ireturn, 1) := by decide +kernel
theorem c294_92 : mc_cd 294 92 = some (.aload_n 0, 1) := by decide +kernel
theorem c294_93 : mc_cd 294 93 = some (.getfield 337, 3) := by decide +kernel
theorem c294_96 : mc_cd 294 96 = some (.getfield 276, 3) := by decide +kernel
theorem c294_99 : mc_cd 294 99 = some (.ireturn, 1) := by decide +kernel
theorem c294_100 : mc_cd 294 100 = some (.aload_n 0, 1) := by decide +kernel
theorem c294_101 : mc_cd 294 101 = some (.getfield 337, 3) := by decide +kernel
theorem c294_104 : mc_cd 294 104 = some (.getfield 288, 3) := by decide +kernel
theorem c294_107 : mc_cd 294 107 = some (.ireturn, 1) := by decide +kernel
theorem c294_108 : mc_cd 294 108 = some (.aload_n 0, 1) := by decide +kernel
theorem c294_109 : mc_cd 294 109 = some (.invokevirtual 357, 3) := by decide +kernel
theorem c294_112 : mc_cd 294 112 = some (.invokestatic 462, 3) := by decide +kernel
theorem c294_115 : mc_cd 294 115 = some (.ireturn, 1) := by decide +kernel
theorem c294_116 : mc_cd 294 116 = some (.aload_n 0, 1) := by decide +kernel
theorem c294_117 : mc_cd 294 117 = some (.getfield 337, 3) := by decide +kernel
theorem c294_120 : mc_cd 294 120 = some (.getfield 306, 3) := by decide +kernel
theorem c294_123 : mc_cd 294 123 = some (.ireturn, 1) := by decide +kernel
theorem c294_124 : mc_cd 294 124 = some (.aload_n 0, 1) := by decide +kernel
theorem c294_125 : mc_cd 294 125 = some (.getfield 337, 3) := by decide +kernel
theorem c294_128 : mc_cd 294 128 = some (.getfield 321, 3) := by decide +kernel
theorem c294_131 : mc_cd 294 131 = some (.ireturn, 1) := by decide +kernel
theorem c294_132 : mc_cd 294 132 = some (.aload_n 0, 1) := by decide +kernel
theorem c294_133 : mc_cd 294 133 = some (.getfield 337, 3) := by decide +kernel
theorem c294_136 : mc_cd 294 136 = some (.getfield 185, 3) := by decide +kernel
theorem c294_139 : mc_cd 294 139 = some (.ireturn, 1) := by decide +kernel
theorem c294_140 : mc_cd 294 140 = some (.aload_n 0, 1) := by decide +kernel
theorem c294_141 : mc_cd 294 141 = some (.getfield 337, 3) := by decide +kernel
theorem c294_144 : mc_cd 294 144 = some (.getfield 271, 3) := by decide +kernel
theorem c294_147 : mc_cd 294 147 = some (.iconst (-1), 1) := by decide +kernel
theorem c294_148 : mc_cd 294 148 = some (.if_icmp .ne 8, 3) := by decide +kernel
theorem c294_151 : mc_cd 294 151 = some (.bipush (-2), 2) := by decide +kernel
theorem c294_153 : mc_cd 294 153 = some (.goto 10, 3) := by decide +kernel
theorem c294_156 : mc_cd 294 156 = some (.aload_n 0, 1) := by decide +kernel
theorem c294_157 : mc_cd 294 157 = some (.getfield 337, 3) := by decide +kernel
theorem c294_160 : mc_cd 294 160 = some (.getfield 271, 3) := by decide +kernel
theorem c294_163 : mc_cd 294 163 = some (.ireturn, 1) := by decide +kernel
theorem c294_164 : mc_cd 294 164 = some (.aload_n 0, 1) := by decide +kernel
theorem c294_165 : mc_cd 294 165 = some (.getfield 340, 3) := by decide +kernel
theorem c294_168 : mc_cd 294 168 = some (.ireturn, 1) := by decide +kernel
abbrev q_294 (r0 : Nat) (a1 : Int) (T : wq_T) (H : wq_H) : Option Value → wq_T → wq_H → Prop := fun r T' H' => T = T' ∧ WT T H' ∧ wfr [(42, 0)] T H H' ∧ ∃ z : Int, some (vI z) = r ∧ ((-2147483648) ≤ z ∧ z ≤ 2147483647) ∧ (wKI H' r0 = 1)
set_option maxHeartbeats 4000000 in
theorem s_294 {kt : Nat → Option mc_E} {T : wq_T} {H : wq_H} {r0 : Nat} {a1 : Int} (hW : WT T H) (g0 : T.2.2.2 r0 = some 42) (i1 : (-2147483648) ≤ a1 ∧ a1 ≤ 2147483647) (p0 : wKI H r0 = 1) : wpc kt 2 294 [.ref r0, vI a1] T H (q_294 r0 a1 T H) := by
  refine wp_enter e294 (Nat.le_of_ble_eq_true rfl) rfl ?_
  have f0 : wfr [(42, 0)] T H H := wfr.rf
  show wp _ _ 294 0 [(0, .ref r0), (1, vI a1)] [] _ H _
  refine wp_of e294 c294_0 (rw_aload_n (pc' := 1) (v := .ref r0) rfl rfl rfl ?_)
  refine wp_of e294 c294_1 (rw_iconst (pc' := 2) rfl ?_)
  refine wp_of e294 c294_2 (xp_I (pc' := 5) lf_9_48 hW g0 sh_42 (by decide) (by decide) ty_42_0 rfl rfl (by omega) (by omega) ⟨by omega, by omega⟩ rfl (fun H223120 e223121 w223122 => ?_))
  have f223123 := f0.put' e223121 g0 rfl
  have k223124 : H223120 r0 0 = 0 := wq_u_s e223121
  refine wp_of e294 c294_5 (rw_iload_n (pc' := 6) (z := a1) rfl rfl ?_)
  refine wp_of e294 c294_6 (rw_bipush (pc' := 8) (z := 9) rfl (by decide) ?_)
  refine wp_of e294 c294_8 (rw_icmp_ne (p1 := 16) (p2 := 11) (by decide) rfl ⟨by omega, by omega⟩ ⟨by omega, by omega⟩ (fun c223125 => ?_) (fun c223125 => ?_))
  · refine wp_of e294 c294_16 (rw_iload_n (pc' := 17) (z := a1) rfl rfl ?_)
    refine wp_of e294 c294_17 (rw_iconst (pc' := 18) rfl ?_)
    refine wp_of e294 c294_18 (rw_bipush (pc' := 20) (z := 8) rfl (by decide) ?_)
    refine wp_of e294 c294_20 (xc_S (pc' := 23) (as := [vI a1, vI 0, vI 8]) (st := []) (lm_9_125) rfl rfl (Nat.le_of_ble_eq_true rfl) rfl (by decide) (s_186 w223122 ⟨by omega, by omega⟩ ⟨by omega, by omega⟩ ⟨by omega, by omega⟩) (fun R223126 T223127 H223128 p223129 => ?_))
    obtain ⟨e223130, e223132, z223134, e223131, b223135, p223133⟩ := p223129
    subst e223130
    subst e223131
    subst e223132
    show wp _ _ 294 23 [(0, .ref r0), (1, vI a1)] [vI z223134] _ H223120 _
    refine wp_of e294 c294_23 (rw_if_ne (p1 := 28) (p2 := 26) (by decide) rfl ⟨by omega, by omega⟩ (fun c223136 => ?_) (fun c223136 => ?_))
    · refine wp_of e294 c294_28 (rw_aload_n (pc' := 29) (v := .ref r0) rfl rfl rfl ?_)
      refine wp_of e294 c294_29 (xg_O (pc' := 32) lf_9_337 w223122 g0 sh_42 (by decide) (by decide) ty_42_3 rfl rfl (fun q223138 => ?_) (fun r223137 q223138 g223139 => ?_))
      · refine wp_of e294 c294_32 (rw_ifnonnull_n (p1 := 37) (p2 := 35) (by decide) rfl ?_)
        refine wp_of e294 c294_35 (rw_iconst (pc' := 36) rfl ?_)
        have k223140 : wKI H223120 r0 = wKI H r0 := (wKI_fr hW g0 ((wfr.rf (l := [(42, 0)])).put' e223121 g0 rfl) rfl)
        exact wp_ireturn e294 c294_36 rfl ⟨rfl, w223122, f223123, 0, rfl, ⟨by omega, by omega⟩, by omega⟩
      · refine wp_of e294 c294_32 (rw_ifnonnull_r (p1 := 37) (p2 := 35) (by decide) rfl ?_)
        refine wp_of e294 c294_37 (rw_iload_n (pc' := 38) (z := a1) rfl rfl ?_)
        have c223141 : a1 = 0 ∨ a1 = 1 ∨ a1 = 2 ∨ a1 = 3 ∨ a1 = 4 ∨ a1 = 5 ∨ a1 = 6 ∨ a1 = 7 ∨ (a1 < 0 ∨ 7 < a1) := by omega
        rcases c223141 with c223141 | c223141 | c223141 | c223141 | c223141 | c223141 | c223141 | c223141 | c223141
        · refine wp_of e294 c294_38 (rw_tsw (p1 := 84) ⟨by omega, by omega⟩ (by rw [c223141]; decide) ?_)
          refine wp_of e294 c294_84 (rw_aload_n (pc' := 85) (v := .ref r0) rfl rfl rfl ?_)
          refine wp_of e294 c294_85 (xg_K (pc' := 88) lf_9_337 w223122 g0 sh_42 (by decide) (by decide) rfl q223138 rfl ?_)
          refine wp_of e294 c294_88 (xg_I (pc' := 91) lf_9_188 w223122 g223139 sh_54 (by decide) (by decide) ty_54_3 rfl rfl (fun b223142 b223143 => ?_))
          have k223144 : wKI H223120 r0 = wKI H r0 := (wKI_fr hW g0 ((wfr.rf (l := [(42, 0)])).put' e223121 g0 rfl) rfl)
          exact wp_ireturn e294 c294_91 rfl ⟨rfl, w223122, f223123, H223120 r223137 3, rfl, ⟨by omega, by omega⟩, by omega⟩
        · refine wp_of e294 c294_38 (rw_tsw (p1 := 92) ⟨by omega, by omega⟩ (by rw [c223141]; decide) ?_)
          refine wp_of e294 c294_92 (rw_aload_n (pc' := 93) (v := .ref r0) rfl rfl rfl ?_)
          refine wp_of e294 c294_93 (xg_K (pc' := 96) lf_9_337 w223122 g0 sh_42 (by decide) (by decide) rfl q223138 rfl ?_)
          refine wp_of e294 c294_96 (xg_I (pc' := 99) lf_9_276 w223122 g223139 sh_54 (by decide) (by decide) ty_54_4 rfl rfl (fun b223145 b223146 => ?_))
          have k223147 : wKI H223120 r0 = wKI H r0 := (wKI_fr hW g0 ((wfr.rf (l := [(42, 0)])).put' e223121 g0 rfl) rfl)
          exact wp_ireturn e294 c294_99 rfl ⟨rfl, w223122, f223123, H223120 r223137 4, rfl, ⟨by omega, by omega⟩, by omega⟩
        · refine wp_of e294 c294_38 (rw_tsw (p1 := 100) ⟨by omega, by omega⟩ (by rw [c223141]; decide) ?_)
          refine wp_of e294 c294_100 (rw_aload_n (pc' := 101) (v := .ref r0) rfl rfl rfl ?_)
          refine wp_of e294 c294_101 (xg_K (pc' := 104) lf_9_337 w223122 g0 sh_42 (by decide) (by decide) rfl q223138 rfl ?_)
          refine wp_of e294 c294_104 (xg_I (pc' := 107) lf_9_288 w223122 g223139 sh_54 (by decide) (by decide) ty_54_5 rfl rfl (fun b223148 b223149 => ?_))
          have k223150 : wKI H223120 r0 = wKI H r0 := (wKI_fr hW g0 ((wfr.rf (l := [(42, 0)])).put' e223121 g0 rfl) rfl)
          exact wp_ireturn e294 c294_107 rfl ⟨rfl, w223122, f223123, H223120 r223137 5, rfl, ⟨by omega, by omega⟩, by omega⟩
        · refine wp_of e294 c294_38 (rw_tsw (p1 := 108) ⟨by omega, by omega⟩ (by rw [c223141]; decide) ?_)
          refine wp_of e294 c294_108 (rw_aload_n (pc' := 109) (v := .ref r0) rfl rfl rfl ?_)
          refine wp_of e294 c294_109 (xc_V (pc' := 112) (r := r0) (as := []) (st := []) (lm_9_357) rfl rfl (Nat.le_of_ble_eq_true rfl) w223122 g0 sh_42 (by decide) rfl (by decide) (s_207 w223122 g0) (fun R223151 T223152 H223153 p223154 => ?_))
          obtain ⟨e223155, e223157, z223158, e223156, b223159⟩ := p223154
          subst e223155
          subst e223156
          subst e223157
          show wp _ _ 294 112 [(0, .ref r0), (1, vI a1)] [vI z223158] _ H223120 _
          refine wp_of e294 c294_112 (xc_S (pc' := 115) (as := [vI z223158]) (st := []) (lm_9_462) rfl rfl (Nat.le_of_ble_eq_true rfl) rfl (by decide) (s_269 w223122 ⟨by omega, by omega⟩) (fun R223160 T223161 H223162 p223163 => ?_))
          obtain ⟨e223164, e223166, z223167, e223165, b223168⟩ := p223163
          subst e223164
          subst e223165
          subst e223166
          show wp _ _ 294 115 [(0, .ref r0), (1, vI a1)] [vI z223167] _ H223120 _
          have k223169 : wKI H223120 r0 = wKI H r0 := (wKI_fr hW g0 ((wfr.rf (l := [(42, 0)])).put' e223121 g0 rfl) rfl)
          exact wp_ireturn e294 c294_115 rfl ⟨rfl, w223122, f223123, z223167, rfl, ⟨by omega, by omega⟩, by omega⟩
        · refine wp_of e294 c294_38 (rw_tsw (p1 := 116) ⟨by omega, by omega⟩ (by rw [c223141]; decide) ?_)
          refine wp_of e294 c294_116 (rw_aload_n (pc' := 117) (v := .ref r0) rfl rfl rfl ?_)
          refine wp_of e294 c294_117 (xg_K (pc' := 120) lf_9_337 w223122 g0 sh_42 (by decide) (by decide) rfl q223138 rfl ?_)
          refine wp_of e294 c294_120 (xg_I (pc' := 123) lf_9_306 w223122 g223139 sh_54 (by decide) (by decide) ty_54_6 rfl rfl (fun b223170 b223171 => ?_))
          have k223172 : wKI H223120 r0 = wKI H r0 := (wKI_fr hW g0 ((wfr.rf (l := [(42, 0)])).put' e223121 g0 rfl) rfl)
          exact wp_ireturn e294 c294_123 rfl ⟨rfl, w223122, f223123, H223120 r223137 6, rfl, ⟨by omega, by omega⟩, by omega⟩
        · refine wp_of e294 c294_38 (rw_tsw (p1 := 124) ⟨by omega, by omega⟩ (by rw [c223141]; decide) ?_)
          refine wp_of e294 c294_124 (rw_aload_n (pc' := 125) (v := .ref r0) rfl rfl rfl ?_)
          refine wp_of e294 c294_125 (xg_K (pc' := 128) lf_9_337 w223122 g0 sh_42 (by decide) (by decide) rfl q223138 rfl ?_)
          refine wp_of e294 c294_128 (xg_I (pc' := 131) lf_9_321 w223122 g223139 sh_54 (by decide) (by decide) ty_54_7 rfl rfl (fun b223173 b223174 => ?_))
          have k223175 : wKI H223120 r0 = wKI H r0 := (wKI_fr hW g0 ((wfr.rf (l := [(42, 0)])).put' e223121 g0 rfl) rfl)
          exact wp_ireturn e294 c294_131 rfl ⟨rfl, w223122, f223123, H223120 r223137 7, rfl, ⟨by omega, by omega⟩, by omega⟩
        · refine wp_of e294 c294_38 (rw_tsw (p1 := 132) ⟨by omega, by omega⟩ (by rw [c223141]; decide) ?_)
          refine wp_of e294 c294_132 (rw_aload_n (pc' := 133) (v := .ref r0) rfl rfl rfl ?_)
          refine wp_of e294 c294_133 (xg_K (pc' := 136) lf_9_337 w223122 g0 sh_42 (by decide) (by decide) rfl q223138 rfl ?_)
          refine wp_of e294 c294_136 (xg_I (pc' := 139) lf_9_185 w223122 g223139 sh_54 (by decide) (by decide) ty_54_0 rfl rfl (fun b223176 b223177 => ?_))
          have k223178 : wKI H223120 r0 = wKI H r0 := (wKI_fr hW g0 ((wfr.rf (l := [(42, 0)])).put' e223121 g0 rfl) rfl)
          exact wp_ireturn e294 c294_139 rfl ⟨rfl, w223122, f223123, H223120 r223137 0, rfl, ⟨by omega, by omega⟩, by omega⟩
        · refine wp_of e294 c294_38 (rw_tsw (p1 := 140) ⟨by omega, by omega⟩ (by rw [c223141]; decide) ?_)
          refine wp_of e294 c294_140 (rw_aload_n (pc' := 141) (v := .ref r0) rfl rfl rfl ?_)
          refine wp_of e294 c294_141 (xg_K (pc' := 144) lf_9_337 w223122 g0 sh_42 (by decide) (by decide) rfl q223138 rfl ?_)
          refine wp_of e294 c294_144 (xg_I (pc' := 147) lf_9_271 w223122 g223139 sh_54 (by decide) (by decide) ty_54_8 rfl rfl (fun b223179 b223180 => ?_))
          refine wp_of e294 c294_147 (rw_iconst (pc' := 148) rfl ?_)
          refine wp_of e294 c294_148 (rw_icmp_ne (p1 := 156) (p2 := 151) (by decide) rfl ⟨by omega, by omega⟩ ⟨by omega, by omega⟩ (fun c223181 => ?_) (fun c223181 => ?_))
          · refine wp_of e294 c294_156 (rw_aload_n (pc' := 157) (v := .ref r0) rfl rfl rfl ?_)
            refine wp_of e294 c294_157 (xg_K (pc' := 160) lf_9_337 w223122 g0 sh_42 (by decide) (by decide) rfl q223138 rfl ?_)
            refine wp_of e294 c294_160 (xg_I (pc' := 163) lf_9_271 w223122 g223139 sh_54 (by decide) (by decide) ty_54_8 rfl rfl (fun b223182 b223183 => ?_))
            have k223184 : wKI H223120 r0 = wKI H r0 := (wKI_fr hW g0 ((wfr.rf (l := [(42, 0)])).put' e223121 g0 rfl) rfl)
            exact wp_ireturn e294 c294_163 rfl ⟨rfl, w223122, f223123, H223120 r223137 8, rfl, ⟨by omega, by omega⟩, by omega⟩
          · refine wp_of e294 c294_151 (rw_bipush (pc' := 153) (z := -2) rfl (by decide) ?_)
            refine wp_of e294 c294_153 (rw_goto (p1 := 163) (by decide) ?_)
            have k223185 : wKI H223120 r0 = wKI H r0 := (wKI_fr hW g0 ((wfr.rf (l := [(42, 0)])).put' e223121 g0 rfl) rfl)
            exact wp_ireturn e294 c294_163 rfl ⟨rfl, w223122, f223123, -2, rfl, ⟨by omega, by omega⟩, by omega⟩
        · refine wp_of e294 c294_38 (rw_tsw (p1 := 164) ⟨by omega, by omega⟩ (by rw [if_pos c223141]; decide) ?_)
          refine wp_of e294 c294_164 (rw_aload_n (pc' := 165) (v := .ref r0) rfl rfl rfl ?_)
          refine wp_of e294 c294_165 (xg_I (pc' := 168) lf_9_340 w223122 g0 sh_42 (by decide) (by decide) ty_42_32 rfl rfl (fun b223186 b223187 => ?_))
          have k223188 : wKI H223120 r0 = wKI H r0 := (wKI_fr hW g0 ((wfr.rf (l := [(42, 0)])).put' e223121 g0 rfl) rfl)
          exact wp_ireturn e294 c294_168 rfl ⟨rfl, w223122, f223123, H223120 r0 32, rfl, ⟨by omega, by omega⟩, by omega⟩
    · refine wp_of e294 c294_26 (rw_iconst (pc' := 27) rfl ?_)
      have k223189 : wKI H223120 r0 = wKI H r0 := (wKI_fr hW g0 ((wfr.rf (l := [(42, 0)])).put' e223121 g0 rfl) rfl)
      exact wp_ireturn e294 c294_27 rfl ⟨rfl, w223122, f223123, -1, rfl, ⟨by omega, by omega⟩, by omega⟩
  · refine wp_of e294 c294_11 (rw_aload_n (pc' := 12) (v := .ref r0) rfl rfl rfl ?_)
    refine wp_of e294 c294_12 (xg_I (pc' := 15) lf_9_330 w223122 g0 sh_42 (by decide) (by decide) ty_42_6 rfl rfl (fun b223190 b223191 => ?_))
    have k223192 : wKI H223120 r0 = wKI H r0 := (wKI_fr hW g0 ((wfr.rf (l := [(42, 0)])).put' e223121 g0 rfl) rfl)
    exact wp_ireturn e294 c294_15 rfl ⟨rfl, w223122, f223123, H223120 r0 6, rfl, ⟨by omega, by omega⟩, by omega⟩
