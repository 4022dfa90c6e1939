/-! methods (own work, written by wip/gen2/sx.py) -/
/-! StrikeAwake.restore(J)Z -/
theorem e161 : wq_en 161 = some (0, 3, false, some FieldType.boolean) := rfl
theorem c161_0 : mc_cd 161 0 = some (.aload_n 0, 1) := by decide +kernel
theorem c161_1 : mc_cd 161 1 = some (.getfield 58, 3) := by decide +kernel
theorem c161_4 : mc_cd 161 4 = some (.ifCond .ne 9, 3) := by decide +kernel
theorem c161_7 : mc_cd 161 7 = some (.aload_n 0, 1) := by decide +kernel
theorem c161_8 : mc_cd 161 8 = some (.iconst 1, 1) := by decide +kernel
theorem c161_9 : mc_cd 161 9 = some (.invokevirtual 145, 3) := by decide +kernel
theorem c161_12 : mc_cd 161 12 = some (.ireturn, 1) := by decide +kernel
theorem c161_13 : mc_cd 161 13 = some (.aload_n 0, 1) := by decide +kernel
theorem c161_14 : mc_cd 161 14 = some (.getfield 51, 3) := by decide +kernel
theorem c161_17 : mc_cd 161 17 = some (.lload_n 1, 1) := by decide +kernel
theorem c161_18 : mc_cd 161 18 = some (.invokevirtual 309, 3) := by decide +kernel
theorem c161_21 : mc_cd 161 21 = some (.ifCond .ne 9, 3) := by decide +kernel
theorem c161_24 : mc_cd 161 24 = some (.aload_n 0, 1) := by decide +kernel
theorem c161_25 : mc_cd 161 25 = some (.iconst 2, 1) := by decide +kernel
theorem c161_26 : mc_cd 161 26 = some (.invokevirtual 145, 3) := by decide +kernel
theorem c161_29 : mc_cd 161 29 = some (.ireturn, 1) := by decide +kernel
theorem c161_30 : mc_cd 161 30 = some (.aload_n 0, 1) := by decide +kernel
theorem c161_31 : mc_cd 161 31 = some (.getfield 51, 3) := by decide +kernel
theorem c161_34 : mc_cd 161 34 = some (.lload_n 1, 1) := by decide +kernel
theorem c161_35 : mc_cd 161 35 = some (.invokevirtual 313, 3) := by decide +kernel
theorem c161_38 : mc_cd 161 38 = some (.aload_n 0, 1) := by decide +kernel
theorem c161_39 : mc_cd 161 39 = some (.invokevirtual 151, 3) := by decide +kernel
theorem c161_42 : mc_cd 161 42 = some (.ireturn, 1) := by decide +kernel
abbrev q_161 (r0 : Nat) (a1 : Int) (T : wq_T) (H : wq_H) : Option Value → wq_T → wq_H → Prop := fun r T' H' => T = T' ∧ WT T H' ∧ wfr [(27, 17), (35, 16), (1, 10)] T H H' ∧ ∃ z : Int, some (vI z) = r ∧ (0 ≤ z ∧ z ≤ 1)
set_option maxHeartbeats 4000000 in
theorem s_161 {kt : Nat → Option mc_E} {T : wq_T} {H : wq_H} {r0 : Nat} {a1 : Int} (hW : WT T H) (g0 : T.2.2.2 r0 = some 1) (i1 : (-9223372036854775808) ≤ a1 ∧ a1 ≤ 9223372036854775807) : wpc kt 2 161 [.ref r0, vL a1] T H (q_161 r0 a1 T H) := by
  refine wp_enter e161 (Nat.le_of_ble_eq_true rfl) rfl ?_
  have f0 : wfr [(27, 17), (35, 16), (1, 10)] T H H := wfr.rf
  show wp _ _ 161 0 [(0, .ref r0), (1, vL a1)] [] _ H _
  refine wp_of e161 c161_0 (rw_aload_n (pc' := 1) (v := .ref r0) rfl rfl rfl ?_)
  refine wp_of e161 c161_1 (xg_I (pc' := 4) lf_0_58 hW g0 sh_1 (by decide) (by decide) ty_1_8 rfl rfl (fun b80953 b80954 => ?_))
  refine wp_of e161 c161_4 (rw_if_ne (p1 := 13) (p2 := 7) (by decide) rfl ⟨by omega, by omega⟩ (fun c80955 => ?_) (fun c80955 => ?_))
  · refine wp_of e161 c161_13 (rw_aload_n (pc' := 14) (v := .ref r0) rfl rfl rfl ?_)
    refine wp_of e161 c161_14 (xg_R (pc' := 17) lf_0_51 hW g0 sh_1 (by decide) (by decide) ty_1_6 rfl rfl (fun r80956 q80957 g80958 => ?_))
    refine wp_of e161 c161_17 (rw_lload_n (pc' := 18) (z := a1) rfl rfl ?_)
    refine wp_of e161 c161_18 (xc_V (pc' := 21) (r := r80956) (as := [vL a1]) (st := []) (lm_0_309) rfl rfl (Nat.le_of_ble_eq_true rfl) hW g80958 sh_27 (by decide) rfl (by decide) (s_162 hW g80958 ⟨by omega, by omega⟩) (fun R80959 T80960 H80961 p80962 => ?_))
    obtain ⟨e80963, e80965, z80967, e80964, b80968, p80966⟩ := p80962
    subst e80963
    subst e80964
    subst e80965
    show wp _ _ 161 21 [(0, .ref r0), (1, vL a1)] [vI z80967] _ H _
    refine wp_of e161 c161_21 (rw_if_ne (p1 := 30) (p2 := 24) (by decide) rfl ⟨by omega, by omega⟩ (fun c80969 => ?_) (fun c80969 => ?_))
    · refine wp_of e161 c161_30 (rw_aload_n (pc' := 31) (v := .ref r0) rfl rfl rfl ?_)
      refine wp_of e161 c161_31 (xg_K (pc' := 34) lf_0_51 hW g0 sh_1 (by decide) (by decide) rfl q80957 rfl ?_)
      refine wp_of e161 c161_34 (rw_lload_n (pc' := 35) (z := a1) rfl rfl ?_)
      refine wp_of e161 c161_35 (xc_V (pc' := 38) (r := r80956) (as := [vL a1]) (st := []) (lm_0_313) rfl rfl (Nat.le_of_ble_eq_true rfl) hW g80958 sh_27 (by decide) rfl (by decide) (s_163 hW g80958 ⟨by omega, by omega⟩ (by omega)) (fun R80970 T80971 H80972 p80973 => ?_))
      obtain ⟨e80974, w80976, f80977, e80975⟩ := p80973
      subst e80974
      subst e80975
      have f80978 := f0.tr f80977 rfl
      show wp _ _ 161 38 [(0, .ref r0), (1, vL a1)] [] _ H80972 _
      refine wp_of e161 c161_38 (rw_aload_n (pc' := 39) (v := .ref r0) rfl rfl rfl ?_)
      refine wp_of e161 c161_39 (xc_V (pc' := 42) (r := r0) (as := []) (st := []) (lm_0_151) rfl rfl (Nat.le_of_ble_eq_true rfl) w80976 g0 sh_1 (by decide) rfl (by decide) (s_64 w80976 g0) (fun R80979 T80980 H80981 p80982 => ?_))
      obtain ⟨e80983, w80985, f80986, z80987, e80984, b80988⟩ := p80982
      subst e80983
      subst e80984
      have f80989 := f80978.tr f80986 rfl
      show wp _ _ 161 42 [(0, .ref r0), (1, vL a1)] [vI z80987] _ H80981 _
      exact wp_zreturn e161 c161_42 rfl (by omega) ⟨rfl, w80985, f80989, z80987, rfl, ⟨by omega, by omega⟩⟩
    · refine wp_of e161 c161_24 (rw_aload_n (pc' := 25) (v := .ref r0) rfl rfl rfl ?_)
      refine wp_of e161 c161_25 (rw_iconst (pc' := 26) rfl ?_)
      refine wp_of e161 c161_26 (xc_V (pc' := 29) (r := r0) (as := [vI 2]) (st := []) (lm_0_145) rfl rfl (Nat.le_of_ble_eq_true rfl) hW g0 sh_1 (by decide) rfl (by decide) (s_63 hW g0 ⟨by omega, by omega⟩) (fun R80990 T80991 H80992 p80993 => ?_))
      obtain ⟨e80994, w80996, f80997, z80998, e80995, b80999⟩ := p80993
      subst e80994
      subst e80995
      have f81000 := f0.tr f80997 rfl
      show wp _ _ 161 29 [(0, .ref r0), (1, vL a1)] [vI z80998] _ H80992 _
      exact wp_zreturn e161 c161_29 rfl (by omega) ⟨rfl, w80996, f81000, z80998, rfl, ⟨by omega, by omega⟩⟩
  · refine wp_of e161 c161_7 (rw_aload_n (pc' := 8) (v := .ref r0) rfl rfl rfl ?_)
    refine wp_of e161 c161_8 (rw_iconst (pc' := 9) rfl ?_)
    refine wp_of e161 c161_9 (xc_V (pc' := 12) (r := r0) (as := [vI 1]) (st := []) (lm_0_145) rfl rfl (Nat.le_of_ble_eq_true rfl) hW g0 sh_1 (by decide) rfl (by decide) (s_63 hW g0 ⟨by omega, by omega⟩) (fun R81001 T81002 H81003 p81004 => ?_))
    obtain ⟨e81005, w81007, f81008, z81009, e81006, b81010⟩ := p81004
    subst e81005
    subst e81006
    have f81011 := f0.tr f81008 rfl
    show wp _ _ 161 12 [(0, .ref r0), (1, vL a1)] [vI z81009] _ H81003 _
    exact wp_zreturn e161 c161_12 rfl (by omega) ⟨rfl, w81007, f81011, z81009, rfl, ⟨by omega, by omega⟩⟩
/-! StrikeAwake.size(I)I -/
theorem e164 : wq_en 164 = some (0, 2, false, some FieldType.int) := rfl
theorem c164_0 : mc_cd 164 0 = some (.iload_n 1, 1) := by decide +kernel
theorem c164_1 : mc_cd 164 1 = some (.tableswitch 143 0 9 #[55, 63, 71, 79, 87, 95, 103, 111, 130, 138], 55) := by decide +kernel
theorem c164_56 : mc_cd 164 56 = some (.aload_n 0, 1) := by decide +kernel
theorem c164_57 : mc_cd 164 57 = some (.getfield 51, 3) := by decide +kernel
theorem c164_60 : mc_cd 164 60 = some (.getfield 96, 3) := by decide +kernel
theorem c164_63 : mc_cd 164 63 = some (.ireturn, 1) := by decide +kernel
theorem c164_64 : mc_cd 164 64 = some (.aload_n 0, 1) := by decide +kernel
theorem c164_65 : mc_cd 164 65 = some (.getfield 51, 3) := by decide +kernel
theorem c164_68 : mc_cd 164 68 = some (.getfield 327, 3) := by decide +kernel
theorem c164_71 : mc_cd 164 71 = some (.ireturn, 1) := by decide +kernel
theorem c164_72 : mc_cd 164 72 = some (.aload_n 0, 1) := by decide +kernel
theorem c164_73 : mc_cd 164 73 = some (.getfield 51, 3) := by decide +kernel
theorem c164_76 : mc_cd 164 76 = some (.getfield 330, 3) := by decide +kernel
theorem c164_79 : mc_cd 164 79 = some (.ireturn, 1) := by decide +kernel
theorem c164_80 : mc_cd 164 80 = some (.aload_n 0, 1) := by decide +kernel
theorem c164_81 : mc_cd 164 81 = some (.getfield 51, 3) := by decide +kernel
theorem c164_84 : mc_cd 164 84 = some (.getfield 295, 3) := by decide +kernel
theorem c164_87 : mc_cd 164 87 = some (.ireturn, 1) := by decide +kernel
theorem c164_88 : mc_cd 164 88 = some (.aload_n 0, 1) := by decide +kernel
theorem c164_89 : mc_cd 164 89 = some (.getfield 51, 3) := by decide +kernel
theorem c164_92 : mc_cd 164 92 = some (.getfield 333, 3) := by decide +kernel
theorem c164_95 : mc_cd 164 95 = some (.ireturn, 1) := by decide +kernel
theorem c164_96 : mc_cd 164 96 = some (.aload_n 0, 1) := by decide +kernel
theorem c164_97 : mc_cd 164 97 = some (.getfield 51, 3) := by decide +kernel
theorem c164_100 : mc_cd 164 100 = some (.getfield 336, 3) := by decide +kernel
theorem c164_103 : mc_cd 164 103 = some (.ireturn, 1) := by decide +kernel
theorem c164_104 : mc_cd 164 104 = some (.aload_n 0, 1) := by decide +kernel
theorem c164_105 : mc_cd 164 105 = some (.getfield 51, 3) := by decide +kernel
theorem c164_108 : mc_cd 164 108 = some (.getfield 339, 3) := by decide +kernel
theorem c164_111 : mc_cd 164 111 = some (.ireturn, 1) := by decide +kernel
theorem c164_112 : mc_cd 164 112 = some (.aload_n 0, 1) := by decide +kernel
theorem c164_113 : mc_cd 164 113 = some (.getfield 58, 3) := by decide +kernel
theorem c164_116 : mc_cd 164 116 = some (.ifCond .eq 13, 3) := by decide +kernel
theorem c164_119 : mc_cd 164 119 = some (.aload_n 0, 1) := by decide +kernel
theorem c164_120 : mc_cd 164 120 = some (.getfield 51, 3) := by decide +kernel
theorem c164_123 : mc_cd 164 123 = some (.getfield 342, 3) := by decide +kernel
theorem c164_126 : mc_cd 164 126 = some (.goto 4, 3) := by decide +kernel
theorem c164_129 : mc_cd 164 129 = some (.iconst 0, 1) := by decide +kernel
theorem c164_130 : mc_cd 164 130 = some (.ireturn, 1) := by decide +kernel
theorem c164_131 : mc_cd 164 131 = some (.aload_n 0, 1) := by decide +kernel
theorem c164_132 : mc_cd 164 132 = some (.getfield 51, 3) := by decide +kernel
theorem c164_135 : mc_cd 164 135 = some (.getfield 298, 3) := by decide +kernel
theorem c164_138 : mc_cd 164 138 = some (.ireturn, 1) := by decide +kernel
theorem c164_139 : mc_cd 164 139 = some (.aload_n 0, 1) := by decide +kernel
theorem c164_140 : mc_cd 164 140 = some (.getfield 62, 3) := by decide +kernel
theorem c164_143 : mc_cd 164 143 = some (.ireturn, 1) := by decide +kernel
theorem c164_144 : mc_cd 164 144 = some (.iconst (-1), 1) := by decide +kernel
theorem c164_145 : mc_cd 164 145 = some (.ireturn, 1) := by decide +kernel
abbrev q_164 (r0 : Nat) (a1 : Int) (T : wq_T) (H : wq_H) : Option Value → wq_T → wq_H → Prop := fun r T' H' => T = T' ∧ H = H' ∧ ∃ z : Int, some (vI z) = r ∧ ((-2147483648) ≤ z ∧ z ≤ 2147483647)
set_option maxHeartbeats 4000000 in
theorem s_164 {kt : Nat → Option mc_E} {T : wq_T} {H : wq_H} {r0 : Nat} {a1 : Int} (hW : WT T H) (g0 : T.2.2.2 r0 = some 1) (i1 : (-2147483648) ≤ a1 ∧ a1 ≤ 2147483647) : wpc kt 1 164 [.ref r0, vI a1] T H (q_164 r0 a1 T H) := by
  refine wp_enter e164 (Nat.le_of_ble_eq_true rfl) rfl ?_
  show wp _ _ 164 0 [(0, .ref r0), (1, vI a1)] [] _ H _
  refine wp_of e164 c164_0 (rw_iload_n (pc' := 1) (z := a1) rfl rfl ?_)
  have c81063 : a1 = 0 ∨ a1 = 1 ∨ a1 = 2 ∨ a1 = 3 ∨ a1 = 4 ∨ a1 = 5 ∨ a1 = 6 ∨ a1 = 7 ∨ a1 = 8 ∨ a1 = 9 ∨ (a1 < 0 ∨ 9 < a1) := by omega
  rcases c81063 with c81063 | c81063 | c81063 | c81063 | c81063 | c81063 | c81063 | c81063 | c81063 | c81063 | c81063
  · refine wp_of e164 c164_1 (rw_tsw (p1 := 56) ⟨by omega, by omega⟩ (by rw [c81063]; decide) ?_)
    refine wp_of e164 c164_56 (rw_aload_n (pc' := 57) (v := .ref r0) rfl rfl rfl ?_)
    refine wp_of e164 c164_57 (xg_R (pc' := 60) lf_0_51 hW g0 sh_1 (by decide) (by decide) ty_1_6 rfl rfl (fun r81064 q81065 g81066 => ?_))
    refine wp_of e164 c164_60 (xg_I (pc' := 63) lf_0_96 hW g81066 sh_27 (by decide) (by decide) ty_27_10 rfl rfl (fun b81067 b81068 => ?_))
    exact wp_ireturn e164 c164_63 rfl ⟨rfl, rfl, H r81064 10, rfl, ⟨by omega, by omega⟩⟩
  · refine wp_of e164 c164_1 (rw_tsw (p1 := 64) ⟨by omega, by omega⟩ (by rw [c81063]; decide) ?_)
    refine wp_of e164 c164_64 (rw_aload_n (pc' := 65) (v := .ref r0) rfl rfl rfl ?_)
    refine wp_of e164 c164_65 (xg_R (pc' := 68) lf_0_51 hW g0 sh_1 (by decide) (by decide) ty_1_6 rfl rfl (fun r81069 q81070 g81071 => ?_))
    refine wp_of e164 c164_68 (xg_I (pc' := 71) lf_0_327 hW g81071 sh_27 (by decide) (by decide) ty_27_11 rfl rfl (fun b81072 b81073 => ?_))
    exact wp_ireturn e164 c164_71 rfl ⟨rfl, rfl, H r81069 11, rfl, ⟨by omega, by omega⟩⟩
  · refine wp_of e164 c164_1 (rw_tsw (p1 := 72) ⟨by omega, by omega⟩ (by rw [c81063]; decide) ?_)
    refine wp_of e164 c164_72 (rw_aload_n (pc' := 73) (v := .ref r0) rfl rfl rfl ?_)
    refine wp_of e164 c164_73 (xg_R (pc' := 76) lf_0_51 hW g0 sh_1 (by decide) (by decide) ty_1_6 rfl rfl (fun r81074 q81075 g81076 => ?_))
    refine wp_of e164 c164_76 (xg_I (pc' := 79) lf_0_330 hW g81076 sh_27 (by decide) (by decide) ty_27_12 rfl rfl (fun b81077 b81078 => ?_))
    exact wp_ireturn e164 c164_79 rfl ⟨rfl, rfl, H r81074 12, rfl, ⟨by omega, by omega⟩⟩
  · refine wp_of e164 c164_1 (rw_tsw (p1 := 80) ⟨by omega, by omega⟩ (by rw [c81063]; decide) ?_)
    refine wp_of e164 c164_80 (rw_aload_n (pc' := 81) (v := .ref r0) rfl rfl rfl ?_)
    refine wp_of e164 c164_81 (xg_R (pc' := 84) lf_0_51 hW g0 sh_1 (by decide) (by decide) ty_1_6 rfl rfl (fun r81079 q81080 g81081 => ?_))
    refine wp_of e164 c164_84 (xg_I (pc' := 87) lf_0_295 hW g81081 sh_27 (by decide) (by decide) ty_27_16 rfl rfl (fun b81082 b81083 => ?_))
    exact wp_ireturn e164 c164_87 rfl ⟨rfl, rfl, H r81079 16, rfl, ⟨by omega, by omega⟩⟩
  · refine wp_of e164 c164_1 (rw_tsw (p1 := 88) ⟨by omega, by omega⟩ (by rw [c81063]; decide) ?_)
    refine wp_of e164 c164_88 (rw_aload_n (pc' := 89) (v := .ref r0) rfl rfl rfl ?_)
    refine wp_of e164 c164_89 (xg_R (pc' := 92) lf_0_51 hW g0 sh_1 (by decide) (by decide) ty_1_6 rfl rfl (fun r81084 q81085 g81086 => ?_))
    refine wp_of e164 c164_92 (xg_I (pc' := 95) lf_0_333 hW g81086 sh_27 (by decide) (by decide) ty_27_13 rfl rfl (fun b81087 b81088 => ?_))
    exact wp_ireturn e164 c164_95 rfl ⟨rfl, rfl, H r81084 13, rfl, ⟨by omega, by omega⟩⟩
  · refine wp_of e164 c164_1 (rw_tsw (p1 := 96) ⟨by omega, by omega⟩ (by rw [c81063]; decide) ?_)
    refine wp_of e164 c164_96 (rw_aload_n (pc' := 97) (v := .ref r0) rfl rfl rfl ?_)
    refine wp_of e164 c164_97 (xg_R (pc' := 100) lf_0_51 hW g0 sh_1 (by decide) (by decide) ty_1_6 rfl rfl (fun r81089 q81090 g81091 => ?_))
    refine wp_of e164 c164_100 (xg_I (pc' := 103) lf_0_336 hW g81091 sh_27 (by decide) (by decide) ty_27_14 rfl rfl (fun b81092 b81093 => ?_))
    exact wp_ireturn e164 c164_103 rfl ⟨rfl, rfl, H r81089 14, rfl, ⟨by omega, by omega⟩⟩
  · refine wp_of e164 c164_1 (rw_tsw (p1 := 104) ⟨by omega, by omega⟩ (by rw [c81063]; decide) ?_)
    refine wp_of e164 c164_104 (rw_aload_n (pc' := 105) (v := .ref r0) rfl rfl rfl ?_)
    refine wp_of e164 c164_105 (xg_R (pc' := 108) lf_0_51 hW g0 sh_1 (by decide) (by decide) ty_1_6 rfl rfl (fun r81094 q81095 g81096 => ?_))
    refine wp_of e164 c164_108 (xg_I (pc' := 111) lf_0_339 hW g81096 sh_27 (by decide) (by decide) ty_27_7 rfl rfl (fun b81097 b81098 => ?_))
    exact wp_ireturn e164 c164_111 rfl ⟨rfl, rfl, H r81094 7, rfl, ⟨by omega, by omega⟩⟩
  · refine wp_of e164 c164_1 (rw_tsw (p1 := 112) ⟨by omega, by omega⟩ (by rw [c81063]; decide) ?_)
    refine wp_of e164 c164_112 (rw_aload_n (pc' := 113) (v := .ref r0) rfl rfl rfl ?_)
    refine wp_of e164 c164_113 (xg_I (pc' := 116) lf_0_58 hW g0 sh_1 (by decide) (by decide) ty_1_8 rfl rfl (fun b81099 b81100 => ?_))
    refine wp_of e164 c164_116 (rw_if_eq (p1 := 129) (p2 := 119) (by decide) rfl ⟨by omega, by omega⟩ (fun c81101 => ?_) (fun c81101 => ?_))
    · refine wp_of e164 c164_129 (rw_iconst (pc' := 130) rfl ?_)
      exact wp_ireturn e164 c164_130 rfl ⟨rfl, rfl, 0, rfl, ⟨by omega, by omega⟩⟩
    · refine wp_of e164 c164_119 (rw_aload_n (pc' := 120) (v := .ref r0) rfl rfl rfl ?_)
      refine wp_of e164 c164_120 (xg_R (pc' := 123) lf_0_51 hW g0 sh_1 (by decide) (by decide) ty_1_6 rfl rfl (fun r81102 q81103 g81104 => ?_))
      refine wp_of e164 c164_123 (xg_I (pc' := 126) lf_0_342 hW g81104 sh_27 (by decide) (by decide) ty_27_15 rfl rfl (fun b81105 b81106 => ?_))
      refine wp_of e164 c164_126 (rw_goto (p1 := 130) (by decide) ?_)
      exact wp_ireturn e164 c164_130 rfl ⟨rfl, rfl, H r81102 15, rfl, ⟨by omega, by omega⟩⟩
  · refine wp_of e164 c164_1 (rw_tsw (p1 := 131) ⟨by omega, by omega⟩ (by rw [c81063]; decide) ?_)
    refine wp_of e164 c164_131 (rw_aload_n (pc' := 132) (v := .ref r0) rfl rfl rfl ?_)
    refine wp_of e164 c164_132 (xg_R (pc' := 135) lf_0_51 hW g0 sh_1 (by decide) (by decide) ty_1_6 rfl rfl (fun r81107 q81108 g81109 => ?_))
    refine wp_of e164 c164_135 (xg_I (pc' := 138) lf_0_298 hW g81109 sh_27 (by decide) (by decide) ty_27_17 rfl rfl (fun b81110 b81111 => ?_))
    exact wp_ireturn e164 c164_138 rfl ⟨rfl, rfl, H r81107 17, rfl, ⟨by omega, by omega⟩⟩
  · refine wp_of e164 c164_1 (rw_tsw (p1 := 139) ⟨by omega, by omega⟩ (by rw [c81063]; decide) ?_)
    refine wp_of e164 c164_139 (rw_aload_n (pc' := 140) (v := .ref r0) rfl rfl rfl ?_)
    refine wp_of e164 c164_140 (xg_I (pc' := 143) lf_0_62 hW g0 sh_1 (by decide) (by decide) ty_1_9 rfl rfl (fun b81112 b81113 => ?_))
    exact wp_ireturn e164 c164_143 rfl ⟨rfl, rfl, H r0 9, rfl, ⟨by omega, by omega⟩⟩
  · refine wp_of e164 c164_1 (rw_tsw (p1 := 144) ⟨by omega, by omega⟩ (by rw [if_pos c81063]; decide) ?_)
    refine wp_of e164 c164_144 (rw_iconst (pc' := 145) rfl ?_)
    exact wp_ireturn e164 c164_145 rfl ⟨rfl, rfl, -1, rfl, ⟨by omega, by omega⟩⟩
/-! StrikeAwake.trouble()I -/
theorem e165 : wq_en 165 = some (0, 1, false, some FieldType.int) := rfl
theorem c165_0 : mc_cd 165 0 = some (.aload_n 0, 1) := by decide +kernel
theorem c165_1 : mc_cd 165 1 = some (.getfield 102, 3) := by decide +kernel
theorem c165_4 : mc_cd 165 4 = some (.ireturn, 1) := by decide +kernel
abbrev q_165 (r0 : Nat) (T : wq_T) (H : wq_H) : Option Value → wq_T → wq_H → Prop := fun r T' H' => T = T' ∧ H = H' ∧ ∃ z : Int, some (vI z) = r ∧ ((-2147483648) ≤ z ∧ z ≤ 2147483647)
set_option maxHeartbeats 4000000 in
theorem s_165 {kt : Nat → Option mc_E} {T : wq_T} {H : wq_H} {r0 : Nat} (hW : WT T H) (g0 : T.2.2.2 r0 = some 1) : wpc kt 1 165 [.ref r0] T H (q_165 r0 T H) := by
  refine wp_enter e165 (Nat.le_of_ble_eq_true rfl) rfl ?_
  show wp _ _ 165 0 [(0, .ref r0)] [] _ H _
  refine wp_of e165 c165_0 (rw_aload_n (pc' := 1) (v := .ref r0) rfl rfl rfl ?_)
  refine wp_of e165 c165_1 (xg_I (pc' := 4) lf_0_102 hW g0 sh_1 (by decide) (by decide) ty_1_10 rfl rfl (fun b81116 b81117 => ?_))
  exact wp_ireturn e165 c165_4 rfl ⟨rfl, rfl, H r0 10, rfl, ⟨by omega, by omega⟩⟩
