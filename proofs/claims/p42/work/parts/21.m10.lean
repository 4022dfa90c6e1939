/-! methods (own work, written by wip/gen2/sx.py) -/
/-! StrikeAwake.restore(J)Z -/
theorem e161 : wq_en 161 = some (0, 3, false, some FieldType.boolean) := rfl
theorem c161_0 : mc_cd 161 0 = some (.aload_n 0, 1) := by decide +kernel
theorem c161_1 : mc_cd 161 1 = some (.getfield 58, 3) := by decide +kernel
theorem c161_4 : mc_cd 161 4 = some (.ifCond .ne 9, 3) := by decide +kernel
theorem c161_7 : mc_cd 161 7 = some (.aload_n 0, 1) := by decide +kernel
theorem c161_8 : mc_cd 161 8 = some (.iconst 1, 1) := by decide +kernel
theorem c161_9 : mc_cd 161 9 = some (.invokevirtual 145, 3) := by decide +kernel
theorem c161_12 : mc_cd 161 12 = some (.ireturn, 1) := by decide +kernel
theorem c161_13 : mc_cd 161 13 = some (.aload_n 0, 1) := by decide +kernel
theorem c161_14 : mc_cd 161 14 = some (.getfield 51, 3) := by decide +kernel
theorem c161_17 : mc_cd 161 17 = some (.lload_n 1, 1) := by decide +kernel
theorem c161_18 : mc_cd 161 18 = some (.invokevirtual 309, 3) := by decide +kernel
theorem c161_21 : mc_cd 161 21 = some (.ifCond .ne 9, 3) := by decide +kernel
theorem c161_24 : mc_cd 161 24 = some (.aload_n 0, 1) := by decide +kernel
theorem c161_25 : mc_cd 161 25 = some (.iconst 2, 1) := by decide +kernel
theorem c161_26 : mc_cd 161 26 = some (.invokevirtual 145, 3) := by decide +kernel
theorem c161_29 : mc_cd 161 29 = some (.ireturn, 1) := by decide +kernel
theorem c161_30 : mc_cd 161 30 = some (.aload_n 0, 1) := by decide +kernel
theorem c161_31 : mc_cd 161 31 = some (.getfield 51, 3) := by decide +kernel
theorem c161_34 : mc_cd 161 34 = some (.lload_n 1, 1) := by decide +kernel
theorem c161_35 : mc_cd 161 35 = some (.invokevirtual 313, 3) := by decide +kernel
theorem c161_38 : mc_cd 161 38 = some (.aload_n 0, 1) := by decide +kernel
theorem c161_39 : mc_cd 161 39 = some (.invokevirtual 151, 3) := by decide +kernel
theorem c161_42 : mc_cd 161 42 = some (.ireturn, 1) := by decide +kernel
abbrev q_161 (r0 : Nat) (a1 : Int) (T : wq_T) (H : wq_H) : Option Value → wq_T → wq_H → Prop := fun r T' H' => T = T' ∧ WT T H' ∧ wfr [(27, 17), (35, 16), (1, 10)] T H H' ∧ ∃ z : Int, some (vI z) = r ∧ (0 ≤ z ∧ z ≤ 1)
set_option maxHeartbeats 4000000 in
theorem s_161 {kt : Nat → Option mc_E} {T : wq_T} {H : wq_H} {r0 : Nat} {a1 : Int} (hW : WT T H) (g0 : T.2.2.2 r0 = some 1) (i1 : (-9223372036854775808) ≤ a1 ∧ a1 ≤ 9223372036854775807) : wpc kt 2 161 [.ref r0, vL a1] T H (q_161 r0 a1 T H) := by
  refine wp_enter e161 (Nat.le_of_ble_eq_true rfl) rfl ?_
  have f0 : wfr [(27, 17), (35, 16), (1, 10)] T H H := wfr.rf
  show wp _ _ 161 0 [(0, .ref r0), (1, vL a1)] [] _ H _
  refine wp_of e161 c161_0 (rw_aload_n (pc' := 1) (v := .ref r0) rfl rfl rfl ?_)
  refine wp_of e161 c161_1 (xg_I (pc' := 4) lf_0_58 hW g0 sh_1 (by decide) (by decide) ty_1_8 rfl rfl (fun b81031 b81032 => ?_))
  refine wp_of e161 c161_4 (rw_if_ne (p1 := 13) (p2 := 7) (by decide) rfl ⟨by omega, by omega⟩ (fun c81033 => ?_) (fun c81033 => ?_))
  · refine wp_of e161 c161_13 (rw_aload_n (pc' := 14) (v := .ref r0) rfl rfl rfl ?_)
    refine wp_of e161 c161_14 (xg_R (pc' := 17) lf_0_51 hW g0 sh_1 (by decide) (by decide) ty_1_6 rfl rfl (fun r81034 q81035 g81036 => ?_))
    refine wp_of e161 c161_17 (rw_lload_n (pc' := 18) (z := a1) rfl rfl ?_)
    refine wp_of e161 c161_18 (xc_V (pc' := 21) (r := r81034) (as := [vL a1]) (st := []) (lm_0_309) rfl rfl (Nat.le_of_ble_eq_true rfl) hW g81036 sh_27 (by decide) rfl (by decide) (s_162 hW g81036 ⟨by omega, by omega⟩) (fun R81037 T81038 H81039 p81040 => ?_))
    obtain ⟨e81041, e81043, z81045, e81042, b81046, p81044⟩ := p81040
    subst e81041
    subst e81042
    subst e81043
    show wp _ _ 161 21 [(0, .ref r0), (1, vL a1)] [vI z81045] _ H _
    refine wp_of e161 c161_21 (rw_if_ne (p1 := 30) (p2 := 24) (by decide) rfl ⟨by omega, by omega⟩ (fun c81047 => ?_) (fun c81047 => ?_))
    · refine wp_of e161 c161_30 (rw_aload_n (pc' := 31) (v := .ref r0) rfl rfl rfl ?_)
      refine wp_of e161 c161_31 (xg_K (pc' := 34) lf_0_51 hW g0 sh_1 (by decide) (by decide) rfl q81035 rfl ?_)
      refine wp_of e161 c161_34 (rw_lload_n (pc' := 35) (z := a1) rfl rfl ?_)
      refine wp_of e161 c161_35 (xc_V (pc' := 38) (r := r81034) (as := [vL a1]) (st := []) (lm_0_313) rfl rfl (Nat.le_of_ble_eq_true rfl) hW g81036 sh_27 (by decide) rfl (by decide) (s_163 hW g81036 ⟨by omega, by omega⟩ (by omega)) (fun R81048 T81049 H81050 p81051 => ?_))
      obtain ⟨e81052, w81054, f81055, e81053⟩ := p81051
      subst e81052
      subst e81053
      have f81056 := f0.tr f81055 rfl
      show wp _ _ 161 38 [(0, .ref r0), (1, vL a1)] [] _ H81050 _
      refine wp_of e161 c161_38 (rw_aload_n (pc' := 39) (v := .ref r0) rfl rfl rfl ?_)
      refine wp_of e161 c161_39 (xc_V (pc' := 42) (r := r0) (as := []) (st := []) (lm_0_151) rfl rfl (Nat.le_of_ble_eq_true rfl) w81054 g0 sh_1 (by decide) rfl (by decide) (s_64 w81054 g0) (fun R81057 T81058 H81059 p81060 => ?_))
      obtain ⟨e81061, w81063, f81064, z81065, e81062, b81066⟩ := p81060
      subst e81061
      subst e81062
      have f81067 := f81056.tr f81064 rfl
      show wp _ _ 161 42 [(0, .ref r0), (1, vL a1)] [vI z81065] _ H81059 _
      exact wp_zreturn e161 c161_42 rfl (by omega) ⟨rfl, w81063, f81067, z81065, rfl, ⟨by omega, by omega⟩⟩
    · refine wp_of e161 c161_24 (rw_aload_n (pc' := 25) (v := .ref r0) rfl rfl rfl ?_)
      refine wp_of e161 c161_25 (rw_iconst (pc' := 26) rfl ?_)
      refine wp_of e161 c161_26 (xc_V (pc' := 29) (r := r0) (as := [vI 2]) (st := []) (lm_0_145) rfl rfl (Nat.le_of_ble_eq_true rfl) hW g0 sh_1 (by decide) rfl (by decide) (s_63 hW g0 ⟨by omega, by omega⟩) (fun R81068 T81069 H81070 p81071 => ?_))
      obtain ⟨e81072, w81074, f81075, z81076, e81073, b81077⟩ := p81071
      subst e81072
      subst e81073
      have f81078 := f0.tr f81075 rfl
      show wp _ _ 161 29 [(0, .ref r0), (1, vL a1)] [vI z81076] _ H81070 _
      exact wp_zreturn e161 c161_29 rfl (by omega) ⟨rfl, w81074, f81078, z81076, rfl, ⟨by omega, by omega⟩⟩
  · refine wp_of e161 c161_7 (rw_aload_n (pc' := 8) (v := .ref r0) rfl rfl rfl ?_)
    refine wp_of e161 c161_8 (rw_iconst (pc' := 9) rfl ?_)
    refine wp_of e161 c161_9 (xc_V (pc' := 12) (r := r0) (as := [vI 1]) (st := []) (lm_0_145) rfl rfl (Nat.le_of_ble_eq_true rfl) hW g0 sh_1 (by decide) rfl (by decide) (s_63 hW g0 ⟨by omega, by omega⟩) (fun R81079 T81080 H81081 p81082 => ?_))
    obtain ⟨e81083, w81085, f81086, z81087, e81084, b81088⟩ := p81082
    subst e81083
    subst e81084
    have f81089 := f0.tr f81086 rfl
    show wp _ _ 161 12 [(0, .ref r0), (1, vL a1)] [vI z81087] _ H81081 _
    exact wp_zreturn e161 c161_12 rfl (by omega) ⟨rfl, w81085, f81089, z81087, rfl, ⟨by omega, by omega⟩⟩
/-! StrikeAwake.size(I)I -/
theorem e164 : wq_en 164 = some (0, 2, false, some FieldType.int) := rfl
theorem c164_0 : mc_cd 164 0 = some (.iload_n 1, 1) := by decide +kernel
theorem c164_1 : mc_cd 164 1 = some (.tableswitch 143 0 9 #[55, 63, 71, 79, 87, 95, 103, 111, 130, 138], 55) := by decide +kernel
theorem c164_56 : mc_cd 164 56 = some (.aload_n 0, 1) := by decide +kernel
theorem c164_57 : mc_cd 164 57 = some (.getfield 51, 3) := by decide +kernel
theorem c164_60 : mc_cd 164 60 = some (.getfield 96, 3) := by decide +kernel
theorem c164_63 : mc_cd 164 63 = some (.ireturn, 1) := by decide +kernel
theorem c164_64 : mc_cd 164 64 = some (.aload_n 0, 1) := by decide +kernel
theorem c164_65 : mc_cd 164 65 = some (.getfield 51, 3) := by decide +kernel
theorem c164_68 : mc_cd 164 68 = some (.getfield 327, 3) := by decide +kernel
theorem c164_71 : mc_cd 164 71 = some (.ireturn, 1) := by decide +kernel
theorem c164_72 : mc_cd 164 72 = some (.aload_n 0, 1) := by decide +kernel
theorem c164_73 : mc_cd 164 73 = some (.getfield 51, 3) := by decide +kernel
theorem c164_76 : mc_cd 164 76 = some (.getfield 330, 3) := by decide +kernel
theorem c164_79 : mc_cd 164 79 = some (.ireturn, 1) := by decide +kernel
theorem c164_80 : mc_cd 164 80 = some (.aload_n 0, 1) := by decide +kernel
theorem c164_81 : mc_cd 164 81 = some (.getfield 51, 3) := by decide +kernel
theorem c164_84 : mc_cd 164 84 = some (.getfield 295, 3) := by decide +kernel
theorem c164_87 : mc_cd 164 87 = some (.ireturn, 1) := by decide +kernel
theorem c164_88 : mc_cd 164 88 = some (.aload_n 0, 1) := by decide +kernel
theorem c164_89 : mc_cd 164 89 = some (.getfield 51, 3) := by decide +kernel
theorem c164_92 : mc_cd 164 92 = some (.getfield 333, 3) := by decide +kernel
theorem c164_95 : mc_cd 164 95 = some (.ireturn, 1) := by decide +kernel
theorem c164_96 : mc_cd 164 96 = some (.aload_n 0, 1) := by decide +kernel
theorem c164_97 : mc_cd 164 97 = some (.getfield 51, 3) := by decide +kernel
theorem c164_100 : mc_cd 164 100 = some (.getfield 336, 3) := by decide +kernel
theorem c164_103 : mc_cd 164 103 = some (.ireturn, 1) := by decide +kernel
theorem c164_104 : mc_cd 164 104 = some (.aload_n 0, 1) := by decide +kernel
theorem c164_105 : mc_cd 164 105 = some (.getfield 51, 3) := by decide +kernel
theorem c164_108 : mc_cd 164 108 = some (.getfield 339, 3) := by decide +kernel
theorem c164_111 : mc_cd 164 111 = some (.ireturn, 1) := by decide +kernel
theorem c164_112 : mc_cd 164 112 = some (.aload_n 0, 1) := by decide +kernel
theorem c164_113 : mc_cd 164 113 = some (.getfield 58, 3) := by decide +kernel
theorem c164_116 : mc_cd 164 116 = some (.ifCond .eq 13, 3) := by decide +kernel
theorem c164_119 : mc_cd 164 119 = some (.aload_n 0, 1) := by decide +kernel
theorem c164_120 : mc_cd 164 120 = some (.getfield 51, 3) := by decide +kernel
theorem c164_123 : mc_cd 164 123 = some (.getfield 342, 3) := by decide +kernel
theorem c164_126 : mc_cd 164 126 = some (.goto 4, 3) := by decide +kernel
theorem c164_129 : mc_cd 164 129 = some (.iconst 0, 1) := by decide +kernel
theorem c164_130 : mc_cd 164 130 = some (.ireturn, 1) := by decide +kernel
theorem c164_131 : mc_cd 164 131 = some (.aload_n 0, 1) := by decide +kernel
theorem c164_132 : mc_cd 164 132 = some (.getfield 51, 3) := by decide +kernel
theorem c164_135 : mc_cd 164 135 = some (.getfield 298, 3) := by decide +kernel
theorem c164_138 : mc_cd 164 138 = some (.ireturn, 1) := by decide +kernel
theorem c164_139 : mc_cd 164 139 = some (.aload_n 0, 1) := by decide +kernel
theorem c164_140 : mc_cd 164 140 = some (.getfield 62, 3) := by decide +kernel
theorem c164_143 : mc_cd 164 143 = some (.ireturn, 1) := by decide +kernel
theorem c164_144 : mc_cd 164 144 = some (.iconst (-1), 1) := by decide +kernel
theorem c164_145 : mc_cd 164 145 = some (.ireturn, 1) := by decide +kernel
abbrev q_164 (r0 : Nat) (a1 : Int) (T : wq_T) (H : wq_H) : Option Value → wq_T → wq_H → Prop := fun r T' H' => T = T' ∧ H = H' ∧ ∃ z : Int, some (vI z) = r ∧ ((-2147483648) ≤ z ∧ z ≤ 2147483647)
set_option maxHeartbeats 4000000 in
theorem s_164 {kt : Nat → Option mc_E} {T : wq_T} {H : wq_H} {r0 : Nat} {a1 : Int} (hW : WT T H) (g0 : T.2.2.2 r0 = some 1) (i1 : (-2147483648) ≤ a1 ∧ a1 ≤ 2147483647) : wpc kt 1 164 [.ref r0, vI a1] T H (q_164 r0 a1 T H) := by
  refine wp_enter e164 (Nat.le_of_ble_eq_true rfl) rfl ?_
  show wp _ _ 164 0 [(0, .ref r0), (1, vI a1)] [] _ H _
  refine wp_of e164 c164_0 (rw_iload_n (pc' := 1) (z := a1) rfl rfl ?_)
  have c81141 : a1 = 0 ∨ a1 = 1 ∨ a1 = 2 ∨ a1 = 3 ∨ a1 = 4 ∨ a1 = 5 ∨ a1 = 6 ∨ a1 = 7 ∨ a1 = 8 ∨ a1 = 9 ∨ (a1 < 0 ∨ 9 < a1) := by omega
  rcases c81141 with c81141 | c81141 | c81141 | c81141 | c81141 | c81141 | c81141 | c81141 | c81141 | c81141 | c81141
  · refine wp_of e164 c164_1 (rw_tsw (p1 := 56) ⟨by omega, by omega⟩ (by rw [c81141]; decide) ?_)
    refine wp_of e164 c164_56 (rw_aload_n (pc' := 57) (v := .ref r0) rfl rfl rfl ?_)
    refine wp_of e164 c164_57 (xg_R (pc' := 60) lf_0_51 hW g0 sh_1 (by decide) (by decide) ty_1_6 rfl rfl (fun r81142 q81143 g81144 => ?_))
    refine wp_of e164 c164_60 (xg_I (pc' := 63) lf_0_96 hW g81144 sh_27 (by decide) (by decide) ty_27_10 rfl rfl (fun b81145 b81146 => ?_))
    exact wp_ireturn e164 c164_63 rfl ⟨rfl, rfl, H r81142 10, rfl, ⟨by omega, by omega⟩⟩
  · refine wp_of e164 c164_1 (rw_tsw (p1 := 64) ⟨by omega, by omega⟩ (by rw [c81141]; decide) ?_)
    refine wp_of e164 c164_64 (rw_aload_n (pc' := 65) (v := .ref r0) rfl rfl rfl ?_)
    refine wp_of e164 c164_65 (xg_R (pc' := 68) lf_0_51 hW g0 sh_1 (by decide) (by decide) ty_1_6 rfl rfl (fun r81147 q81148 g81149 => ?_))
    refine wp_of e164 c164_68 (xg_I (pc' := 71) lf_0_327 hW g81149 sh_27 (by decide) (by decide) ty_27_11 rfl rfl (fun b81150 b81151 => ?_))
    exact wp_ireturn e164 c164_71 rfl ⟨rfl, rfl, H r81147 11, rfl, ⟨by omega, by omega⟩⟩
  · refine wp_of e164 c164_1 (rw_tsw (p1 := 72) ⟨by omega, by omega⟩ (by rw [c81141]; decide) ?_)
    refine wp_of e164 c164_72 (rw_aload_n (pc' := 73) (v := .ref r0) rfl rfl rfl ?_)
    refine wp_of e164 c164_73 (xg_R (pc' := 76) lf_0_51 hW g0 sh_1 (by decide) (by decide) ty_1_6 rfl rfl (fun r81152 q81153 g81154 => ?_))
    refine wp_of e164 c164_76 (xg_I (pc' := 79) lf_0_330 hW g81154 sh_27 (by decide) (by decide) ty_27_12 rfl rfl (fun b81155 b81156 => ?_))
    exact wp_ireturn e164 c164_79 rfl ⟨rfl, rfl, H r81152 12, rfl, ⟨by omega, by omega⟩⟩
  · refine wp_of e164 c164_1 (rw_tsw (p1 := 80) ⟨by omega, by omega⟩ (by rw [c81141]; decide) ?_)
    refine wp_of e164 c164_80 (rw_aload_n (pc' := 81) (v := .ref r0) rfl rfl rfl ?_)
    refine wp_of e164 c164_81 (xg_R (pc' := 84) lf_0_51 hW g0 sh_1 (by decide) (by decide) ty_1_6 rfl rfl (fun r81157 q81158 g81159 => ?_))
    refine wp_of e164 c164_84 (xg_I (pc' := 87) lf_0_295 hW g81159 sh_27 (by decide) (by decide) ty_27_16 rfl rfl (fun b81160 b81161 => ?_))
    exact wp_ireturn e164 c164_87 rfl ⟨rfl, rfl, H r81157 16, rfl, ⟨by omega, by omega⟩⟩
  · refine wp_of e164 c164_1 (rw_tsw (p1 := 88) ⟨by omega, by omega⟩ (by rw [c81141]; decide) ?_)
    refine wp_of e164 c164_88 (rw_aload_n (pc' := 89) (v := .ref r0) rfl rfl rfl ?_)
    refine wp_of e164 c164_89 (xg_R (pc' := 92) lf_0_51 hW g0 sh_1 (by decide) (by decide) ty_1_6 rfl rfl (fun r81162 q81163 g81164 => ?_))
    refine wp_of e164 c164_92 (xg_I (pc' := 95) lf_0_333 hW g81164 sh_27 (by decide) (by decide) ty_27_13 rfl rfl (fun b81165 b81166 => ?_))
    exact wp_ireturn e164 c164_95 rfl ⟨rfl, rfl, H r81162 13, rfl, ⟨by omega, by omega⟩⟩
  · refine wp_of e164 c164_1 (rw_tsw (p1 := 96) ⟨by omega, by omega⟩ (by rw [c81141]; decide) ?_)
    refine wp_of e164 c164_96 (rw_aload_n (pc' := 97) (v := .ref r0) rfl rfl rfl ?_)
    refine wp_of e164 c164_97 (xg_R (pc' := 100) lf_0_51 hW g0 sh_1 (by decide) (by decide) ty_1_6 rfl rfl (fun r81167 q81168 g81169 => ?_))
    refine wp_of e164 c164_100 (xg_I (pc' := 103) lf_0_336 hW g81169 sh_27 (by decide) (by decide) ty_27_14 rfl rfl (fun b81170 b81171 => ?_))
    exact wp_ireturn e164 c164_103 rfl ⟨rfl, rfl, H r81167 14, rfl, ⟨by omega, by omega⟩⟩
  · refine wp_of e164 c164_1 (rw_tsw (p1 := 104) ⟨by omega, by omega⟩ (by rw [c81141]; decide) ?_)
    refine wp_of e164 c164_104 (rw_aload_n (pc' := 105) (v := .ref r0) rfl rfl rfl ?_)
    refine wp_of e164 c164_105 (xg_R (pc' := 108) lf_0_51 hW g0 sh_1 (by decide) (by decide) ty_1_6 rfl rfl (fun r81172 q81173 g81174 => ?_))
    refine wp_of e164 c164_108 (xg_I (pc' := 111) lf_0_339 hW g81174 sh_27 (by decide) (by decide) ty_27_7 rfl rfl (fun b81175 b81176 => ?_))
    exact wp_ireturn e164 c164_111 rfl ⟨rfl, rfl, H r81172 7, rfl, ⟨by omega, by omega⟩⟩
  · refine wp_of e164 c164_1 (rw_tsw (p1 := 112) ⟨by omega, by omega⟩ (by rw [c81141]; decide) ?_)
    refine wp_of e164 c164_112 (rw_aload_n (pc' := 113) (v := .ref r0) rfl rfl rfl ?_)
    refine wp_of e164 c164_113 (xg_I (pc' := 116) lf_0_58 hW g0 sh_1 (by decide) (by decide) ty_1_8 rfl rfl (fun b81177 b81178 => ?_))
    refine wp_of e164 c164_116 (rw_if_eq (p1 := 129) (p2 := 119) (by decide) rfl ⟨by omega, by omega⟩ (fun c81179 => ?_) (fun c81179 => ?_))
    · refine wp_of e164 c164_129 (rw_iconst (pc' := 130) rfl ?_)
      exact wp_ireturn e164 c164_130 rfl ⟨rfl, rfl, 0, rfl, ⟨by omega, by omega⟩⟩
    · refine wp_of e164 c164_119 (rw_aload_n (pc' := 120) (v := .ref r0) rfl rfl rfl ?_)
      refine wp_of e164 c164_120 (xg_R (pc' := 123) lf_0_51 hW g0 sh_1 (by decide) (by decide) ty_1_6 rfl rfl (fun r81180 q81181 g81182 => ?_))
      refine wp_of e164 c164_123 (xg_I (pc' := 126) lf_0_342 hW g81182 sh_27 (by decide) (by decide) ty_27_15 rfl rfl (fun b81183 b81184 => ?_))
      refine wp_of e164 c164_126 (rw_goto (p1 := 130) (by decide) ?_)
      exact wp_ireturn e164 c164_130 rfl ⟨rfl, rfl, H r81180 15, rfl, ⟨by omega, by omega⟩⟩
  · refine wp_of e164 c164_1 (rw_tsw (p1 := 131) ⟨by omega, by omega⟩ (by rw [c81141]; decide) ?_)
    refine wp_of e164 c164_131 (rw_aload_n (pc' := 132) (v := .ref r0) rfl rfl rfl ?_)
    refine wp_of e164 c164_132 (xg_R (pc' := 135) lf_0_51 hW g0 sh_1 (by decide) (by decide) ty_1_6 rfl rfl (fun r81185 q81186 g81187 => ?_))
    refine wp_of e164 c164_135 (xg_I (pc' := 138) lf_0_298 hW g81187 sh_27 (by decide) (by decide) ty_27_17 rfl rfl (fun b81188 b81189 => ?_))
    exact wp_ireturn e164 c164_138 rfl ⟨rfl, rfl, H r81185 17, rfl, ⟨by omega, by omega⟩⟩
  · refine wp_of e164 c164_1 (rw_tsw (p1 := 139) ⟨by omega, by omega⟩ (by rw [c81141]; decide) ?_)
    refine wp_of e164 c164_139 (rw_aload_n (pc' := 140) (v := .ref r0) rfl rfl rfl ?_)
    refine wp_of e164 c164_140 (xg_I (pc' := 143) lf_0_62 hW g0 sh_1 (by decide) (by decide) ty_1_9 rfl rfl (fun b81190 b81191 => ?_))
    exact wp_ireturn e164 c164_143 rfl ⟨rfl, rfl, H r0 9, rfl, ⟨by omega, by omega⟩⟩
  · refine wp_of e164 c164_1 (rw_tsw (p1 := 144) ⟨by omega, by omega⟩ (by rw [if_pos c81141]; decide) ?_)
    refine wp_of e164 c164_144 (rw_iconst (pc' := 145) rfl ?_)
    exact wp_ireturn e164 c164_145 rfl ⟨rfl, rfl, -1, rfl, ⟨by omega, by omega⟩⟩
/-! StrikeAwake.trouble()I -/
theorem e165 : wq_en 165 = some (0, 1, false, some FieldType.int) := rfl
theorem c165_0 : mc_cd 165 0 = some (.aload_n 0, 1) := by decide +kernel
theorem c165_1 : mc_cd 165 1 = some (.getfield 102, 3) := by decide +kernel
theorem c165_4 : mc_cd 165 4 = some (.ireturn, 1) := by decide +kernel
abbrev q_165 (r0 : Nat) (T : wq_T) (H : wq_H) : Option Value → wq_T → wq_H → Prop := fun r T' H' => T = T' ∧ H = H' ∧ ∃ z : Int, some (vI z) = r ∧ ((-2147483648) ≤ z ∧ z ≤ 2147483647)
set_option maxHeartbeats 4000000 in
theorem s_165 {kt : Nat → Option mc_E} {T : wq_T} {H : wq_H} {r0 : Nat} (hW : WT T H) (g0 : T.2.2.2 r0 = some 1) : wpc kt 1 165 [.ref r0] T H (q_165 r0 T H) := by
  refine wp_enter e165 (Nat.le_of_ble_eq_true rfl) rfl ?_
  show wp _ _ 165 0 [(0, .ref r0)] [] _ H _
  refine wp_of e165 c165_0 (rw_aload_n (pc' := 1) (v := .ref r0) rfl rfl rfl ?_)
  refine wp_of e165 c165_1 (xg_I (pc' := 4) lf_0_102 hW g0 sh_1 (by decide) (by decide) ty_1_10 rfl rfl (fun b81194 b81195 => ?_))
  exact wp_ireturn e165 c165_4 rfl ⟨rfl, rfl, H r0 10, rfl, ⟨by omega, by omega⟩⟩
