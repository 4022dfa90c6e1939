/-! methods (own work, written by wip/gen2/sx.py) -/
/-! StrikeAwake.restore(J)Z -/
theorem e161 : wq_en 161 = some (0, 3, false, some FieldType.boolean) := rfl
theorem c161_0 : mc_cd 161 0 = some (.aload_n 0, 1) := by decide +kernel
theorem c161_1 : mc_cd 161 1 = some (.getfield 58, 3) := by decide +kernel
theorem c161_4 : mc_cd 161 4 = some (.ifCond .ne 9, 3) := by decide +kernel
theorem c161_7 : mc_cd 161 7 = some (.aload_n 0, 1) := by decide +kernel
theorem c161_8 : mc_cd 161 8 = some (.iconst 1, 1) := by decide +kernel
theorem c161_9 : mc_cd 161 9 = some (.invokevirtual 145, 3) := by decide +kernel
theorem c161_12 : mc_cd 161 12 = some (.ireturn, 1) := by decide +kernel
theorem c161_13 : mc_cd 161 13 = some (.aload_n 0, 1) := by decide +kernel
theorem c161_14 : mc_cd 161 14 = some (.getfield 51, 3) := by decide +kernel
theorem c161_17 : mc_cd 161 17 = some (.lload_n 1, 1) := by decide +kernel
theorem c161_18 : mc_cd 161 18 = some (.invokevirtual 309, 3) := by decide +kernel
theorem c161_21 : mc_cd 161 21 = some (.ifCond .ne 9, 3) := by decide +kernel
theorem c161_24 : mc_cd 161 24 = some (.aload_n 0, 1) := by decide +kernel
theorem c161_25 : mc_cd 161 25 = some (.iconst 2, 1) := by decide +kernel
theorem c161_26 : mc_cd 161 26 = some (.invokevirtual 145, 3) := by decide +kernel
theorem c161_29 : mc_cd 161 29 = some (.ireturn, 1) := by decide +kernel
theorem c161_30 : mc_cd 161 30 = some (.aload_n 0, 1) := by decide +kernel
theorem c161_31 : mc_cd 161 31 = some (.getfield 51, 3) := by decide +kernel
theorem c161_34 : mc_cd 161 34 = some (.lload_n 1, 1) := by decide +kernel
theorem c161_35 : mc_cd 161 35 = some (.invokevirtual 313, 3) := by decide +kernel
theorem c161_38 : mc_cd 161 38 = some (.aload_n 0, 1) := by decide +kernel
theorem c161_39 : mc_cd 161 39 = some (.invokevirtual 151, 3) := by decide +kernel
theorem c161_42 : mc_cd 161 42 = some (.ireturn, 1) := by decide +kernel
abbrev q_161 (r0 : Nat) (a1 : Int) (T : wq_T) (H : wq_H) : Option Value → wq_T → wq_H → Prop := fun r T' H' => T = T' ∧ WT T H' ∧ wfr [(27, 17), (35, 16), (1, 10)] T H H' ∧ ∃ z : Int, some (vI z) = r ∧ (0 ≤ z ∧ z ≤ 1) ∧ (H' r0 10 ≠ 4)
set_option maxHeartbeats 4000000 in
theorem s_161 {kt : Nat → Option mc_E} {T : wq_T} {H : wq_H} {r0 : Nat} {a1 : Int} (hW : WT T H) (g0 : T.2.2.2 r0 = some 1) (i1 : (-9223372036854775808) ≤ a1 ∧ a1 ≤ 9223372036854775807) : wpc kt 2 161 [.ref r0, vL a1] T H (q_161 r0 a1 T H) := by
  refine wp_enter e161 (Nat.le_of_ble_eq_true rfl) rfl ?_
  have f0 : wfr [(27, 17), (35, 16), (1, 10)] T H H := wfr.rf
  show wp _ _ 161 0 [(0, .ref r0), (1, vL a1)] [] _ H _
  refine wp_of e161 c161_0 (rw_aload_n (pc' := 1) (v := .ref r0) rfl rfl rfl ?_)
  refine wp_of e161 c161_1 (xg_I (pc' := 4) lf_0_58 hW g0 sh_1 (by decide) (by decide) ty_1_8 rfl rfl (fun b81374 b81375 => ?_))
  refine wp_of e161 c161_4 (rw_if_ne (p1 := 13) (p2 := 7) (by decide) rfl ⟨by omega, by omega⟩ (fun c81376 => ?_) (fun c81376 => ?_))
  · refine wp_of e161 c161_13 (rw_aload_n (pc' := 14) (v := .ref r0) rfl rfl rfl ?_)
    refine wp_of e161 c161_14 (xg_R (pc' := 17) lf_0_51 hW g0 sh_1 (by decide) (by decide) ty_1_6 rfl rfl (fun r81377 q81378 g81379 => ?_))
    refine wp_of e161 c161_17 (rw_lload_n (pc' := 18) (z := a1) rfl rfl ?_)
    refine wp_of e161 c161_18 (xc_V (pc' := 21) (r := r81377) (as := [vL a1]) (st := []) (lm_0_309) rfl rfl (Nat.le_of_ble_eq_true rfl) hW g81379 sh_27 (by decide) rfl (by decide) (s_162 hW g81379 ⟨by omega, by omega⟩) (fun R81380 T81381 H81382 p81383 => ?_))
    obtain ⟨e81384, e81386, z81388, e81385, b81389, p81387⟩ := p81383
    subst e81384
    subst e81385
    subst e81386
    show wp _ _ 161 21 [(0, .ref r0), (1, vL a1)] [vI z81388] _ H _
    refine wp_of e161 c161_21 (rw_if_ne (p1 := 30) (p2 := 24) (by decide) rfl ⟨by omega, by omega⟩ (fun c81390 => ?_) (fun c81390 => ?_))
    · refine wp_of e161 c161_30 (rw_aload_n (pc' := 31) (v := .ref r0) rfl rfl rfl ?_)
      refine wp_of e161 c161_31 (xg_K (pc' := 34) lf_0_51 hW g0 sh_1 (by decide) (by decide) rfl q81378 rfl ?_)
      refine wp_of e161 c161_34 (rw_lload_n (pc' := 35) (z := a1) rfl rfl ?_)
      refine wp_of e161 c161_35 (xc_V (pc' := 38) (r := r81377) (as := [vL a1]) (st := []) (lm_0_313) rfl rfl (Nat.le_of_ble_eq_true rfl) hW g81379 sh_27 (by decide) rfl (by decide) (s_163 hW g81379 ⟨by omega, by omega⟩ (by omega)) (fun R81391 T81392 H81393 p81394 => ?_))
      obtain ⟨e81395, w81397, f81398, e81396⟩ := p81394
      subst e81395
      subst e81396
      have f81399 := f0.tr f81398 rfl
      show wp _ _ 161 38 [(0, .ref r0), (1, vL a1)] [] _ H81393 _
      refine wp_of e161 c161_38 (rw_aload_n (pc' := 39) (v := .ref r0) rfl rfl rfl ?_)
      refine wp_of e161 c161_39 (xc_V (pc' := 42) (r := r0) (as := []) (st := []) (lm_0_151) rfl rfl (Nat.le_of_ble_eq_true rfl) w81397 g0 sh_1 (by decide) rfl (by decide) (s_64 w81397 g0) (fun R81400 T81401 H81402 p81403 => ?_))
      obtain ⟨e81404, w81406, f81407, z81409, e81405, b81410, p81408⟩ := p81403
      subst e81404
      subst e81405
      have f81411 := f81399.tr f81407 rfl
      show wp _ _ 161 42 [(0, .ref r0), (1, vL a1)] [vI z81409] _ H81402 _
      exact wp_zreturn e161 c161_42 rfl (by omega) ⟨rfl, w81406, f81411, z81409, rfl, ⟨by omega, by omega⟩, by omega⟩
    · refine wp_of e161 c161_24 (rw_aload_n (pc' := 25) (v := .ref r0) rfl rfl rfl ?_)
      refine wp_of e161 c161_25 (rw_iconst (pc' := 26) rfl ?_)
      refine wp_of e161 c161_26 (xc_V (pc' := 29) (r := r0) (as := [vI 2]) (st := []) (lm_0_145) rfl rfl (Nat.le_of_ble_eq_true rfl) hW g0 sh_1 (by decide) rfl (by decide) (s_63 hW g0 ⟨by omega, by omega⟩) (fun R81412 T81413 H81414 p81415 => ?_))
      obtain ⟨e81416, w81418, f81419, z81421, e81417, b81422, p81420⟩ := p81415
      subst e81416
      subst e81417
      have f81423 := f0.tr f81419 rfl
      show wp _ _ 161 29 [(0, .ref r0), (1, vL a1)] [vI z81421] _ H81414 _
      exact wp_zreturn e161 c161_29 rfl (by omega) ⟨rfl, w81418, f81423, z81421, rfl, ⟨by omega, by omega⟩, by omega⟩
  · refine wp_of e161 c161_7 (rw_aload_n (pc' := 8) (v := .ref r0) rfl rfl rfl ?_)
    refine wp_of e161 c161_8 (rw_iconst (pc' := 9) rfl ?_)
    refine wp_of e161 c161_9 (xc_V (pc' := 12) (r := r0) (as := [vI 1]) (st := []) (lm_0_145) rfl rfl (Nat.le_of_ble_eq_true rfl) hW g0 sh_1 (by decide) rfl (by decide) (s_63 hW g0 ⟨by omega, by omega⟩) (fun R81424 T81425 H81426 p81427 => ?_))
    obtain ⟨e81428, w81430, f81431, z81433, e81429, b81434, p81432⟩ := p81427
    subst e81428
    subst e81429
    have f81435 := f0.tr f81431 rfl
    show wp _ _ 161 12 [(0, .ref r0), (1, vL a1)] [vI z81433] _ H81426 _
    exact wp_zreturn e161 c161_12 rfl (by omega) ⟨rfl, w81430, f81435, z81433, rfl, ⟨by omega, by omega⟩, by omega⟩
/-! StrikeAwake.size(I)I -/
theorem e164 : wq_en 164 = some (0, 2, false, some FieldType.int) := rfl
theorem c164_0 : mc_cd 164 0 = some (.iload_n 1, 1) := by decide +kernel
theorem c164_1 : mc_cd 164 1 = some (.tableswitch 143 0 9 #[55, 63, 71, 79, 87, 95, 103, 111, 130, 138], 55) := by decide +kernel
theorem c164_56 : mc_cd 164 56 = some (.aload_n 0, 1) := by decide +kernel
theorem c164_57 : mc_cd 164 57 = some (.getfield 51, 3) := by decide +kernel
theorem c164_60 : mc_cd 164 60 = some (.getfield 96, 3) := by decide +kernel
theorem c164_63 : mc_cd 164 63 = some (.ireturn, 1) := by decide +kernel
theorem c164_64 : mc_cd 164 64 = some (.aload_n 0, 1) := by decide +kernel
theorem c164_65 : mc_cd 164 65 = some (.getfield 51, 3) := by decide +kernel
theorem c164_68 : mc_cd 164 68 = some (.getfield 327, 3) := by decide +kernel
theorem c164_71 : mc_cd 164 71 = some (.ireturn, 1) := by decide +kernel
theorem c164_72 : mc_cd 164 72 = some (.aload_n 0, 1) := by decide +kernel
theorem c164_73 : mc_cd 164 73 = some (.getfield 51, 3) := by decide +kernel
theorem c164_76 : mc_cd 164 76 = some (.getfield 330, 3) := by decide +kernel
theorem c164_79 : mc_cd 164 79 = some (.ireturn, 1) := by decide +kernel
theorem c164_80 : mc_cd 164 80 = some (.aload_n 0, 1) := by decide +kernel
theorem c164_81 : mc_cd 164 81 = some (.getfield 51, 3) := by decide +kernel
theorem c164_84 : mc_cd 164 84 = some (.getfield 295, 3) := by decide +kernel
theorem c164_87 : mc_cd 164 87 = some (.ireturn, 1) := by decide +kernel
theorem c164_88 : mc_cd 164 88 = some (.aload_n 0, 1) := by decide +kernel
theorem c164_89 : mc_cd 164 89 = some (.getfield 51, 3) := by decide +kernel
theorem c164_92 : mc_cd 164 92 = some (.getfield 333, 3) := by decide +kernel
theorem c164_95 : mc_cd 164 95 = some (.ireturn, 1) := by decide +kernel
theorem c164_96 : mc_cd 164 96 = some (.aload_n 0, 1) := by decide +kernel
theorem c164_97 : mc_cd 164 97 = some (.getfield 51, 3) := by decide +kernel
theorem c164_100 : mc_cd 164 100 = some (.getfield 336, 3) := by decide +kernel
theorem c164_103 : mc_cd 164 103 = some (.ireturn, 1) := by decide +kernel
theorem c164_104 : mc_cd 164 104 = some (.aload_n 0, 1) := by decide +kernel
theorem c164_105 : mc_cd 164 105 = some (.getfield 51, 3) := by decide +kernel
theorem c164_108 : mc_cd 164 108 = some (.getfield 339, 3) := by decide +kernel
theorem c164_111 : mc_cd 164 111 = some (.ireturn, 1) := by decide +kernel
theorem c164_112 : mc_cd 164 112 = some (.aload_n 0, 1) := by decide +kernel
theorem c164_113 : mc_cd 164 113 = some (.getfield 58, 3) := by decide +kernel
theorem c164_116 : mc_cd 164 116 = some (.ifCond .eq 13, 3) := by decide +kernel
theorem c164_119 : mc_cd 164 119 = some (.aload_n 0, 1) := by decide +kernel
theorem c164_120 : mc_cd 164 120 = some (.getfield 51, 3) := by decide +kernel
theorem c164_123 : mc_cd 164 123 = some (.getfield 342, 3) := by decide +kernel
theorem c164_126 : mc_cd 164 126 = some (.goto 4, 3) := by decide +kernel
theorem c164_129 : mc_cd 164 129 = some (.iconst 0, 1) := by decide +kernel
theorem c164_130 : mc_cd 164 130 = some (.ireturn, 1) := by decide +kernel
theorem c164_131 : mc_cd 164 131 = some (.aload_n 0, 1) := by decide +kernel
theorem c164_132 : mc_cd 164 132 = some (.getfield 51, 3) := by decide +kernel
theorem c164_135 : mc_cd 164 135 = some (.getfield 298, 3) := by decide +kernel
theorem c164_138 : mc_cd 164 138 = some (.ireturn, 1) := by decide +kernel
theorem c164_139 : mc_cd 164 139 = some (.aload_n 0, 1) := by decide +kernel
theorem c164_140 : mc_cd 164 140 = some (.getfield 62, 3) := by decide +kernel
theorem c164_143 : mc_cd 164 143 = some (.ireturn, 1) := by decide +kernel
theorem c164_144 : mc_cd 164 144 = some (.iconst (-1), 1) := by decide +kernel
theorem c164_145 : mc_cd 164 145 = some (.ireturn, 1) := by decide +kernel
abbrev q_164 (r0 : Nat) (a1 : Int) (T : wq_T) (H : wq_H) : Option Value → wq_T → wq_H → Prop := fun r T' H' => T = T' ∧ H = H' ∧ ∃ z : Int, some (vI z) = r ∧ ((-2147483648) ≤ z ∧ z ≤ 2147483647)
set_option maxHeartbeats 4000000 in
theorem s_164 {kt : Nat → Option mc_E} {T : wq_T} {H : wq_H} {r0 : Nat} {a1 : Int} (hW : WT T H) (g0 : T.2.2.2 r0 = some 1) (i1 : (-2147483648) ≤ a1 ∧ a1 ≤ 2147483647) : wpc kt 1 164 [.ref r0, vI a1] T H (q_164 r0 a1 T H) := by
  refine wp_enter e164 (Nat.le_of_ble_eq_true rfl) rfl ?_
  show wp _ _ 164 0 [(0, .ref r0), (1, vI a1)] [] _ H _
  refine wp_of e164 c164_0 (rw_iload_n (pc' := 1) (z := a1) rfl rfl ?_)
  have c81487 : a1 = 0 ∨ a1 = 1 ∨ a1 = 2 ∨ a1 = 3 ∨ a1 = 4 ∨ a1 = 5 ∨ a1 = 6 ∨ a1 = 7 ∨ a1 = 8 ∨ a1 = 9 ∨ (a1 < 0 ∨ 9 < a1) := by omega
  rcases c81487 with c81487 | c81487 | c81487 | c81487 | c81487 | c81487 | c81487 | c81487 | c81487 | c81487 | c81487
  · refine wp_of e164 c164_1 (rw_tsw (p1 := 56) ⟨by omega, by omega⟩ (by rw [c81487]; decide) ?_)
    refine wp_of e164 c164_56 (rw_aload_n (pc' := 57) (v := .ref r0) rfl rfl rfl ?_)
    refine wp_of e164 c164_57 (xg_R (pc' := 60) lf_0_51 hW g0 sh_1 (by decide) (by decide) ty_1_6 rfl rfl (fun r81488 q81489 g81490 => ?_))
    refine wp_of e164 c164_60 (xg_I (pc' := 63) lf_0_96 hW g81490 sh_27 (by decide) (by decide) ty_27_10 rfl rfl (fun b81491 b81492 => ?_))
    exact wp_ireturn e164 c164_63 rfl ⟨rfl, rfl, H r81488 10, rfl, ⟨by omega, by omega⟩⟩
  · refine wp_of e164 c164_1 (rw_tsw (p1 := 64) ⟨by omega, by omega⟩ (by rw [c81487]; decide) ?_)
    refine wp_of e164 c164_64 (rw_aload_n (pc' := 65) (v := .ref r0) rfl rfl rfl ?_)
    refine wp_of e164 c164_65 (xg_R (pc' := 68) lf_0_51 hW g0 sh_1 (by decide) (by decide) ty_1_6 rfl rfl (fun r81493 q81494 g81495 => ?_))
    refine wp_of e164 c164_68 (xg_I (pc' := 71) lf_0_327 hW g81495 sh_27 (by decide) (by decide) ty_27_11 rfl rfl (fun b81496 b81497 => ?_))
    exact wp_ireturn e164 c164_71 rfl ⟨rfl, rfl, H r81493 11, rfl, ⟨by omega, by omega⟩⟩
  · refine wp_of e164 c164_1 (rw_tsw (p1 := 72) ⟨by omega, by omega⟩ (by rw [c81487]; decide) ?_)
    refine wp_of e164 c164_72 (rw_aload_n (pc' := 73) (v := .ref r0) rfl rfl rfl ?_)
    refine wp_of e164 c164_73 (xg_R (pc' := 76) lf_0_51 hW g0 sh_1 (by decide) (by decide) ty_1_6 rfl rfl (fun r81498 q81499 g81500 => ?_))
    refine wp_of e164 c164_76 (xg_I (pc' := 79) lf_0_330 hW g81500 sh_27 (by decide) (by decide) ty_27_12 rfl rfl (fun b81501 b81502 => ?_))
    exact wp_ireturn e164 c164_79 rfl ⟨rfl, rfl, H r81498 12, rfl, ⟨by omega, by omega⟩⟩
  · refine wp_of e164 c164_1 (rw_tsw (p1 := 80) ⟨by omega, by omega⟩ (by rw [c81487]; decide) ?_)
    refine wp_of e164 c164_80 (rw_aload_n (pc' := 81) (v := .ref r0) rfl rfl rfl ?_)
    refine wp_of e164 c164_81 (xg_R (pc' := 84) lf_0_51 hW g0 sh_1 (by decide) (by decide) ty_1_6 rfl rfl (fun r81503 q81504 g81505 => ?_))
    refine wp_of e164 c164_84 (xg_I (pc' := 87) lf_0_295 hW g81505 sh_27 (by decide) (by decide) ty_27_16 rfl rfl (fun b81506 b81507 => ?_))
    exact wp_ireturn e164 c164_87 rfl ⟨rfl, rfl, H r81503 16, rfl, ⟨by omega, by omega⟩⟩
  · refine wp_of e164 c164_1 (rw_tsw (p1 := 88) ⟨by omega, by omega⟩ (by rw [c81487]; decide) ?_)
    refine wp_of e164 c164_88 (rw_aload_n (pc' := 89) (v := .ref r0) rfl rfl rfl ?_)
    refine wp_of e164 c164_89 (xg_R (pc' := 92) lf_0_51 hW g0 sh_1 (by decide) (by decide) ty_1_6 rfl rfl (fun r81508 q81509 g81510 => ?_))
    refine wp_of e164 c164_92 (xg_I (pc' := 95) lf_0_333 hW g81510 sh_27 (by decide) (by decide) ty_27_13 rfl rfl (fun b81511 b81512 => ?_))
    exact wp_ireturn e164 c164_95 rfl ⟨rfl, rfl, H r81508 13, rfl, ⟨by omega, by omega⟩⟩
  · refine wp_of e164 c164_1 (rw_tsw (p1 := 96) ⟨by omega, by omega⟩ (by rw [c81487]; decide) ?_)
    refine wp_of e164 c164_96 (rw_aload_n (pc' := 97) (v := .ref r0) rfl rfl rfl ?_)
    refine wp_of e164 c164_97 (xg_R (pc' := 100) lf_0_51 hW g0 sh_1 (by decide) (by decide) ty_1_6 rfl rfl (fun r81513 q81514 g81515 => ?_))
    refine wp_of e164 c164_100 (xg_I (pc' := 103) lf_0_336 hW g81515 sh_27 (by decide) (by decide) ty_27_14 rfl rfl (fun b81516 b81517 => ?_))
    exact wp_ireturn e164 c164_103 rfl ⟨rfl, rfl, H r81513 14, rfl, ⟨by omega, by omega⟩⟩
  · refine wp_of e164 c164_1 (rw_tsw (p1 := 104) ⟨by omega, by omega⟩ (by rw [c81487]; decide) ?_)
    refine wp_of e164 c164_104 (rw_aload_n (pc' := 105) (v := .ref r0) rfl rfl rfl ?_)
    refine wp_of e164 c164_105 (xg_R (pc' := 108) lf_0_51 hW g0 sh_1 (by decide) (by decide) ty_1_6 rfl rfl (fun r81518 q81519 g81520 => ?_))
    refine wp_of e164 c164_108 (xg_I (pc' := 111) lf_0_339 hW g81520 sh_27 (by decide) (by decide) ty_27_7 rfl rfl (fun b81521 b81522 => ?_))
    exact wp_ireturn e164 c164_111 rfl ⟨rfl, rfl, H r81518 7, rfl, ⟨by omega, by omega⟩⟩
  · refine wp_of e164 c164_1 (rw_tsw (p1 := 112) ⟨by omega, by omega⟩ (by rw [c81487]; decide) ?_)
    refine wp_of e164 c164_112 (rw_aload_n (pc' := 113) (v := .ref r0) rfl rfl rfl ?_)
    refine wp_of e164 c164_113 (xg_I (pc' := 116) lf_0_58 hW g0 sh_1 (by decide) (by decide) ty_1_8 rfl rfl (fun b81523 b81524 => ?_))
    refine wp_of e164 c164_116 (rw_if_eq (p1 := 129) (p2 := 119) (by decide) rfl ⟨by omega, by omega⟩ (fun c81525 => ?_) (fun c81525 => ?_))
    · refine wp_of e164 c164_129 (rw_iconst (pc' := 130) rfl ?_)
      exact wp_ireturn e164 c164_130 rfl ⟨rfl, rfl, 0, rfl, ⟨by omega, by omega⟩⟩
    · refine wp_of e164 c164_119 (rw_aload_n (pc' := 120) (v := .ref r0) rfl rfl rfl ?_)
      refine wp_of e164 c164_120 (xg_R (pc' := 123) lf_0_51 hW g0 sh_1 (by decide) (by decide) ty_1_6 rfl rfl (fun r81526 q81527 g81528 => ?_))
      refine wp_of e164 c164_123 (xg_I (pc' := 126) lf_0_342 hW g81528 sh_27 (by decide) (by decide) ty_27_15 rfl rfl (fun b81529 b81530 => ?_))
      refine wp_of e164 c164_126 (rw_goto (p1 := 130) (by decide) ?_)
      exact wp_ireturn e164 c164_130 rfl ⟨rfl, rfl, H r81526 15, rfl, ⟨by omega, by omega⟩⟩
  · refine wp_of e164 c164_1 (rw_tsw (p1 := 131) ⟨by omega, by omega⟩ (by rw [c81487]; decide) ?_)
    refine wp_of e164 c164_131 (rw_aload_n (pc' := 132) (v := .ref r0) rfl rfl rfl ?_)
    refine wp_of e164 c164_132 (xg_R (pc' := 135) lf_0_51 hW g0 sh_1 (by decide) (by decide) ty_1_6 rfl rfl (fun r81531 q81532 g81533 => ?_))
    refine wp_of e164 c164_135 (xg_I (pc' := 138) lf_0_298 hW g81533 sh_27 (by decide) (by decide) ty_27_17 rfl rfl (fun b81534 b81535 => ?_))
    exact wp_ireturn e164 c164_138 rfl ⟨rfl, rfl, H r81531 17, rfl, ⟨by omega, by omega⟩⟩
  · refine wp_of e164 c164_1 (rw_tsw (p1 := 139) ⟨by omega, by omega⟩ (by rw [c81487]; decide) ?_)
    refine wp_of e164 c164_139 (rw_aload_n (pc' := 140) (v := .ref r0) rfl rfl rfl ?_)
    refine wp_of e164 c164_140 (xg_I (pc' := 143) lf_0_62 hW g0 sh_1 (by decide) (by decide) ty_1_9 rfl rfl (fun b81536 b81537 => ?_))
    exact wp_ireturn e164 c164_143 rfl ⟨rfl, rfl, H r0 9, rfl, ⟨by omega, by omega⟩⟩
  · refine wp_of e164 c164_1 (rw_tsw (p1 := 144) ⟨by omega, by omega⟩ (by rw [if_pos c81487]; decide) ?_)
    refine wp_of e164 c164_144 (rw_iconst (pc' := 145) rfl ?_)
    exact wp_ireturn e164 c164_145 rfl ⟨rfl, rfl, -1, rfl, ⟨by omega, by omega⟩⟩
/-! StrikeAwake.trouble()I -/
theorem e165 : wq_en 165 = some (0, 1, false, some FieldType.int) := rfl
theorem c165_0 : mc_cd 165 0 = some (.aload_n 0, 1) := by decide +kernel
theorem c165_1 : mc_cd 165 1 = some (.getfield 102, 3) := by decide +kernel
theorem c165_4 : mc_cd 165 4 = some (.ireturn, 1) := by decide +kernel
abbrev q_165 (r0 : Nat) (T : wq_T) (H : wq_H) : Option Value → wq_T → wq_H → Prop := fun r T' H' => T = T' ∧ H = H' ∧ ∃ z : Int, some (vI z) = r ∧ ((-2147483648) ≤ z ∧ z ≤ 2147483647)
set_option maxHeartbeats 4000000 in
theorem s_165 {kt : Nat → Option mc_E} {T : wq_T} {H : wq_H} {r0 : Nat} (hW : WT T H) (g0 : T.2.2.2 r0 = some 1) : wpc kt 1 165 [.ref r0] T H (q_165 r0 T H) := by
  refine wp_enter e165 (Nat.le_of_ble_eq_true rfl) rfl ?_
  show wp _ _ 165 0 [(0, .ref r0)] [] _ H _
  refine wp_of e165 c165_0 (rw_aload_n (pc' := 1) (v := .ref r0) rfl rfl rfl ?_)
  refine wp_of e165 c165_1 (xg_I (pc' := 4) lf_0_102 hW g0 sh_1 (by decide) (by decide) ty_1_10 rfl rfl (fun b81540 b81541 => ?_))
  exact wp_ireturn e165 c165_4 rfl ⟨rfl, rfl, H r0 10, rfl, ⟨by omega, by omega⟩⟩
