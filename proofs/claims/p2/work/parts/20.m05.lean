/-! methods (own work, written by wip/gen2/sx.py) -/
/-! StrikeAwake$Walk.isWorld(LStrikeAwake$Parish;)Z -/
theorem e79 : wq_en 79 = some (3, 2, false, some FieldType.boolean) := rfl
theorem c79_0 : mc_cd 79 0 = some (.aload_n 0, 1) := by decide +kernel
theorem c79_1 : mc_cd 79 1 = some (.invokevirtual 118, 3) := by decide +kernel
theorem c79_4 : mc_cd 79 4 = some (.ifCond .ne 17, 3) := by decide +kernel
theorem c79_7 : mc_cd 79 7 = some (.aload_n 0, 1) := by decide +kernel
theorem c79_8 : mc_cd 79 8 = some (.aload_n 1, 1) := by decide +kernel
theorem c79_9 : mc_cd 79 9 = some (.invokevirtual 122, 3) := by decide +kernel
theorem c79_12 : mc_cd 79 12 = some (.bipush 24, 2) := by decide +kernel
theorem c79_14 : mc_cd 79 14 = some (.if_icmp .ne 7, 3) := by decide +kernel
theorem c79_17 : mc_cd 79 17 = some (.iconst 1, 1) := by decide +kernel
theorem c79_18 : mc_cd 79 18 = some (.goto 4, 3) := by decide +kernel
theorem c79_21 : mc_cd 79 21 = some (.iconst 0, 1) := by decide +kernel
theorem c79_22 : mc_cd 79 22 = some (.ireturn, 1) := by decide +kernel
abbrev q_79 (r0 : Nat) (r1 : Nat) (T : wq_T) (H : wq_H) : Option Value → wq_T → wq_H → Prop := fun r T' H' => T = T' ∧ H = H' ∧ ∃ z : Int, some (vI z) = r ∧ (0 ≤ z ∧ z ≤ 1)
set_option maxHeartbeats 4000000 in
theorem s_79 {kt : Nat → Option mc_E} {T : wq_T} {H : wq_H} {r0 : Nat} {r1 : Nat} (hW : WT T H) (g0 : T.2.2.2 r0 = some 6) (g1 : T.2.2.2 r1 = some 27) : wpc kt 3 79 [.ref r0, .ref r1] T H (q_79 r0 r1 T H) := by
  refine wp_enter e79 (Nat.le_of_ble_eq_true rfl) rfl ?_
  show wp _ _ 79 0 [(0, .ref r0), (1, .ref r1)] [] _ H _
  refine wp_of e79 c79_0 (rw_aload_n (pc' := 1) (v := .ref r0) rfl rfl rfl ?_)
  refine wp_of e79 c79_1 (xc_V (pc' := 4) (r := r0) (as := []) (st := []) (lm_3_118) rfl rfl (Nat.le_of_ble_eq_true rfl) hW g0 sh_6 (by decide) rfl (by decide) (s_80 hW g0) (fun R21319 T21320 H21321 p21322 => ?_))
  obtain ⟨e21323, e21325, z21326, e21324, b21327⟩ := p21322
  subst e21323
  subst e21324
  subst e21325
  show wp _ _ 79 4 [(0, .ref r0), (1, .ref r1)] [vI z21326] _ H _
  refine wp_of e79 c79_4 (rw_if_ne (p1 := 21) (p2 := 7) (by decide) rfl ⟨by omega, by omega⟩ (fun c21328 => ?_) (fun c21328 => ?_))
  · refine wp_of e79 c79_21 (rw_iconst (pc' := 22) rfl ?_)
    exact wp_zreturn e79 c79_22 rfl (by omega) ⟨rfl, rfl, 0, rfl, ⟨by omega, by omega⟩⟩
  · refine wp_of e79 c79_7 (rw_aload_n (pc' := 8) (v := .ref r0) rfl rfl rfl ?_)
    refine wp_of e79 c79_8 (rw_aload_n (pc' := 9) (v := .ref r1) rfl rfl rfl ?_)
    refine wp_of e79 c79_9 (xc_V (pc' := 12) (r := r0) (as := [.ref r1]) (st := []) (lm_3_122) rfl rfl (Nat.le_of_ble_eq_true rfl) hW g0 sh_6 (by decide) rfl (by decide) (s_81 hW g0 g1) (fun R21329 T21330 H21331 p21332 => ?_))
    obtain ⟨e21333, e21335, z21336, e21334, b21337⟩ := p21332
    subst e21333
    subst e21334
    subst e21335
    show wp _ _ 79 12 [(0, .ref r0), (1, .ref r1)] [vI z21336] _ H _
    refine wp_of e79 c79_12 (rw_bipush (pc' := 14) (z := 24) rfl (by decide) ?_)
    refine wp_of e79 c79_14 (rw_icmp_ne (p1 := 21) (p2 := 17) (by decide) rfl ⟨by omega, by omega⟩ ⟨by omega, by omega⟩ (fun c21338 => ?_) (fun c21338 => ?_))
    · refine wp_of e79 c79_21 (rw_iconst (pc' := 22) rfl ?_)
      exact wp_zreturn e79 c79_22 rfl (by omega) ⟨rfl, rfl, 0, rfl, ⟨by omega, by omega⟩⟩
    · refine wp_of e79 c79_17 (rw_iconst (pc' := 18) rfl ?_)
      refine wp_of e79 c79_18 (rw_goto (p1 := 22) (by decide) ?_)
      exact wp_zreturn e79 c79_22 rfl (by omega) ⟨rfl, rfl, 1, rfl, ⟨by omega, by omega⟩⟩
/-! StrikeAwake.agrees()I -/
theorem e78 : wq_en 78 = some (0, 2, false, some FieldType.int) := rfl
theorem c78_0 : mc_cd 78 0 = some (.aload_n 0, 1) := by decide +kernel
theorem c78_1 : mc_cd 78 1 = some (.aload_n 0, 1) := by decide +kernel
theorem c78_2 : mc_cd 78 2 = some (.getfield 58, 3) := by decide +kernel
theorem c78_5 : mc_cd 78 5 = some (.invokevirtual 155, 3) := by decide +kernel
theorem c78_8 : mc_cd 78 8 = some (.istore_n 1, 1) := by decide +kernel
theorem c78_9 : mc_cd 78 9 = some (.iload_n 1, 1) := by decide +kernel
theorem c78_10 : mc_cd 78 10 = some (.ifCond .eq 9, 3) := by decide +kernel
theorem c78_13 : mc_cd 78 13 = some (.aload_n 0, 1) := by decide +kernel
theorem c78_14 : mc_cd 78 14 = some (.iload_n 1, 1) := by decide +kernel
theorem c78_15 : mc_cd 78 15 = some (.invokevirtual 70, 3) := by decide +kernel
theorem c78_18 : mc_cd 78 18 = some (.ireturn, 1) := by decide +kernel
theorem c78_19 : mc_cd 78 19 = some (.aload_n 0, 1) := by decide +kernel
theorem c78_20 : mc_cd 78 20 = some (.aload_n 0, 1) := by decide +kernel
theorem c78_21 : mc_cd 78 21 = some (.getfield 23, 3) := by decide +kernel
theorem c78_24 : mc_cd 78 24 = some (.aload_n 0, 1) := by decide +kernel
theorem c78_25 : mc_cd 78 25 = some (.getfield 51, 3) := by decide +kernel
theorem c78_28 : mc_cd 78 28 = some (.invokevirtual 170, 3) := by decide +kernel
theorem c78_31 : mc_cd 78 31 = some (.ifCond .eq 7, 3) := by decide +kernel
theorem c78_34 : mc_cd 78 34 = some (.iconst 1, 1) := by decide +kernel
theorem c78_35 : mc_cd 78 35 = some (.goto 4, 3) := by decide +kernel
theorem c78_38 : mc_cd 78 38 = some (.iconst 0, 1) := by decide +kernel
theorem c78_39 : mc_cd 78 39 = some (.invokevirtual 99, 3) := by decide +kernel
theorem c78_42 : mc_cd 78 42 = some (.ireturn, 1) := by decide +kernel
abbrev q_78 (r0 : Nat) (T : wq_T) (H : wq_H) : Option Value → wq_T → wq_H → Prop := fun r T' H' => T = T' ∧ WT T H' ∧ wfr [(1, 10), (6, 5), (8, 999), (10, 999), (9, 999), (7, 999), (11, 999)] T H H' ∧ ∃ z : Int, some (vI z) = r ∧ ((-2147483648) ≤ z ∧ z ≤ 2147483647)
set_option maxHeartbeats 4000000 in
theorem s_78 {kt : Nat → Option mc_E} {T : wq_T} {H : wq_H} {r0 : Nat} (hW : WT T H) (g0 : T.2.2.2 r0 = some 1) : wpc kt 5 78 [.ref r0] T H (q_78 r0 T H) := by
  refine wp_enter e78 (Nat.le_of_ble_eq_true rfl) rfl ?_
  have f0 : wfr [(1, 10), (6, 5), (8, 999), (10, 999), (9, 999), (7, 999), (11, 999)] T H H := wfr.rf
  show wp _ _ 78 0 [(0, .ref r0)] [] _ H _
  refine wp_of e78 c78_0 (rw_aload_n (pc' := 1) (v := .ref r0) rfl rfl rfl ?_)
  refine wp_of e78 c78_1 (rw_aload_n (pc' := 2) (v := .ref r0) rfl rfl rfl ?_)
  refine wp_of e78 c78_2 (xg_I (pc' := 5) lf_0_58 hW g0 sh_1 (by decide) (by decide) ty_1_8 rfl rfl (fun b21403 b21404 => ?_))
  refine wp_of e78 c78_5 (xc_V (pc' := 8) (r := r0) (as := [vI (H r0 8)]) (st := []) (lm_0_155) rfl rfl (Nat.le_of_ble_eq_true rfl) hW g0 sh_1 (by decide) rfl (by decide) (s_67 hW g0 ⟨by omega, by omega⟩) (fun R21405 T21406 H21407 p21408 => ?_))
  obtain ⟨e21409, w21411, f21412, z21414, e21410, b21415, p21413⟩ := p21408
  subst e21409
  subst e21410
  have f21416 := f0.tr f21412 rfl
  show wp _ _ 78 8 [(0, .ref r0)] [vI z21414] _ H21407 _
  refine wp_of e78 c78_8 (rw_istore_n (pc' := 9) (z := z21414) (L' := [(1, vI z21414), (0, .ref r0)]) rfl rfl rfl ?_)
  refine wp_of e78 c78_9 (rw_iload_n (pc' := 10) (z := z21414) rfl rfl ?_)
  refine wp_of e78 c78_10 (rw_if_eq (p1 := 19) (p2 := 13) (by decide) rfl ⟨by omega, by omega⟩ (fun c21417 => ?_) (fun c21417 => ?_))
  · refine wp_of e78 c78_19 (rw_aload_n (pc' := 20) (v := .ref r0) rfl rfl rfl ?_)
    refine wp_of e78 c78_20 (rw_aload_n (pc' := 21) (v := .ref r0) rfl rfl rfl ?_)
    refine wp_of e78 c78_21 (xg_R (pc' := 24) lf_0_23 w21411 g0 sh_1 (by decide) (by decide) ty_1_2 rfl rfl (fun r21418 q21419 g21420 => ?_))
    refine wp_of e78 c78_24 (rw_aload_n (pc' := 25) (v := .ref r0) rfl rfl rfl ?_)
    refine wp_of e78 c78_25 (xg_R (pc' := 28) lf_0_51 w21411 g0 sh_1 (by decide) (by decide) ty_1_6 rfl rfl (fun r21421 q21422 g21423 => ?_))
    refine wp_of e78 c78_28 (xc_V (pc' := 31) (r := r21418) (as := [.ref r21421]) (st := [.ref r0]) (lm_0_170) rfl rfl (Nat.le_of_ble_eq_true rfl) w21411 g21420 sh_6 (by decide) rfl (by decide) (s_79 w21411 g21420 g21423) (fun R21424 T21425 H21426 p21427 => ?_))
    obtain ⟨e21428, e21430, z21431, e21429, b21432⟩ := p21427
    subst e21428
    subst e21429
    subst e21430
    show wp _ _ 78 31 [(1, vI z21414), (0, .ref r0)] [vI z21431, .ref r0] _ H21407 _
    refine wp_of e78 c78_31 (rw_if_eq (p1 := 38) (p2 := 34) (by decide) rfl ⟨by omega, by omega⟩ (fun c21433 => ?_) (fun c21433 => ?_))
    · refine wp_of e78 c78_38 (rw_iconst (pc' := 39) rfl ?_)
      refine wp_of e78 c78_39 (xc_V (pc' := 42) (r := r0) (as := [vI 0]) (st := []) (lm_0_99) rfl rfl (Nat.le_of_ble_eq_true rfl) w21411 g0 sh_1 (by decide) rfl (by decide) (s_51 w21411 g0 ⟨by omega, by omega⟩) (fun R21434 T21435 H21436 p21437 => ?_))
      obtain ⟨e21438, w21440, f21441, z21442, e21439, b21443⟩ := p21437
      subst e21438
      subst e21439
      have f21444 := f21416.tr f21441 rfl
      show wp _ _ 78 42 [(1, vI z21414), (0, .ref r0)] [vI z21442] _ H21436 _
      exact wp_ireturn e78 c78_42 rfl ⟨rfl, w21440, f21444, z21442, rfl, ⟨by omega, by omega⟩⟩
    · refine wp_of e78 c78_34 (rw_iconst (pc' := 35) rfl ?_)
      refine wp_of e78 c78_35 (rw_goto (p1 := 39) (by decide) ?_)
      refine wp_of e78 c78_39 (xc_V (pc' := 42) (r := r0) (as := [vI 1]) (st := []) (lm_0_99) rfl rfl (Nat.le_of_ble_eq_true rfl) w21411 g0 sh_1 (by decide) rfl (by decide) (s_51 w21411 g0 ⟨by omega, by omega⟩) (fun R21445 T21446 H21447 p21448 => ?_))
      obtain ⟨e21449, w21451, f21452, z21453, e21450, b21454⟩ := p21448
      subst e21449
      subst e21450
      have f21455 := f21416.tr f21452 rfl
      show wp _ _ 78 42 [(1, vI z21414), (0, .ref r0)] [vI z21453] _ H21447 _
      exact wp_ireturn e78 c78_42 rfl ⟨rfl, w21451, f21455, z21453, rfl, ⟨by omega, by omega⟩⟩
  · refine wp_of e78 c78_13 (rw_aload_n (pc' := 14) (v := .ref r0) rfl rfl rfl ?_)
    refine wp_of e78 c78_14 (rw_iload_n (pc' := 15) (z := z21414) rfl rfl ?_)
    refine wp_of e78 c78_15 (xc_V (pc' := 18) (r := r0) (as := [vI z21414]) (st := []) (lm_0_70) rfl rfl (Nat.le_of_ble_eq_true rfl) w21411 g0 sh_1 (by decide) rfl (by decide) (s_12 w21411 g0 ⟨by omega, by omega⟩) (fun R21456 T21457 H21458 p21459 => ?_))
    obtain ⟨e21460, w21462, f21463, z21464, e21461, b21465⟩ := p21459
    subst e21460
    subst e21461
    have f21466 := f21416.tr f21463 rfl
    show wp _ _ 78 18 [(1, vI z21414), (0, .ref r0)] [vI z21464] _ H21458 _
    exact wp_ireturn e78 c78_18 rfl ⟨rfl, w21462, f21466, z21464, rfl, ⟨by omega, by omega⟩⟩
/-! StrikeAwake.barOfLots(Z)I -/
theorem e84 : wq_en 84 = some (0, 2, false, some FieldType.int) := rfl
theorem c84_0 : mc_cd 84 0 = some (.iload_n 1, 1) := by decide +kernel
theorem c84_1 : mc_cd 84 1 = some (.ifCond .ne 5, 3) := by decide +kernel
theorem c84_4 : mc_cd 84 4 = some (.iconst 1, 1) := by decide +kernel
theorem c84_5 : mc_cd 84 5 = some (.ireturn, 1) := by decide +kernel
theorem c84_6 : mc_cd 84 6 = some (.aload_n 0, 1) := by decide +kernel
theorem c84_7 : mc_cd 84 7 = some (.getfield 51, 3) := by decide +kernel
theorem c84_10 : mc_cd 84 10 = some (.getfield 141, 3) := by decide +kernel
theorem c84_13 : mc_cd 84 13 = some (.ldc2_w 348, 3) := by decide +kernel
theorem c84_16 : mc_cd 84 16 = some (.lcmp, 1) := by decide +kernel
theorem c84_17 : mc_cd 84 17 = some (.ifCond .le 7, 3) := by decide +kernel
theorem c84_20 : mc_cd 84 20 = some (.iconst 3, 1) := by decide +kernel
theorem c84_21 : mc_cd 84 21 = some (.goto 4, 3) := by decide +kernel
theorem c84_24 : mc_cd 84 24 = some (.iconst 0, 1) := by decide +kernel
theorem c84_25 : mc_cd 84 25 = some (.ireturn, 1) := by decide +kernel
abbrev q_84 (r0 : Nat) (a1 : Int) (T : wq_T) (H : wq_H) : Option Value → wq_T → wq_H → Prop := fun r T' H' => T = T' ∧ H = H' ∧ ∃ z : Int, some (vI z) = r ∧ (0 ≤ z ∧ z ≤ 6) ∧ (z ≠ 0 ∨ a1 = 1)
set_option maxHeartbeats 4000000 in
theorem s_84 {kt : Nat → Option mc_E} {T : wq_T} {H : wq_H} {r0 : Nat} {a1 : Int} (hW : WT T H) (g0 : T.2.2.2 r0 = some 1) (i1 : 0 ≤ a1 ∧ a1 ≤ 1) : wpc kt 1 84 [.ref r0, vI a1] T H (q_84 r0 a1 T H) := by
  refine wp_enter e84 (Nat.le_of_ble_eq_true rfl) rfl ?_
  show wp _ _ 84 0 [(0, .ref r0), (1, vI a1)] [] _ H _
  refine wp_of e84 c84_0 (rw_iload_n (pc' := 1) (z := a1) rfl rfl ?_)
  refine wp_of e84 c84_1 (rw_if_ne (p1 := 6) (p2 := 4) (by decide) rfl ⟨by omega, by omega⟩ (fun c21475 => ?_) (fun c21475 => ?_))
  · refine wp_of e84 c84_6 (rw_aload_n (pc' := 7) (v := .ref r0) rfl rfl rfl ?_)
    refine wp_of e84 c84_7 (xg_R (pc' := 10) lf_0_51 hW g0 sh_1 (by decide) (by decide) ty_1_6 rfl rfl (fun r21476 q21477 g21478 => ?_))
    refine wp_of e84 c84_10 (xg_L (pc' := 13) lf_0_141 hW g21478 sh_27 (by decide) (by decide) ty_27_18 rfl rfl (fun b21479 b21480 => ?_))
    refine wp_of e84 c84_13 (rw_ldc2 (pc' := 16) (z := 20000) rfl rfl rfl ?_)
    refine wp_of e84 c84_16 (rw_lcmp (pc' := 17) rfl ⟨by omega, by omega⟩ ⟨by omega, by omega⟩ ?_)
    have b21481 := wq_cmp_b (H r21476 18) 20000
    refine wp_of e84 c84_17 (rw_if_le (p1 := 24) (p2 := 20) (by decide) rfl ⟨by omega, by omega⟩ (fun c21482 => ?_) (fun c21482 => ?_))
    · refine wp_of e84 c84_24 (rw_iconst (pc' := 25) rfl ?_)
      exact wp_ireturn e84 c84_25 rfl ⟨rfl, rfl, 0, rfl, ⟨by omega, by omega⟩, by omega⟩
    · refine wp_of e84 c84_20 (rw_iconst (pc' := 21) rfl ?_)
      refine wp_of e84 c84_21 (rw_goto (p1 := 25) (by decide) ?_)
      exact wp_ireturn e84 c84_25 rfl ⟨rfl, rfl, 3, rfl, ⟨by omega, by omega⟩, by omega⟩
  · refine wp_of e84 c84_4 (rw_iconst (pc' := 5) rfl ?_)
    exact wp_ireturn e84 c84_5 rfl ⟨rfl, rfl, 1, rfl, ⟨by omega, by omega⟩, by omega⟩
/-! StrikeAwake$Census.clear()V -/
theorem e86 : wq_en 86 = some (4, 3, false, none) := rfl
theorem c86_0 : mc_cd 86 0 = some (.iconst 0, 1) := by decide +kernel
theorem c86_1 : mc_cd 86 1 = some (.istore_n 1, 1) := by decide +kernel
theorem c86_2 : mc_cd 86 2 = some (.iload_n 1, 1) := by decide +kernel
theorem c86_3 : mc_cd 86 3 = some (.aload_n 0, 1) := by decide +kernel
theorem c86_4 : mc_cd 86 4 = some (.getfield 11, 3) := by decide +kernel
theorem c86_7 : mc_cd 86 7 = some (.arraylength, 1) := by decide +kernel
theorem c86_8 : mc_cd 86 8 = some (.if_icmp .ge 16, 3) := by decide +kernel
theorem c86_11 : mc_cd 86 11 = some (.aload_n 0, 1) := by decide +kernel
theorem c86_12 : mc_cd 86 12 = some (.getfield 11, 3) := by decide +kernel
theorem c86_15 : mc_cd 86 15 = some (.iload_n 1, 1) := by decide +kernel
theorem c86_16 : mc_cd 86 16 = some (.lconst 0, 1) := by decide +kernel
theorem c86_17 : mc_cd 86 17 = some (.lastore, 1) := by decide +kernel
theorem c86_18 : mc_cd 86 18 = some (.iinc 1 1, 3) := by decide +kernel
theorem c86_21 : mc_cd 86 21 = some (.goto (-19), 3) := by decide +kernel
theorem c86_24 : mc_cd 86 24 = some (.iconst 0, 1) := by decide +kernel
theorem c86_25 : mc_cd 86 25 = some (.istore_n 1, 1) := by decide +kernel
theorem c86_26 : mc_cd 86 26 = some (.iload_n 1, 1) := by decide +kernel
theorem c86_27 : mc_cd 86 27 = some (.bipush 6, 2) := by decide +kernel
theorem c86_29 : mc_cd 86 29 = some (.if_icmp .ge 41, 3) := by decide +kernel
theorem c86_32 : mc_cd 86 32 = some (.iconst 0, 1) := by decide +kernel
theorem c86_33 : mc_cd 86 33 = some (.istore_n 2, 1) := by decide +kernel
theorem c86_34 : mc_cd 86 34 = some (.iload_n 2, 1) := by decide +kernel
theorem c86_35 : mc_cd 86 35 = some (.bipush 40, 2) := by decide +kernel
theorem c86_37 : mc_cd 86 37 = some (.if_icmp .ge 27, 3) := by decide +kernel
theorem c86_40 : mc_cd 86 40 = some (.aload_n 0, 1) := by decide +kernel
theorem c86_41 : mc_cd 86 41 = some (.getfield 17, 3) := by decide +kernel
theorem c86_44 : mc_cd 86 44 = some (.iload_n 1, 1) := by decide +kernel
theorem c86_45 : mc_cd 86 45 = some (.aaload, 1) := by decide +kernel
theorem c86_46 : mc_cd 86 46 = some (.iload_n 2, 1) := by decide +kernel
theorem c86_47 : mc_cd 86 47 = some (.iconst 0, 1) := by decide +kernel
theorem c86_48 : mc_cd 86 48 = some (.iastore, 1) := by decide +kernel
theorem c86_49 : mc_cd 86 49 = some (.aload_n 0, 1) := by decide +kernel
theorem c86_50 : mc_cd 86 50 = some (.getfield 22, 3) := by decide +kernel
theorem c86_53 : mc_cd 86 53 = some (.iload_n 1, 1) := by decide +kernel
theorem c86_54 : mc_cd 86 54 = some (.aaload, 1) := by decide +kernel
theorem c86_55 : mc_cd 86 55 = some (.iload_n 2, 1) := by decide +kernel
theorem c86_56 : mc_cd 86 56 = some (.lconst 0, 1) := by decide +kernel
theorem c86_57 : mc_cd 86 57 = some (.lastore, 1) := by decide +kernel
theorem c86_58 : mc_cd 86 58 = some (.iinc 2 1, 3) := by decide +kernel
theorem c86_61 : mc_cd 86 61 = some (.goto (-27), 3) := by decide +kernel
theorem c86_64 : mc_cd 86 64 = some (.iinc 1 1, 3) := by decide +kernel
theorem c86_67 : mc_cd 86 67 = some (.goto (-41), 3) := by decide +kernel
theorem c86_70 : mc_cd 86 70 = some (.aload_n 0, 1) := by decide +kernel
theorem c86_71 : mc_cd 86 71 = some (.iconst 0, 1) := by decide +kernel
theorem c86_72 : mc_cd 86 72 = some (.putfield 62, 3) := by decide +kernel
theorem c86_75 : mc_cd 86 75 = some (.aload_n 0, 1) := by decide +kernel
theorem c86_76 : mc_cd 86 76 = some (.lconst 0, 1) := by decide +kernel
theorem c86_77 : mc_cd 86 77 = some (.putfield 66, 3) := by decide +kernel
theorem c86_80 : mc_cd 86 80 = some (.aload_n 0, 1) := by decide +kernel
theorem c86_81 : mc_cd 86 81 = some (.iconst 0, 1) := by decide +kernel
theorem c86_82 : mc_cd 86 82 = some (.putfield 69, 3) := by decide +kernel
theorem c86_85 : mc_cd 86 85 = some (.aload_n 0, 1) := by decide +kernel
theorem c86_86 : mc_cd 86 86 = some (.lconst 0, 1) := by decide +kernel
theorem c86_87 : mc_cd 86 87 = some (.putfield 72, 3) := by decide +kernel
theorem c86_90 : mc_cd 86 90 = some (.return_, 1) := by decide +kernel
abbrev q_86 (r0 : Nat) (T : wq_T) (H : wq_H) : Option Value → wq_T → wq_H → Prop := fun r T' H' => T = T' ∧ WT T H' ∧ wfr [(12, 5), (12, 6), (12, 7), (12, 8), (15, 999), (17, 999), (13, 999)] T H H' ∧ none = r
set_option maxHeartbeats 4000000 in
theorem s_86 {kt : Nat → Option mc_E} {T : wq_T} {H : wq_H} {r0 : Nat} (hW : WT T H) (g0 : T.2.2.2 r0 = some 12) : wpc kt 1 86 [.ref r0] T H (q_86 r0 T H) := by
  refine wp_enter e86 (Nat.le_of_ble_eq_true rfl) rfl ?_
  have f0 : wfr [(12, 5), (12, 6), (12, 7), (12, 8), (15, 999), (17, 999), (13, 999)] T H H := wfr.rf
  show wp _ _ 86 0 [(0, .ref r0)] [] _ H _
  refine wp_of e86 c86_0 (rw_iconst (pc' := 1) rfl ?_)
  refine wp_of e86 c86_1 (rw_istore_n (pc' := 2) (z := 0) (L' := [(1, vI 0), (0, .ref r0)]) rfl rfl rfl ?_)
  have lp23169 : ∀ (n23170 : Nat) (v23172 : Int) (H23173 : wq_H), WT T H23173 → wfr [(13, 999)] T H H23173 → (0 ≤ v23172 ∧ v23172 ≤ 313) → (313 - v23172).toNat = n23170 → wp kt 0 86 2 [(1, vI v23172), (0, .ref r0)] [] T H23173 (q_86 r0 T H) := by
    intro n23170
    induction n23170 using Nat.strongRecOn with
    | _ n23170 ih23171 =>
      intro v23172 H23173 w23174 f23175 b23176 m23177
      have f23178 := f0.tr f23175 rfl
      refine wp_of e86 c86_2 (rw_iload_n (pc' := 3) (z := v23172) rfl rfl ?_)
      refine wp_of e86 c86_3 (rw_aload_n (pc' := 4) (v := .ref r0) rfl rfl rfl ?_)
      refine wp_of e86 c86_4 (xg_R (pc' := 7) lf_4_11 w23174 g0 sh_12 (by decide) (by decide) ty_12_0 rfl rfl (fun r23179 q23180 g23181 => ?_))
      refine wp_of e86 c86_7 (xa_N (pc' := 8) (n := 313) w23174 g23181 sh_13 (by decide) rfl ?_)
      refine wp_of e86 c86_8 (rw_icmp_ge (p1 := 24) (p2 := 11) (by decide) rfl ⟨by omega, by omega⟩ ⟨by omega, by omega⟩ (fun c23182 => ?_) (fun c23182 => ?_))
      · refine wp_of e86 c86_24 (rw_iconst (pc' := 25) rfl ?_)
        refine wp_of e86 c86_25 (rw_istore_n (pc' := 26) (z := 0) (L' := [(1, vI 0), (0, .ref r0)]) rfl rfl rfl ?_)
        have lp24646 : ∀ (n24647 : Nat) (v24649 : Int) (H24650 : wq_H), WT T H24650 → wfr [(15, 999), (17, 999)] T H23173 H24650 → (0 ≤ v24649 ∧ v24649 ≤ 6) → (6 - v24649).toNat = n24647 → wp kt 0 86 26 [(1, vI v24649), (0, .ref r0)] [] T H24650 (q_86 r0 T H) := by
          intro n24647
          induction n24647 using Nat.strongRecOn with
          | _ n24647 ih24648 =>
            intro v24649 H24650 w24651 f24652 b24653 m24654
            have f24655 := f23178.tr f24652 rfl
            have f24656 := f23175.tr f24652 rfl
            refine wp_of e86 c86_26 (rw_iload_n (pc' := 27) (z := v24649) rfl rfl ?_)
            refine wp_of e86 c86_27 (rw_bipush (pc' := 29) (z := 6) rfl (by decide) ?_)
            refine wp_of e86 c86_29 (rw_icmp_ge (p1 := 70) (p2 := 32) (by decide) rfl ⟨by omega, by omega⟩ ⟨by omega, by omega⟩ (fun c24657 => ?_) (fun c24657 => ?_))
            · refine wp_of e86 c86_70 (rw_aload_n (pc' := 71) (v := .ref r0) rfl rfl rfl ?_)
              refine wp_of e86 c86_71 (rw_iconst (pc' := 72) rfl ?_)
              refine wp_of e86 c86_72 (xp_I (pc' := 75) lf_4_62 w24651 g0 sh_12 (by decide) (by decide) ty_12_5 rfl rfl (by omega) (by omega) ⟨by omega, by omega⟩ rfl (fun H24658 e24659 w24660 => ?_))
              have f24661 := f24655.put' e24659 g0 rfl
              have f24662 := f24656.put' e24659 g0 rfl
              have f24663 := f24652.put' e24659 g0 rfl
              have k24664 : H24658 r0 5 = 0 := wq_u_s e24659
              refine wp_of e86 c86_75 (rw_aload_n (pc' := 76) (v := .ref r0) rfl rfl rfl ?_)
              refine wp_of e86 c86_76 (rw_lconst (pc' := 77) (z := 0) rfl rfl ?_)
              refine wp_of e86 c86_77 (xp_L (pc' := 80) lf_4_66 w24660 g0 sh_12 (by decide) (by decide) ty_12_6 rfl rfl (by omega) (by omega) ⟨by omega, by omega⟩ rfl (fun H24665 e24666 w24667 => ?_))
              have f24668 := f24661.put' e24666 g0 rfl
              have f24669 := f24662.put' e24666 g0 rfl
              have f24670 := f24663.put' e24666 g0 rfl
              have k24671 : H24665 r0 6 = 0 := wq_u_s e24666
              refine wp_of e86 c86_80 (rw_aload_n (pc' := 81) (v := .ref r0) rfl rfl rfl ?_)
              refine wp_of e86 c86_81 (rw_iconst (pc' := 82) rfl ?_)
              refine wp_of e86 c86_82 (xp_I (pc' := 85) lf_4_69 w24667 g0 sh_12 (by decide) (by decide) ty_12_7 rfl rfl (by omega) (by omega) ⟨by omega, by omega⟩ rfl (fun H24672 e24673 w24674 => ?_))
              have f24675 := f24668.put' e24673 g0 rfl
              have f24676 := f24669.put' e24673 g0 rfl
              have f24677 := f24670.put' e24673 g0 rfl
              have k24678 : H24672 r0 7 = 0 := wq_u_s e24673
              refine wp_of e86 c86_85 (rw_aload_n (pc' := 86) (v := .ref r0) rfl rfl rfl ?_)
              refine wp_of e86 c86_86 (rw_lconst (pc' := 87) (z := 0) rfl rfl ?_)
              refine wp_of e86 c86_87 (xp_L (pc' := 90) lf_4_72 w24674 g0 sh_12 (by decide) (by decide) ty_12_8 rfl rfl (by omega) (by omega) ⟨by omega, by omega⟩ rfl (fun H24679 e24680 w24681 => ?_))
              have f24682 := f24675.put' e24680 g0 rfl
              have f24683 := f24676.put' e24680 g0 rfl
              have f24684 := f24677.put' e24680 g0 rfl
              have k24685 : H24679 r0 8 = 0 := wq_u_s e24680
              exact wp_return e86 c86_90 rfl ⟨rfl, w24681, f24682, rfl⟩
            · refine wp_of e86 c86_32 (rw_iconst (pc' := 33) rfl ?_)
              refine wp_of e86 c86_33 (rw_istore_n (pc' := 34) (z := 0) (L' := [(2, vI 0), (1, vI v24649), (0, .ref r0)]) rfl rfl rfl ?_)
              have lp24886 : ∀ (n24887 : Nat) (v24889 : Int) (H24890 : wq_H), WT T H24890 → wfr [(15, 999), (17, 999)] T H24650 H24890 → (0 ≤ v24889 ∧ v24889 ≤ 40) → (40 - v24889).toNat = n24887 → wp kt 0 86 34 [(2, vI v24889), (1, vI v24649), (0, .ref r0)] [] T H24890 (q_86 r0 T H) := by
                intro n24887
                induction n24887 using Nat.strongRecOn with
                | _ n24887 ih24888 =>
                  intro v24889 H24890 w24891 f24892 b24893 m24894
                  have f24895 := f24655.tr f24892 rfl
                  have f24896 := f24656.tr f24892 rfl
                  have f24897 := f24652.tr f24892 rfl
                  refine wp_of e86 c86_34 (rw_iload_n (pc' := 35) (z := v24889) rfl rfl ?_)
                  refine wp_of e86 c86_35 (rw_bipush (pc' := 37) (z := 40) rfl (by decide) ?_)
                  refine wp_of e86 c86_37 (rw_icmp_ge (p1 := 64) (p2 := 40) (by decide) rfl ⟨by omega, by omega⟩ ⟨by omega, by omega⟩ (fun c24898 => ?_) (fun c24898 => ?_))
                  · refine wp_of e86 c86_64 (rw_iinc (pc' := 67) (z := v24649) (L' := [(1, vI (v24649 + 1)), (2, vI v24889), (0, .ref r0)]) rfl rfl rfl rfl ?_)
                    refine wp_of e86 c86_67 (rw_goto (p1 := 26) (by decide) ?_)
                    exact wp_lc (ks := [1, 2, 0]) (wl_c rfl (wl_c rfl wl_n)) rfl (by decide) (ih24648 _ (by omega) (v24649 + 1) H24890 w24891 f24897 ⟨by omega, by omega⟩ rfl)
                  · refine wp_of e86 c86_40 (rw_aload_n (pc' := 41) (v := .ref r0) rfl rfl rfl ?_)
                    refine wp_of e86 c86_41 (xg_R (pc' := 44) lf_4_17 w24891 g0 sh_12 (by decide) (by decide) ty_12_1 rfl rfl (fun r24899 q24900 g24901 => ?_))
                    refine wp_of e86 c86_44 (rw_iload_n (pc' := 45) (z := v24649) rfl rfl ?_)
                    refine wp_of e86 c86_45 (xa_R (pc' := 46) (by decide) w24891 g24901 sh_14 (by decide) (ty_14 _) (by omega) (by omega) rfl (fun r24902 q24903 g24904 => ?_))
                    refine wp_of e86 c86_46 (rw_iload_n (pc' := 47) (z := v24889) rfl rfl ?_)
                    refine wp_of e86 c86_47 (rw_iconst (pc' := 48) rfl ?_)
                    refine wp_of e86 c86_48 (xs_I (pc' := 49) w24891 g24904 (by decide) sh_15 (by decide) (ty_15 _) (by omega) (by omega) ⟨by omega, by omega⟩ (by omega) (by omega) rfl (fun H24905 e24906 w24907 => ?_))
                    have f24908 := f24895.put' e24906 g24904 rfl
                    have f24909 := f24896.put' e24906 g24904 rfl
                    have f24910 := f24897.put' e24906 g24904 rfl
                    have f24911 := f24892.put' e24906 g24904 rfl
                    refine wp_of e86 c86_49 (rw_aload_n (pc' := 50) (v := .ref r0) rfl rfl rfl ?_)
                    refine wp_of e86 c86_50 (xg_R (pc' := 53) lf_4_22 w24907 g0 sh_12 (by decide) (by decide) ty_12_2 rfl rfl (fun r24912 q24913 g24914 => ?_))
                    refine wp_of e86 c86_53 (rw_iload_n (pc' := 54) (z := v24649) rfl rfl ?_)
                    refine wp_of e86 c86_54 (xa_R (pc' := 55) (by decide) w24907 g24914 sh_16 (by decide) (ty_16 _) (by omega) (by omega) rfl (fun r24915 q24916 g24917 => ?_))
                    refine wp_of e86 c86_55 (rw_iload_n (pc' := 56) (z := v24889) rfl rfl ?_)
                    refine wp_of e86 c86_56 (rw_lconst (pc' := 57) (z := 0) rfl rfl ?_)
                    refine wp_of e86 c86_57 (xs_L (pc' := 58) w24907 g24917 (by decide) sh_17 (by decide) (ty_17 _) (by omega) (by omega) ⟨by omega, by omega⟩ (by omega) (by omega) rfl (fun H24918 e24919 w24920 => ?_))
                    have f24921 := f24908.put' e24919 g24917 rfl
                    have f24922 := f24909.put' e24919 g24917 rfl
                    have f24923 := f24910.put' e24919 g24917 rfl
                    have f24924 := f24911.put' e24919 g24917 rfl
                    refine wp_of e86 c86_58 (rw_iinc (pc' := 61) (z := v24889) (L' := [(2, vI (v24889 + 1)), (1, vI v24649), (0, .ref r0)]) rfl rfl rfl rfl ?_)
                    refine wp_of e86 c86_61 (rw_goto (p1 := 34) (by decide) ?_)
                    exact wp_lc (ks := [2, 1, 0]) (wl_c rfl (wl_c rfl (wl_c rfl wl_n))) rfl (by decide) (ih24888 _ (by omega) (v24889 + 1) H24918 w24920 f24924 ⟨by omega, by omega⟩ rfl)
              exact wp_lc (ks := [2, 1, 0]) (wl_c rfl (wl_c rfl (wl_c rfl wl_n))) rfl (by decide) (lp24886 _ 0 H24650 w24651 wfr.rf ⟨by omega, by omega⟩ rfl)
        exact wp_lc (ks := [1, 0]) (wl_c rfl (wl_c rfl wl_n)) rfl (by decide) (lp24646 _ 0 H23173 w23174 wfr.rf ⟨by omega, by omega⟩ rfl)
      · refine wp_of e86 c86_11 (rw_aload_n (pc' := 12) (v := .ref r0) rfl rfl rfl ?_)
        refine wp_of e86 c86_12 (xg_K (pc' := 15) lf_4_11 w23174 g0 sh_12 (by decide) (by decide) rfl q23180 rfl ?_)
        refine wp_of e86 c86_15 (rw_iload_n (pc' := 16) (z := v23172) rfl rfl ?_)
        refine wp_of e86 c86_16 (rw_lconst (pc' := 17) (z := 0) rfl rfl ?_)
        refine wp_of e86 c86_17 (xs_L (pc' := 18) w23174 g23181 (by decide) sh_13 (by decide) (ty_13 _) (by omega) (by omega) ⟨by omega, by omega⟩ (by omega) (by omega) rfl (fun H24925 e24926 w24927 => ?_))
        have f24928 := f23178.put' e24926 g23181 rfl
        have f24929 := f23175.put' e24926 g23181 rfl
        refine wp_of e86 c86_18 (rw_iinc (pc' := 21) (z := v23172) (L' := [(1, vI (v23172 + 1)), (0, .ref r0)]) rfl rfl rfl rfl ?_)
        refine wp_of e86 c86_21 (rw_goto (p1 := 2) (by decide) ?_)
        exact wp_lc (ks := [1, 0]) (wl_c rfl (wl_c rfl wl_n)) rfl (by decide) (ih23171 _ (by omega) (v23172 + 1) H24925 w24927 f24929 ⟨by omega, by omega⟩ rfl)
  exact wp_lc (ks := [1, 0]) (wl_c rfl (wl_c rfl wl_n)) rfl (by decide) (lp23169 _ 0 H hW wfr.rf ⟨by omega, by omega⟩ rfl)
/-! StrikeAwake$Walk.toFirst(LStrikeAwake$Parish;)V -/
theorem e87 : wq_en 87 = some (3, 3, false, none) := rfl
theorem c87_0 : mc_cd 87 0 = some (.iconst 0, 1) := by decide +kernel
theorem c87_1 : mc_cd 87 1 = some (.istore_n 2, 1) := by decide +kernel
theorem c87_2 : mc_cd 87 2 = some (.iload_n 2, 1) := by decide +kernel
theorem c87_3 : mc_cd 87 3 = some (.bipush 6, 2) := by decide +kernel
theorem c87_5 : mc_cd 87 5 = some (.if_icmp .ge 16, 3) := by decide +kernel
theorem c87_8 : mc_cd 87 8 = some (.aload_n 0, 1) := by decide +kernel
theorem c87_9 : mc_cd 87 9 = some (.getfield 9, 3) := by decide +kernel
theorem c87_12 : mc_cd 87 12 = some (.iload_n 2, 1) := by decide +kernel
theorem c87_13 : mc_cd 87 13 = some (.iconst 0, 1) := by decide +kernel
theorem c87_14 : mc_cd 87 14 = some (.iastore, 1) := by decide +kernel
theorem c87_15 : mc_cd 87 15 = some (.iinc 2 1, 3) := by decide +kernel
theorem c87_18 : mc_cd 87 18 = some (.goto (-16), 3) := by decide +kernel
theorem c87_21 : mc_cd 87 21 = some (.aload_n 0, 1) := by decide +kernel
theorem c87_22 : mc_cd 87 22 = some (.aload_n 1, 1) := by decide +kernel
theorem c87_23 : mc_cd 87 23 = some (.invokevirtual 28, 3) := by decide +kernel
theorem c87_26 : mc_cd 87 26 = some (.aload_n 0, 1) := by decide +kernel
theorem c87_27 : mc_cd 87 27 = some (.aload_n 1, 1) := by decide +kernel
theorem c87_28 : mc_cd 87 28 = some (.iconst 0, 1) := by decide +kernel
theorem c87_29 : mc_cd 87 29 = some (.invokevirtual 32, 3) := by decide +kernel
theorem c87_32 : mc_cd 87 32 = some (.return_, 1) := by decide +kernel
abbrev q_87 (r0 : Nat) (r1 : Nat) (T : wq_T) (H : wq_H) : Option Value → wq_T → wq_H → Prop := fun r T' H' => T = T' ∧ WT T H' ∧ wfr [(6, 5), (8, 999), (10, 999), (9, 999), (7, 999), (11, 999)] T H H' ∧ none = r
set_option maxHeartbeats 4000000 in
theorem s_87 {kt : Nat → Option mc_E} {T : wq_T} {H : wq_H} {r0 : Nat} {r1 : Nat} (hW : WT T H) (g0 : T.2.2.2 r0 = some 6) (g1 : T.2.2.2 r1 = some 27) : wpc kt 3 87 [.ref r0, .ref r1] T H (q_87 r0 r1 T H) := by
  refine wp_enter e87 (Nat.le_of_ble_eq_true rfl) rfl ?_
  have f0 : wfr [(6, 5), (8, 999), (10, 999), (9, 999), (7, 999), (11, 999)] T H H := wfr.rf
  show wp _ _ 87 0 [(0, .ref r0), (1, .ref r1)] [] _ H _
  refine wp_of e87 c87_0 (rw_iconst (pc' := 1) rfl ?_)
  refine wp_of e87 c87_1 (rw_istore_n (pc' := 2) (z := 0) (L' := [(2, vI 0), (0, .ref r0), (1, .ref r1)]) rfl rfl rfl ?_)
  have lp25069 : ∀ (n25070 : Nat) (v25072 : Int) (H25073 : wq_H), WT T H25073 → wfr [(7, 999)] T H H25073 → (0 ≤ v25072 ∧ v25072 ≤ 6) → (6 - v25072).toNat = n25070 → wp kt 2 87 2 [(2, vI v25072), (0, .ref r0), (1, .ref r1)] [] T H25073 (q_87 r0 r1 T H) := by
    intro n25070
    induction n25070 using Nat.strongRecOn with
    | _ n25070 ih25071 =>
      intro v25072 H25073 w25074 f25075 b25076 m25077
      have f25078 := f0.tr f25075 rfl
      refine wp_of e87 c87_2 (rw_iload_n (pc' := 3) (z := v25072) rfl rfl ?_)
      refine wp_of e87 c87_3 (rw_bipush (pc' := 5) (z := 6) rfl (by decide) ?_)
      refine wp_of e87 c87_5 (rw_icmp_ge (p1 := 21) (p2 := 8) (by decide) rfl ⟨by omega, by omega⟩ ⟨by omega, by omega⟩ (fun c25079 => ?_) (fun c25079 => ?_))
      · refine wp_of e87 c87_21 (rw_aload_n (pc' := 22) (v := .ref r0) rfl rfl rfl ?_)
        refine wp_of e87 c87_22 (rw_aload_n (pc' := 23) (v := .ref r1) rfl rfl rfl ?_)
        refine wp_of e87 c87_23 (xc_V (pc' := 26) (r := r0) (as := [.ref r1]) (st := []) (lm_3_28) rfl rfl (Nat.le_of_ble_eq_true rfl) w25074 g0 sh_6 (by decide) rfl (by decide) (s_69 w25074 g0 g1) (fun R25080 T25081 H25082 p25083 => ?_))
        obtain ⟨e25084, w25086, f25087, e25085⟩ := p25083
        subst e25084
        subst e25085
        have f25088 := f25078.tr f25087 rfl
        have f25089 := f25075.tr f25087 rfl
        show wp _ _ 87 26 [(2, vI v25072), (0, .ref r0), (1, .ref r1)] [] _ H25082 _
        refine wp_of e87 c87_26 (rw_aload_n (pc' := 27) (v := .ref r0) rfl rfl rfl ?_)
        refine wp_of e87 c87_27 (rw_aload_n (pc' := 28) (v := .ref r1) rfl rfl rfl ?_)
        refine wp_of e87 c87_28 (rw_iconst (pc' := 29) rfl ?_)
        refine wp_of e87 c87_29 (xc_V (pc' := 32) (r := r0) (as := [.ref r1, vI 0]) (st := []) (lm_3_32) rfl rfl (Nat.le_of_ble_eq_true rfl) w25086 g0 sh_6 (by decide) rfl (by decide) (s_70 w25086 g0 g1 ⟨by omega, by omega⟩) (fun R25090 T25091 H25092 p25093 => ?_))
        obtain ⟨e25094, w25096, f25097, e25095⟩ := p25093
        subst e25094
        subst e25095
        have f25098 := f25088.tr f25097 rfl
        have f25099 := f25089.tr f25097 rfl
        show wp _ _ 87 32 [(2, vI v25072), (0, .ref r0), (1, .ref r1)] [] _ H25092 _
        exact wp_return e87 c87_32 rfl ⟨rfl, w25096, f25098, rfl⟩
      · refine wp_of e87 c87_8 (rw_aload_n (pc' := 9) (v := .ref r0) rfl rfl rfl ?_)
        refine wp_of e87 c87_9 (xg_R (pc' := 12) lf_3_9 w25074 g0 sh_6 (by decide) (by decide) ty_6_0 rfl rfl (fun r25100 q25101 g25102 => ?_))
        refine wp_of e87 c87_12 (rw_iload_n (pc' := 13) (z := v25072) rfl rfl ?_)
        refine wp_of e87 c87_13 (rw_iconst (pc' := 14) rfl ?_)
        refine wp_of e87 c87_14 (xs_I (pc' := 15) w25074 g25102 (by decide) sh_7 (by decide) (ty_7 _) (by omega) (by omega) ⟨by omega, by omega⟩ (by omega) (by omega) rfl (fun H25103 e25104 w25105 => ?_))
        have f25106 := f25078.put' e25104 g25102 rfl
        have f25107 := f25075.put' e25104 g25102 rfl
        refine wp_of e87 c87_15 (rw_iinc (pc' := 18) (z := v25072) (L' := [(2, vI (v25072 + 1)), (0, .ref r0), (1, .ref r1)]) rfl rfl rfl rfl ?_)
        refine wp_of e87 c87_18 (rw_goto (p1 := 2) (by decide) ?_)
        exact wp_lc (ks := [2, 0, 1]) (wl_c rfl (wl_c rfl (wl_c rfl wl_n))) rfl (by decide) (ih25071 _ (by omega) (v25072 + 1) H25103 w25105 f25107 ⟨by omega, by omega⟩ rfl)
  exact wp_lc (ks := [2, 0, 1]) (wl_c rfl (wl_c rfl (wl_c rfl wl_n))) rfl (by decide) (lp25069 _ 0 H hW wfr.rf ⟨by omega, by omega⟩ rfl)
/-! StrikeAwake$Walk.pickOf(I)I -/
theorem e89 : wq_en 89 = some (3, 2, false, some FieldType.int) := rfl
theorem c89_0 : mc_cd 89 0 = some (.aload_n 0, 1) := by decide +kernel
theorem c89_1 : mc_cd 89 1 = some (.getfield 9, 3) := by decide +kernel
theorem c89_4 : mc_cd 89 4 = some (.iload_n 1, 1) := by decide +kernel
theorem c89_5 : mc_cd 89 5 = some (.iaload, 1) := by decide +kernel
theorem c89_6 : mc_cd 89 6 = some (.ireturn, 1) := by decide +kernel
abbrev q_89 (r0 : Nat) (a1 : Int) (T : wq_T) (H : wq_H) : Option Value → wq_T → wq_H → Prop := fun r T' H' => T = T' ∧ H = H' ∧ ∃ z : Int, some (vI z) = r ∧ (0 ≤ z ∧ z ≤ 39)
set_option maxHeartbeats 4000000 in
theorem s_89 {kt : Nat → Option mc_E} {T : wq_T} {H : wq_H} {r0 : Nat} {a1 : Int} (hW : WT T H) (g0 : T.2.2.2 r0 = some 6) (i1 : 0 ≤ a1 ∧ a1 ≤ 5) : wpc kt 1 89 [.ref r0, vI a1] T H (q_89 r0 a1 T H) := by
  refine wp_enter e89 (Nat.le_of_ble_eq_true rfl) rfl ?_
  show wp _ _ 89 0 [(0, .ref r0), (1, vI a1)] [] _ H _
  refine wp_of e89 c89_0 (rw_aload_n (pc' := 1) (v := .ref r0) rfl rfl rfl ?_)
  refine wp_of e89 c89_1 (xg_R (pc' := 4) lf_3_9 hW g0 sh_6 (by decide) (by decide) ty_6_0 rfl rfl (fun r25113 q25114 g25115 => ?_))
  refine wp_of e89 c89_4 (rw_iload_n (pc' := 5) (z := a1) rfl rfl ?_)
  refine wp_of e89 c89_5 (xa_I (so := 0) (pc' := 6) hW g25115 sh_7 (by decide) (ty_7 _) (by omega) (by omega) rfl (fun b25116 b25117 => ?_))
  exact wp_ireturn e89 c89_6 rfl ⟨rfl, rfl, H r25113 a1.toNat, rfl, ⟨by omega, by omega⟩⟩
/-! StrikeAwake$Census.enterDue(II)V -/
theorem e90 : wq_en 90 = some (4, 3, false, none) := rfl
theorem c90_0 : mc_cd 90 0 = some (.aload_n 0, 1) := by decide +kernel
theorem c90_1 : mc_cd 90 1 = some (.getfield 25, 3) := by decide +kernel
theorem c90_4 : mc_cd 90 4 = some (.iload_n 1, 1) := by decide +kernel
theorem c90_5 : mc_cd 90 5 = some (.aload_n 0, 1) := by decide +kernel
theorem c90_6 : mc_cd 90 6 = some (.getfield 62, 3) := by decide +kernel
theorem c90_9 : mc_cd 90 9 = some (.ifCond .ne 7, 3) := by decide +kernel
theorem c90_12 : mc_cd 90 12 = some (.iload_n 2, 1) := by decide +kernel
theorem c90_13 : mc_cd 90 13 = some (.goto 13, 3) := by decide +kernel
theorem c90_16 : mc_cd 90 16 = some (.aload_n 0, 1) := by decide +kernel
theorem c90_17 : mc_cd 90 17 = some (.getfield 25, 3) := by decide +kernel
theorem c90_20 : mc_cd 90 20 = some (.iload_n 1, 1) := by decide +kernel
theorem c90_21 : mc_cd 90 21 = some (.iaload, 1) := by decide +kernel
theorem c90_22 : mc_cd 90 22 = some (.iload_n 2, 1) := by decide +kernel
theorem c90_23 : mc_cd 90 23 = some (.invokestatic 104, 3) := by decide +kernel
theorem c90_26 : mc_cd 90 26 = some (.iastore, 1) := by decide +kernel
theorem c90_27 : mc_cd 90 27 = some (.aload_n 0, 1) := by decide +kernel
theorem c90_28 : mc_cd 90 28 = some (.getfield 29, 3) := by decide +kernel
theorem c90_31 : mc_cd 90 31 = some (.iload_n 1, 1) := by decide +kernel
theorem c90_32 : mc_cd 90 32 = some (.aload_n 0, 1) := by decide +kernel
theorem c90_33 : mc_cd 90 33 = some (.getfield 62, 3) := by decide +kernel
theorem c90_36 : mc_cd 90 36 = some (.ifCond .ne 7, 3) := by decide +kernel
theorem c90_39 : mc_cd 90 39 = some (.iload_n 2, 1) := by decide +kernel
theorem c90_40 : mc_cd 90 40 = some (.goto 13, 3) := by decide +kernel
theorem c90_43 : mc_cd 90 43 = some (.aload_n 0, 1) := by decide +kernel
theorem c90_44 : mc_cd 90 44 = some (.getfield 29, 3) := by decide +kernel
theorem c90_47 : mc_cd 90 47 = some (.iload_n 1, 1) := by decide +kernel
theorem c90_48 : mc_cd 90 48 = some (.iaload, 1) := by decide +kernel
theorem c90_49 : mc_cd 90 49 = some (.iload_n 2, 1) := by decide +kernel
theorem c90_50 : mc_cd 90 50 = some (.invokestatic 110, 3) := by decide +kernel
theorem c90_53 : mc_cd 90 53 = some (.iastore, 1) := by decide +kernel
theorem c90_54 : mc_cd 90 54 = some (.return_, 1) := by decide +kernel
abbrev q_90 (r0 : Nat) (a1 : Int) (a2 : Int) (T : wq_T) (H : wq_H) : Option Value → wq_T → wq_H → Prop := fun r T' H' => T = T' ∧ WT T H' ∧ wfr [(18, 999), (19, 999)] T H H' ∧ none = r
set_option maxHeartbeats 4000000 in
theorem s_90 {kt : Nat → Option mc_E} {T : wq_T} {H : wq_H} {r0 : Nat} {a1 : Int} {a2 : Int} (hW : WT T H) (g0 : T.2.2.2 r0 = some 12) (i1 : 0 ≤ a1 ∧ a1 ≤ 23) (i2 : (-2147483648) ≤ a2 ∧ a2 ≤ 2147483647) : wpc kt 1 90 [.ref r0, vI a1, vI a2] T H (q_90 r0 a1 a2 T H) := by
  refine wp_enter e90 (Nat.le_of_ble_eq_true rfl) rfl ?_
  have f0 : wfr [(18, 999), (19, 999)] T H H := wfr.rf
  show wp _ _ 90 0 [(0, .ref r0), (1, vI a1), (2, vI a2)] [] _ H _
  refine wp_of e90 c90_0 (rw_aload_n (pc' := 1) (v := .ref r0) rfl rfl rfl ?_)
  refine wp_of e90 c90_1 (xg_R (pc' := 4) lf_4_25 hW g0 sh_12 (by decide) (by decide) ty_12_3 rfl rfl (fun r25166 q25167 g25168 => ?_))
  refine wp_of e90 c90_4 (rw_iload_n (pc' := 5) (z := a1) rfl rfl ?_)
  refine wp_of e90 c90_5 (rw_aload_n (pc' := 6) (v := .ref r0) rfl rfl rfl ?_)
  refine wp_of e90 c90_6 (xg_I (pc' := 9) lf_4_62 hW g0 sh_12 (by decide) (by decide) ty_12_5 rfl rfl (fun b25169 b25170 => ?_))
  refine wp_of e90 c90_9 (rw_if_ne (p1 := 16) (p2 := 12) (by decide) rfl ⟨by omega, by omega⟩ (fun c25171 => ?_) (fun c25171 => ?_))
  · refine wp_of e90 c90_16 (rw_aload_n (pc' := 17) (v := .ref r0) rfl rfl rfl ?_)
    refine wp_of e90 c90_17 (xg_K (pc' := 20) lf_4_25 hW g0 sh_12 (by decide) (by decide) rfl q25167 rfl ?_)
    refine wp_of e90 c90_20 (rw_iload_n (pc' := 21) (z := a1) rfl rfl ?_)
    refine wp_of e90 c90_21 (xa_I (so := 0) (pc' := 22) hW g25168 sh_18 (by decide) (ty_18 _) (by omega) (by omega) rfl (fun b25172 b25173 => ?_))
    refine wp_of e90 c90_22 (rw_iload_n (pc' := 23) (z := a2) rfl rfl ?_)
    refine wp_of e90 c90_23 (rw_math2 (pc' := 26) (z := min (H r25166 a1.toNat) a2) rfl rfl ⟨by omega, by omega⟩ ⟨by omega, by omega⟩ (Or.inl ⟨rfl, rfl⟩) (Nat.le_of_ble_eq_true rfl) rfl ?_)
    obtain ⟨v25174, e25175⟩ : ∃ x : Int, x = min (H r25166 a1.toNat) a2 := ⟨_, rfl⟩
    rw [← e25175]
    have b25176 : v25174 = (H r25166 a1.toNat) ∨ v25174 = a2 := by
      rw [e25175]
      omega
    have b25177 : v25174 ≤ (H r25166 a1.toNat) ∧ v25174 ≤ a2 := by
      rw [e25175]
      omega
    refine wp_of e90 c90_26 (xs_I (pc' := 27) hW g25168 (by decide) sh_18 (by decide) (ty_18 _) (by omega) (by omega) ⟨by omega, by omega⟩ (by omega) (by omega) rfl (fun H25178 e25179 w25180 => ?_))
    have f25181 := f0.put' e25179 g25168 rfl
    refine wp_of e90 c90_27 (rw_aload_n (pc' := 28) (v := .ref r0) rfl rfl rfl ?_)
    refine wp_of e90 c90_28 (xg_R (pc' := 31) lf_4_29 w25180 g0 sh_12 (by decide) (by decide) ty_12_4 rfl rfl (fun r25182 q25183 g25184 => ?_))
    refine wp_of e90 c90_31 (rw_iload_n (pc' := 32) (z := a1) rfl rfl ?_)
    refine wp_of e90 c90_32 (rw_aload_n (pc' := 33) (v := .ref r0) rfl rfl rfl ?_)
    have k25185 : H25178 r0 5 = H r0 5 := (wq_u_t e25179 g25168 g0 rfl 5)
    refine wp_of e90 c90_33 (xg_I (pc' := 36) lf_4_62 w25180 g0 sh_12 (by decide) (by decide) ty_12_5 rfl rfl (fun b25186 b25187 => ?_))
    refine wp_of e90 c90_36 (rw_if_ne (p1 := 43) (p2 := 39) (by decide) rfl ⟨by omega, by omega⟩ (fun c25188 => ?_) (fun c25188 => ?_))
    · refine wp_of e90 c90_43 (rw_aload_n (pc' := 44) (v := .ref r0) rfl rfl rfl ?_)
      refine wp_of e90 c90_44 (xg_K (pc' := 47) lf_4_29 w25180 g0 sh_12 (by decide) (by decide) rfl q25183 rfl ?_)
      refine wp_of e90 c90_47 (rw_iload_n (pc' := 48) (z := a1) rfl rfl ?_)
      refine wp_of e90 c90_48 (xa_I (so := 0) (pc' := 49) w25180 g25184 sh_19 (by decide) (ty_19 _) (by omega) (by omega) rfl (fun b25189 b25190 => ?_))
      refine wp_of e90 c90_49 (rw_iload_n (pc' := 50) (z := a2) rfl rfl ?_)
      refine wp_of e90 c90_50 (rw_math2 (pc' := 53) (z := max (H25178 r25182 a1.toNat) a2) rfl rfl ⟨by omega, by omega⟩ ⟨by omega, by omega⟩ (Or.inr ⟨rfl, rfl⟩) (Nat.le_of_ble_eq_true rfl) rfl ?_)
      obtain ⟨v25191, e25192⟩ : ∃ x : Int, x = max (H25178 r25182 a1.toNat) a2 := ⟨_, rfl⟩
      rw [← e25192]
      have b25193 : v25191 = (H25178 r25182 a1.toNat) ∨ v25191 = a2 := by
        rw [e25192]
        omega
      have b25194 : (H25178 r25182 a1.toNat) ≤ v25191 ∧ a2 ≤ v25191 := by
        rw [e25192]
        omega
      refine wp_of e90 c90_53 (xs_I (pc' := 54) w25180 g25184 (by decide) sh_19 (by decide) (ty_19 _) (by omega) (by omega) ⟨by omega, by omega⟩ (by omega) (by omega) rfl (fun H25195 e25196 w25197 => ?_))
      have f25198 := f25181.put' e25196 g25184 rfl
      exact wp_return e90 c90_54 rfl ⟨rfl, w25197, f25198, rfl⟩
    · refine wp_of e90 c90_39 (rw_iload_n (pc' := 40) (z := a2) rfl rfl ?_)
      refine wp_of e90 c90_40 (rw_goto (p1 := 53) (by decide) ?_)
      refine wp_of e90 c90_53 (xs_I (pc' := 54) w25180 g25184 (by decide) sh_19 (by decide) (ty_19 _) (by omega) (by omega) ⟨by omega, by omega⟩ (by omega) (by omega) rfl (fun H25199 e25200 w25201 => ?_))
      have f25202 := f25181.put' e25200 g25184 rfl
      exact wp_return e90 c90_54 rfl ⟨rfl, w25201, f25202, rfl⟩
  · refine wp_of e90 c90_12 (rw_iload_n (pc' := 13) (z := a2) rfl rfl ?_)
    refine wp_of e90 c90_13 (rw_goto (p1 := 26) (by decide) ?_)
    refine wp_of e90 c90_26 (xs_I (pc' := 27) hW g25168 (by decide) sh_18 (by decide) (ty_18 _) (by omega) (by omega) ⟨by omega, by omega⟩ (by omega) (by omega) rfl (fun H25203 e25204 w25205 => ?_))
    have f25206 := f0.put' e25204 g25168 rfl
    refine wp_of e90 c90_27 (rw_aload_n (pc' := 28) (v := .ref r0) rfl rfl rfl ?_)
    refine wp_of e90 c90_28 (xg_R (pc' := 31) lf_4_29 w25205 g0 sh_12 (by decide) (by decide) ty_12_4 rfl rfl (fun r25207 q25208 g25209 => ?_))
    refine wp_of e90 c90_31 (rw_iload_n (pc' := 32) (z := a1) rfl rfl ?_)
    refine wp_of e90 c90_32 (rw_aload_n (pc' := 33) (v := .ref r0) rfl rfl rfl ?_)
    have k25210 : H25203 r0 5 = H r0 5 := (wq_u_t e25204 g25168 g0 rfl 5)
    refine wp_of e90 c90_33 (xg_I (pc' := 36) lf_4_62 w25205 g0 sh_12 (by decide) (by decide) ty_12_5 rfl rfl (fun b25211 b25212 => ?_))
    refine wp_of e90 c90_36 (rw_if_ne (p1 := 43) (p2 := 39) (by decide) rfl ⟨by omega, by omega⟩ (fun c25213 => ?_) (fun c25213 => ?_))
    · exfalso
      omega
    · refine wp_of e90 c90_39 (rw_iload_n (pc' := 40) (z := a2) rfl rfl ?_)
      refine wp_of e90 c90_40 (rw_goto (p1 := 53) (by decide) ?_)
      refine wp_of e90 c90_53 (xs_I (pc' := 54) w25205 g25209 (by decide) sh_19 (by decide) (ty_19 _) (by omega) (by omega) ⟨by omega, by omega⟩ (by omega) (by omega) rfl (fun H25214 e25215 w25216 => ?_))
      have f25217 := f25206.put' e25215 g25209 rfl
      exact wp_return e90 c90_54 rfl ⟨rfl, w25216, f25217, rfl⟩
/-! StrikeAwake$Census.enter(LStrikeAwake$Parish;LStrikeAwake$Walk;I)V -/
theorem e88 : wq_en 88 = some (4, 7, false, none) := rfl
theorem c88_0 : mc_cd 88 0 = some (.lconst 1, 1) := by decide +kernel
theorem c88_1 : mc_cd 88 1 = some (.lstore 4, 2) := by decide +kernel
theorem c88_3 : mc_cd 88 3 = some (.iconst 0, 1) := by decide +kernel
theorem c88_4 : mc_cd 88 4 = some (.istore 6, 2) := by decide +kernel
theorem c88_6 : mc_cd 88 6 = some (.iload 6, 2) := by decide +kernel
theorem c88_8 : mc_cd 88 8 = some (.aload_n 1, 1) := by decide +kernel
theorem c88_9 : mc_cd 88 9 = some (.getfield 75, 3) := by decide +kernel
theorem c88_12 : mc_cd 88 12 = some (.if_icmp .ge 31, 3) := by decide +kernel
theorem c88_15 : mc_cd 88 15 = some (.lload 4, 2) := by decide +kernel
theorem c88_17 : mc_cd 88 17 = some (.aload_n 1, 1) := by decide +kernel
theorem c88_18 : mc_cd 88 18 = some (.getfield 78, 3) := by decide +kernel
theorem c88_21 : mc_cd 88 21 = some (.iload 6, 2) := by decide +kernel
theorem c88_23 : mc_cd 88 23 = some (.aaload, 1) := by decide +kernel
theorem c88_24 : mc_cd 88 24 = some (.aload_n 2, 1) := by decide +kernel
theorem c88_25 : mc_cd 88 25 = some (.iload 6, 2) := by decide +kernel
theorem c88_27 : mc_cd 88 27 = some (.invokevirtual 82, 3) := by decide +kernel
theorem c88_30 : mc_cd 88 30 = some (.invokevirtual 86, 3) := by decide +kernel
theorem c88_33 : mc_cd 88 33 = some (.i2l, 1) := by decide +kernel
theorem c88_34 : mc_cd 88 34 = some (.lmul, 1) := by decide +kernel
theorem c88_35 : mc_cd 88 35 = some (.lstore 4, 2) := by decide +kernel
theorem c88_37 : mc_cd 88 37 = some (.iinc 6 1, 3) := by decide +kernel
theorem c88_40 : mc_cd 88 40 = some (.goto (-34), 3) := by decide +kernel
theorem c88_43 : mc_cd 88 43 = some (.iconst 0, 1) := by decide +kernel
theorem c88_44 : mc_cd 88 44 = some (.istore 6, 2) := by decide +kernel
theorem c88_46 : mc_cd 88 46 = some (.iload 6, 2) := by decide +kernel
theorem c88_48 : mc_cd 88 48 = some (.aload_n 1, 1) := by decide +kernel
theorem c88_49 : mc_cd 88 49 = some (.getfield 75, 3) := by decide +kernel
theorem c88_52 : mc_cd 88 52 = some (.if_icmp .ge 46, 3) := by decide +kernel
theorem c88_55 : mc_cd 88 55 = some (.aload_n 0, 1) := by decide +kernel
theorem c88_56 : mc_cd 88 56 = some (.getfield 17, 3) := by decide +kernel
theorem c88_59 : mc_cd 88 59 = some (.iload 6, 2) := by decide +kernel
theorem c88_61 : mc_cd 88 61 = some (.aaload, 1) := by decide +kernel
theorem c88_62 : mc_cd 88 62 = some (.aload_n 2, 1) := by decide +kernel
theorem c88_63 : mc_cd 88 63 = some (.iload 6, 2) := by decide +kernel
theorem c88_65 : mc_cd 88 65 = some (.invokevirtual 82, 3) := by decide +kernel
theorem c88_68 : mc_cd 88 68 = some (.dup2, 1) := by decide +kernel
theorem c88_69 : mc_cd 88 69 = some (.iaload, 1) := by decide +kernel
theorem c88_70 : mc_cd 88 70 = some (.iconst 1, 1) := by decide +kernel
theorem c88_71 : mc_cd 88 71 = some (.iadd, 1) := by decide +kernel
theorem c88_72 : mc_cd 88 72 = some (.iastore, 1) := by decide +kernel
theorem c88_73 : mc_cd 88 73 = some (.aload_n 0, 1) := by decide +kernel
theorem c88_74 : mc_cd 88 74 = some (.getfield 22, 3) := by decide +kernel
theorem c88_77 : mc_cd 88 77 = some (.iload 6, 2) := by decide +kernel
theorem c88_79 : mc_cd 88 79 = some (.aaload, 1) := by decide +kernel
theorem c88_80 : mc_cd 88 80 = some (.aload_n 2, 1) := by decide +kernel
theorem c88_81 : mc_cd 88 81 = some (.iload 6, 2) := by decide +kernel
theorem c88_83 : mc_cd 88 83 = some (.invokevirtual 82, 3) := by decide +kernel
theorem c88_86 : mc_cd 88 86 = some (.dup2, 1) := by decide +kernel
theorem c88_87 : mc_cd 88 87 = some (.laload, 1) := by decide +kernel
theorem c88_88 : mc_cd 88 88 = some (.lload 4, 2) := by decide +kernel
theorem c88_90 : mc_cd 88 90 = some (.ladd, 1) := by decide +kernel
theorem c88_91 : mc_cd 88 91 = some (.lastore, 1) := by decide +kernel
theorem c88_92 : mc_cd 88 92 = some (.iinc 6 1, 3) := by decide +kernel
theorem c88_95 : mc_cd 88 95 = some (.goto (-49), 3) := by decide +kernel
theorem c88_98 : mc_cd 88 98 = some (.iconst 0, 1) := by decide +kernel
theorem c88_99 : mc_cd 88 99 = some (.istore 6, 2) := by decide +kernel
theorem c88_101 : mc_cd 88 101 = some (.iload 6, 2) := by decide +kernel
theorem c88_103 : mc_cd 88 103 = some (.aload_n 1, 1) := by decide +kernel
theorem c88_104 : mc_cd 88 104 = some (.getfield 91, 3) := by decide +kernel
theorem c88_107 : mc_cd 88 107 = some (.if_icmp .ge 31, 3) := by decide +kernel
theorem c88_110 : mc_cd 88 110 = some (.aload_n 0, 1) := by decide +kernel
theorem c88_111 : mc_cd 88 111 = some (.aload_n 1, 1) := by decide +kernel
theorem c88_112 : mc_cd 88 112 = some (.getfield 94, 3) := by decide +kernel
theorem c88_115 : mc_cd 88 115 = some (.iload 6, 2) := by decide +kernel
theorem c88_117 : mc_cd 88 117 = some (.iaload, 1) := by decide +kernel
theorem c88_118 : mc_cd 88 118 = some (.aload_n 2, 1) := by decide +kernel
theorem c88_119 : mc_cd 88 119 = some (.aload_n 1, 1) := by decide +kernel
theorem c88_120 : mc_cd 88 120 = some (.getfield 94, 3) := by decide +kernel
theorem c88_123 : mc_cd 88 123 = some (.iload 6, 2) := by decide +kernel
theorem c88_125 : mc_cd 88 125 = some (.iaload, 1) := by decide +kernel
theorem c88_126 : mc_cd 88 126 = some (.invokevirtual 97, 3) := by decide +kernel
theorem c88_129 : mc_cd 88 129 = some (.invokevirtual 100, 3) := by decide +kernel
theorem c88_132 : mc_cd 88 132 = some (.iinc 6 1, 3) := by decide +kernel
theorem c88_135 : mc_cd 88 135 = some (.goto (-34), 3) := by decide +kernel
theorem c88_138 : mc_cd 88 138 = some (.aload_n 0, 1) := by decide +kernel
theorem c88_139 : mc_cd 88 139 = some (.getfield 11, 3) := by decide +kernel
theorem c88_142 : mc_cd 88 142 = some (.iload_n 3, 1) := by decide +kernel
theorem c88_143 : mc_cd 88 143 = some (.bipush 64, 2) := by decide +kernel
theorem c88_145 : mc_cd 88 145 = some (.idiv, 1) := by decide +kernel
theorem c88_146 : mc_cd 88 146 = some (.dup2, 1) := by decide +kernel
theorem c88_147 : mc_cd 88 147 = some (.laload, 1) := by decide +kernel
theorem c88_148 : mc_cd 88 148 = some (.lconst 1, 1) := by decide +kernel
theorem c88_149 : mc_cd 88 149 = some (.iload_n 3, 1) := by decide +kernel
theorem c88_150 : mc_cd 88 150 = some (.bipush 64, 2) := by decide +kernel
theorem c88_152 : mc_cd 88 152 = some (.irem, 1) := by decide +kernel
theorem c88_153 : mc_cd 88 153 = some (.lshl, 1) := by decide +kernel
theorem c88_154 : mc_cd 88 154 = some (.lor, 1) := by decide +kernel
theorem c88_155 : mc_cd 88 155 = some (.lastore, 1) := by decide +kernel
theorem c88_156 : mc_cd 88 156 = some (.aload_n 0, 1) := by decide +kernel
theorem c88_157 : mc_cd 88 157 = some (.dup, 1) := by decide +kernel
theorem c88_158 : mc_cd 88 158 = some (.getfield 62, 3) := by decide +kernel
theorem c88_161 : mc_cd 88 161 = some (.iconst 1, 1) := by decide +kernel
theorem c88_162 : mc_cd 88 162 = some (.iadd, 1) := by decide +kernel
theorem c88_163 : mc_cd 88 163 = some (.putfield 62, 3) := by decide +kernel
theorem c88_166 : mc_cd 88 166 = some (.aload_n 0, 1) := by decide +kernel
theorem c88_167 : mc_cd 88 167 = some (.dup, 1) := by decide +kernel
theorem c88_168 : mc_cd 88 168 = some (.getfield 66, 3) := by decide +kernel
theorem c88_171 : mc_cd 88 171 = some (.lload 4, 2) := by decide +kernel
theorem c88_173 : mc_cd 88 173 = some (.ladd, 1) := by decide +kernel
theorem c88_174 : mc_cd 88 174 = some (.putfield 66, 3) := by decide +kernel
theorem c88_177 : mc_cd 88 177 = some (.lload 4, 2) := by decide +kernel
theorem c88_179 : mc_cd 88 179 = some (.aload_n 0, 1) := by decide +kernel
theorem c88_180 : mc_cd 88 180 = some (.getfield 72, 3) := by decide +kernel
theorem c88_183 : mc_cd 88 183 = some (.lcmp, 1) := by decide +kernel
theorem c88_184 : mc_cd 88 184 = some (.ifCond .le 14, 3) := by decide +kernel
theorem c88_187 : mc_cd 88 187 = some (.aload_n 0, 1) := by decide +kernel
theorem c88_188 : mc_cd 88 188 = some (.lload 4, 2) := by decide +kernel
theorem c88_190 : mc_cd 88 190 = some (.putfield 72, 3) := by decide +kernel
theorem c88_193 : mc_cd 88 193 = some (.aload_n 0, 1) := by decide +kernel
theorem c88_194 : mc_cd 88 194 = some (.iload_n 3, 1) := by decide +kernel
theorem c88_195 : mc_cd 88 195 = some (.putfield 69, 3) := by decide +kernel
theorem c88_198 : mc_cd 88 198 = some (.return_, 1) := by decide +kernel
abbrev q_88 (r0 : Nat) (r1 : Nat) (r2 : Nat) (a3 : Int) (T : wq_T) (H : wq_H) : Option Value → wq_T → wq_H → Prop := fun r T' H' => T = T' ∧ WT T H' ∧ wfr [(12, 5), (12, 6), (12, 7), (12, 8), (15, 999), (18, 999), (19, 999), (17, 999), (13, 999)] T H H' ∧ none = r
set_option maxHeartbeats 4000000 in
theorem s_88 {kt : Nat → Option mc_E} {T : wq_T} {H : wq_H} {r0 : Nat} {r1 : Nat} {r2 : Nat} {a3 : Int} (hW : WT T H) (g0 : T.2.2.2 r0 = some 12) (g1 : T.2.2.2 r1 = some 27) (g2 : T.2.2.2 r2 = some 6) (i3 : 0 ≤ a3 ∧ a3 ≤ 19999) : wpc kt 2 88 [.ref r0, .ref r1, .ref r2, vI a3] T H (q_88 r0 r1 r2 a3 T H) := by
  refine wp_enter e88 (Nat.le_of_ble_eq_true rfl) rfl ?_
  have f0 : wfr [(12, 5), (12, 6), (12, 7), (12, 8), (15, 999), (18, 999), (19, 999), (17, 999), (13, 999)] T H H := wfr.rf
  show wp _ _ 88 0 [(0, .ref r0), (1, .ref r1), (2, .ref r2), (3, vI a3)] [] _ H _
  refine wp_of e88 c88_0 (rw_lconst (pc' := 1) (z := 1) rfl rfl ?_)
  refine wp_of e88 c88_1 (rw_lstore (pc' := 3) (z := 1) (L' := [(4, vL 1), (0, .ref r0), (1, .ref r1), (2, .ref r2), (3, vI a3)]) rfl rfl rfl ?_)
  refine wp_of e88 c88_3 (rw_iconst (pc' := 4) rfl ?_)
  refine wp_of e88 c88_4 (rw_istore (pc' := 6) (z := 0) (L' := [(6, vI 0), (4, vL 1), (0, .ref r0), (1, .ref r1), (2, .ref r2), (3, vI a3)]) rfl rfl rfl ?_)
  have lp26353 : ∀ (n26354 : Nat) (v26356 : Int) (v26357 : Int), (0 ≤ v26356 ∧ v26356 ≤ 6) → ((-9223372036854775808) ≤ v26357 ∧ v26357 ≤ 9223372036854775807) → (6 - v26356).toNat = n26354 → wp kt 1 88 6 [(6, vI v26356), (4, vL v26357), (0, .ref r0), (1, .ref r1), (2, .ref r2), (3, vI a3)] [] T H (q_88 r0 r1 r2 a3 T H) := by
    intro n26354
    induction n26354 using Nat.strongRecOn with
    | _ n26354 ih26355 =>
      intro v26356 v26357 b26360 b26361 m26362
      refine wp_of e88 c88_6 (rw_iload (pc' := 8) (z := v26356) rfl rfl ?_)
      refine wp_of e88 c88_8 (rw_aload_n (pc' := 9) (v := .ref r1) rfl rfl rfl ?_)
      refine wp_of e88 c88_9 (xg_I (pc' := 12) lf_4_75 hW g1 sh_27 (by decide) (by decide) ty_27_10 rfl rfl (fun b26363 b26364 => ?_))
      refine wp_of e88 c88_12 (rw_icmp_ge (p1 := 43) (p2 := 15) (by decide) rfl ⟨by omega, by omega⟩ ⟨by omega, by omega⟩ (fun c26365 => ?_) (fun c26365 => ?_))
      · refine wp_of e88 c88_43 (rw_iconst (pc' := 44) rfl ?_)
        refine wp_of e88 c88_44 (rw_istore (pc' := 46) (z := 0) (L' := [(6, vI 0), (4, vL v26357), (0, .ref r0), (1, .ref r1), (2, .ref r2), (3, vI a3)]) rfl rfl rfl ?_)
        have lp26716 : ∀ (n26717 : Nat) (v26719 : Int) (H26720 : wq_H), WT T H26720 → wfr [(15, 999), (17, 999)] T H H26720 → (0 ≤ v26719 ∧ v26719 ≤ 6) → (6 - v26719).toNat = n26717 → wp kt 1 88 46 [(6, vI v26719), (4, vL v26357), (0, .ref r0), (1, .ref r1), (2, .ref r2), (3, vI a3)] [] T H26720 (q_88 r0 r1 r2 a3 T H) := by
          intro n26717
          induction n26717 using Nat.strongRecOn with
          | _ n26717 ih26718 =>
            intro v26719 H26720 w26721 f26722 b26723 m26724
            have f26725 := f0.tr f26722 rfl
            refine wp_of e88 c88_46 (rw_iload (pc' := 48) (z := v26719) rfl rfl ?_)
            refine wp_of e88 c88_48 (rw_aload_n (pc' := 49) (v := .ref r1) rfl rfl rfl ?_)
            have k26726 : H26720 r1 10 = H r1 10 := (f26722 r1 10 _ g1 rfl)
            refine wp_of e88 c88_49 (xg_I (pc' := 52) lf_4_75 w26721 g1 sh_27 (by decide) (by decide) ty_27_10 rfl rfl (fun b26727 b26728 => ?_))
            refine wp_of e88 c88_52 (rw_icmp_ge (p1 := 98) (p2 := 55) (by decide) rfl ⟨by omega, by omega⟩ ⟨by omega, by omega⟩ (fun c26729 => ?_) (fun c26729 => ?_))
            · refine wp_of e88 c88_98 (rw_iconst (pc' := 99) rfl ?_)
              refine wp_of e88 c88_99 (rw_istore (pc' := 101) (z := 0) (L' := [(6, vI 0), (4, vL v26357), (0, .ref r0), (1, .ref r1), (2, .ref r2), (3, vI a3)]) rfl rfl rfl ?_)
              have lp26962 : ∀ (n26963 : Nat) (v26965 : Int) (H26966 : wq_H), WT T H26966 → wfr [(18, 999), (19, 999)] T H26720 H26966 → (0 ≤ v26965 ∧ v26965 ≤ 24) → (24 - v26965).toNat = n26963 → wp kt 1 88 101 [(6, vI v26965), (4, vL v26357), (0, .ref r0), (1, .ref r1), (2, .ref r2), (3, vI a3)] [] T H26966 (q_88 r0 r1 r2 a3 T H) := by
                intro n26963
                induction n26963 using Nat.strongRecOn with
                | _ n26963 ih26964 =>
                  intro v26965 H26966 w26967 f26968 b26969 m26970
                  have f26971 := f26725.tr f26968 rfl
                  have f26972 := f26722.tr f26968 rfl
                  refine wp_of e88 c88_101 (rw_iload (pc' := 103) (z := v26965) rfl rfl ?_)
                  refine wp_of e88 c88_103 (rw_aload_n (pc' := 104) (v := .ref r1) rfl rfl rfl ?_)
                  refine wp_of e88 c88_104 (xg_I (pc' := 107) lf_4_91 w26967 g1 sh_27 (by decide) (by decide) ty_27_16 rfl rfl (fun b26973 b26974 => ?_))
                  refine wp_of e88 c88_107 (rw_icmp_ge (p1 := 138) (p2 := 110) (by decide) rfl ⟨by omega, by omega⟩ ⟨by omega, by omega⟩ (fun c26975 => ?_) (fun c26975 => ?_))
                  · refine wp_of e88 c88_138 (rw_aload_n (pc' := 139) (v := .ref r0) rfl rfl rfl ?_)
                    refine wp_of e88 c88_139 (xg_R (pc' := 142) lf_4_11 w26967 g0 sh_12 (by decide) (by decide) ty_12_0 rfl rfl (fun r26976 q26977 g26978 => ?_))
                    refine wp_of e88 c88_142 (rw_iload_n (pc' := 143) (z := a3) rfl rfl ?_)
                    refine wp_of e88 c88_143 (rw_bipush (pc' := 145) (z := 64) rfl (by decide) ?_)
                    refine wp_of e88 c88_145 (rw_idiv (pc' := 146) rfl ⟨by omega, by omega⟩ (by omega) ?_)
                    obtain ⟨v26979, e26980⟩ : ∃ x : Int, x = wq_div a3 64 := ⟨_, rfl⟩
                    rw [← e26980]
                    have b26981 : v26979 = a3 / 64 := by
                      rw [e26980]
                      exact wq_div_e ⟨by omega, by omega⟩ ⟨by omega, by omega⟩
                    refine wp_of e88 c88_146 (rw_dup2 (pc' := 147) rfl rfl rfl ?_)
                    refine wp_of e88 c88_147 (xa_L (pc' := 148) w26967 g26978 sh_13 (by decide) (ty_13 _) (by omega) (by omega) rfl (fun b26982 b26983 => ?_))
                    refine wp_of e88 c88_148 (rw_lconst (pc' := 149) (z := 1) rfl rfl ?_)
                    refine wp_of e88 c88_149 (rw_iload_n (pc' := 150) (z := a3) rfl rfl ?_)
                    refine wp_of e88 c88_150 (rw_bipush (pc' := 152) (z := 64) rfl (by decide) ?_)
                    refine wp_of e88 c88_152 (rw_irem (pc' := 153) rfl ⟨by omega, by omega⟩ (by omega) ?_)
                    obtain ⟨v26984, e26985⟩ : ∃ x : Int, x = wq_rem a3 64 := ⟨_, rfl⟩
                    rw [← e26985]
                    have b26986 : v26984 = a3 % 64 := by
                      rw [e26985]
                      exact wq_rem_e ⟨by omega, by omega⟩ ⟨by omega, by omega⟩
                    refine wp_of e88 c88_153 (rw_lshl (pc' := 154) rfl ?_)
                    obtain ⟨v26987, e26988⟩ : ∃ x : Int, x = wl_shl 1 v26984 := ⟨_, rfl⟩
                    rw [← e26988]
                    have b26989 : -9223372036854775808 ≤ v26987 ∧ v26987 ≤ 9223372036854775807 := by
                      rw [e26988]
                      exact wL_shl _ _
                    refine wp_of e88 c88_154 (rw_lor (pc' := 155) rfl ?_)
                    obtain ⟨v26990, e26991⟩ : ∃ x : Int, x = wl_or (H26966 r26976 v26979.toNat) v26987 := ⟨_, rfl⟩
                    rw [← e26991]
                    have b26992 : -9223372036854775808 ≤ v26990 ∧ v26990 ≤ 9223372036854775807 := by
                      rw [e26991]
                      exact wL_or _ _
                    refine wp_of e88 c88_155 (xs_L (pc' := 156) w26967 g26978 (by decide) sh_13 (by decide) (ty_13 _) (by omega) (by omega) ⟨by omega, by omega⟩ (by omega) (by omega) rfl (fun H26993 e26994 w26995 => ?_))
                    have f26996 := f26971.put' e26994 g26978 rfl
                    have f26997 := f26972.put' e26994 g26978 rfl
                    have f26998 := f26968.put' e26994 g26978 rfl
                    refine wp_of e88 c88_156 (rw_aload_n (pc' := 157) (v := .ref r0) rfl rfl rfl ?_)
                    refine wp_of e88 c88_157 (rw_dup (pc' := 158) rfl rfl ?_)
                    refine wp_of e88 c88_158 (xg_I (pc' := 161) lf_4_62 w26995 g0 sh_12 (by decide) (by decide) ty_12_5 rfl rfl (fun b26999 b27000 => ?_))
                    refine wp_of e88 c88_161 (rw_iconst (pc' := 162) rfl ?_)
                    refine wp_of e88 c88_162 (rw_iaddw (pc' := 163) rfl ?_)
                    obtain ⟨v27001, e27002⟩ : ∃ x : Int, x = wq_w ((H26993 r0 5) + 1) := ⟨_, rfl⟩
                    rw [← e27002]
                    have b27003 : -2147483648 ≤ v27001 ∧ v27001 ≤ 2147483647 := by
                      rw [e27002]
                      exact wI_w _
                    refine wp_of e88 c88_163 (xp_I (pc' := 166) lf_4_62 w26995 g0 sh_12 (by decide) (by decide) ty_12_5 rfl rfl (by omega) (by omega) ⟨by omega, by omega⟩ rfl (fun H27004 e27005 w27006 => ?_))
                    have f27007 := f26996.put' e27005 g0 rfl
                    have f27008 := f26997.put' e27005 g0 rfl
                    have f27009 := f26998.put' e27005 g0 rfl
                    have k27010 : H27004 r0 5 = v27001 := wq_u_s e27005
                    refine wp_of e88 c88_166 (rw_aload_n (pc' := 167) (v := .ref r0) rfl rfl rfl ?_)
                    refine wp_of e88 c88_167 (rw_dup (pc' := 168) rfl rfl ?_)
                    refine wp_of e88 c88_168 (xg_L (pc' := 171) lf_4_66 w27006 g0 sh_12 (by decide) (by decide) ty_12_6 rfl rfl (fun b27011 b27012 => ?_))
                    refine wp_of e88 c88_171 (rw_lload (pc' := 173) (z := v26357) rfl rfl ?_)
                    refine wp_of e88 c88_173 (rw_laddw (pc' := 174) rfl ?_)
                    obtain ⟨v27013, e27014⟩ : ∃ x : Int, x = wl_w ((H27004 r0 6) + v26357) := ⟨_, rfl⟩
                    rw [← e27014]
                    have b27015 : -9223372036854775808 ≤ v27013 ∧ v27013 ≤ 9223372036854775807 := by
                      rw [e27014]
                      exact wL_w _
                    refine wp_of e88 c88_174 (xp_L (pc' := 177) lf_4_66 w27006 g0 sh_12 (by decide) (by decide) ty_12_6 rfl rfl (by omega) (by omega) ⟨by omega, by omega⟩ rfl (fun H27016 e27017 w27018 => ?_))
                    have f27019 := f27007.put' e27017 g0 rfl
                    have f27020 := f27008.put' e27017 g0 rfl
                    have f27021 := f27009.put' e27017 g0 rfl
                    have k27022 : H27016 r0 6 = v27013 := wq_u_s e27017
                    refine wp_of e88 c88_177 (rw_lload (pc' := 179) (z := v26357) rfl rfl ?_)
                    refine wp_of e88 c88_179 (rw_aload_n (pc' := 180) (v := .ref r0) rfl rfl rfl ?_)
                    refine wp_of e88 c88_180 (xg_L (pc' := 183) lf_4_72 w27018 g0 sh_12 (by decide) (by decide) ty_12_8 rfl rfl (fun b27023 b27024 => ?_))
                    refine wp_of e88 c88_183 (rw_lcmp (pc' := 184) rfl ⟨by omega, by omega⟩ ⟨by omega, by omega⟩ ?_)
                    have b27025 := wq_cmp_b v26357 (H27016 r0 8)
                    refine wp_of e88 c88_184 (rw_if_le (p1 := 198) (p2 := 187) (by decide) rfl ⟨by omega, by omega⟩ (fun c27026 => ?_) (fun c27026 => ?_))
                    · exact wp_return e88 c88_198 rfl ⟨rfl, w27018, f27019, rfl⟩
                    · refine wp_of e88 c88_187 (rw_aload_n (pc' := 188) (v := .ref r0) rfl rfl rfl ?_)
                      refine wp_of e88 c88_188 (rw_lload (pc' := 190) (z := v26357) rfl rfl ?_)
                      refine wp_of e88 c88_190 (xp_L (pc' := 193) lf_4_72 w27018 g0 sh_12 (by decide) (by decide) ty_12_8 rfl rfl (by omega) (by omega) ⟨by omega, by omega⟩ rfl (fun H27027 e27028 w27029 => ?_))
                      have f27030 := f27019.put' e27028 g0 rfl
                      have f27031 := f27020.put' e27028 g0 rfl
                      have f27032 := f27021.put' e27028 g0 rfl
                      have k27033 : H27027 r0 8 = v26357 := wq_u_s e27028
                      refine wp_of e88 c88_193 (rw_aload_n (pc' := 194) (v := .ref r0) rfl rfl rfl ?_)
                      refine wp_of e88 c88_194 (rw_iload_n (pc' := 195) (z := a3) rfl rfl ?_)
                      refine wp_of e88 c88_195 (xp_I (pc' := 198) lf_4_69 w27029 g0 sh_12 (by decide) (by decide) ty_12_7 rfl rfl (by omega) (by omega) ⟨by omega, by omega⟩ rfl (fun H27034 e27035 w27036 => ?_))
                      have f27037 := f27030.put' e27035 g0 rfl
                      have f27038 := f27031.put' e27035 g0 rfl
                      have f27039 := f27032.put' e27035 g0 rfl
                      have k27040 : H27034 r0 7 = a3 := wq_u_s e27035
                      exact wp_return e88 c88_198 rfl ⟨rfl, w27036, f27037, rfl⟩
                  · refine wp_of e88 c88_110 (rw_aload_n (pc' := 111) (v := .ref r0) rfl rfl rfl ?_)
                    refine wp_of e88 c88_111 (rw_aload_n (pc' := 112) (v := .ref r1) rfl rfl rfl ?_)
                    refine wp_of e88 c88_112 (xg_R (pc' := 115) lf_4_94 w26967 g1 sh_27 (by decide) (by decide) ty_27_2 rfl rfl (fun r27041 q27042 g27043 => ?_))
                    refine wp_of e88 c88_115 (rw_iload (pc' := 117) (z := v26965) rfl rfl ?_)
                    refine wp_of e88 c88_117 (xa_I (so := 0) (pc' := 118) w26967 g27043 sh_30 (by decide) (ty_30 _) (by omega) (by omega) rfl (fun b27044 b27045 => ?_))
                    refine wp_of e88 c88_118 (rw_aload_n (pc' := 119) (v := .ref r2) rfl rfl rfl ?_)
                    refine wp_of e88 c88_119 (rw_aload_n (pc' := 120) (v := .ref r1) rfl rfl rfl ?_)
                    refine wp_of e88 c88_120 (xg_K (pc' := 123) lf_4_94 w26967 g1 sh_27 (by decide) (by decide) rfl q27042 rfl ?_)
                    refine wp_of e88 c88_123 (rw_iload (pc' := 125) (z := v26965) rfl rfl ?_)
                    refine wp_of e88 c88_125 (xa_I (so := 0) (pc' := 126) w26967 g27043 sh_30 (by decide) (ty_30 _) (by omega) (by omega) rfl (fun b27046 b27047 => ?_))
                    refine wp_of e88 c88_126 (xc_V (pc' := 129) (r := r2) (as := [vI (H26966 r27041 v26965.toNat)]) (st := [vI (H26966 r27041 v26965.toNat), .ref r0]) (lm_4_97) rfl rfl (Nat.le_of_ble_eq_true rfl) w26967 g2 sh_6 (by decide) rfl (by decide) (s_72 w26967 g2 ⟨by omega, by omega⟩) (fun R27048 T27049 H27050 p27051 => ?_))
                    obtain ⟨e27052, e27054, z27055, e27053, b27056⟩ := p27051
                    subst e27052
                    subst e27053
                    subst e27054
                    show wp _ _ 88 129 [(6, vI v26965), (4, vL v26357), (0, .ref r0), (1, .ref r1), (2, .ref r2), (3, vI a3)] [vI z27055, vI (H26966 r27041 v26965.toNat), .ref r0] _ H26966 _
                    refine wp_of e88 c88_129 (xc_V (pc' := 132) (r := r0) (as := [vI (H26966 r27041 v26965.toNat), vI z27055]) (st := []) (lm_4_100) rfl rfl (Nat.le_of_ble_eq_true rfl) w26967 g0 sh_12 (by decide) rfl (by decide) (s_90 w26967 g0 ⟨by omega, by omega⟩ ⟨by omega, by omega⟩) (fun R27057 T27058 H27059 p27060 => ?_))
                    obtain ⟨e27061, w27063, f27064, e27062⟩ := p27060
                    subst e27061
                    subst e27062
                    have f27065 := f26971.tr f27064 rfl
                    have f27066 := f26972.tr f27064 rfl
                    have f27067 := f26968.tr f27064 rfl
                    show wp _ _ 88 132 [(6, vI v26965), (4, vL v26357), (0, .ref r0), (1, .ref r1), (2, .ref r2), (3, vI a3)] [] _ H27059 _
                    refine wp_of e88 c88_132 (rw_iinc (pc' := 135) (z := v26965) (L' := [(6, vI (v26965 + 1)), (4, vL v26357), (0, .ref r0), (1, .ref r1), (2, .ref r2), (3, vI a3)]) rfl rfl rfl rfl ?_)
                    refine wp_of e88 c88_135 (rw_goto (p1 := 101) (by decide) ?_)
                    exact wp_lc (ks := [6, 4, 0, 1, 2, 3]) (wl_c rfl (wl_c rfl (wl_c rfl (wl_c rfl (wl_c rfl (wl_c rfl wl_n)))))) rfl (by decide) (ih26964 _ (by omega) (v26965 + 1) H27059 w27063 f27067 ⟨by omega, by omega⟩ rfl)
              exact wp_lc (ks := [6, 4, 0, 1, 2, 3]) (wl_c rfl (wl_c rfl (wl_c rfl (wl_c rfl (wl_c rfl (wl_c rfl wl_n)))))) rfl (by decide) (lp26962 _ 0 H26720 w26721 wfr.rf ⟨by omega, by omega⟩ rfl)
            · refine wp_of e88 c88_55 (rw_aload_n (pc' := 56) (v := .ref r0) rfl rfl rfl ?_)
              refine wp_of e88 c88_56 (xg_R (pc' := 59) lf_4_17 w26721 g0 sh_12 (by decide) (by decide) ty_12_1 rfl rfl (fun r27068 q27069 g27070 => ?_))
              refine wp_of e88 c88_59 (rw_iload (pc' := 61) (z := v26719) rfl rfl ?_)
              refine wp_of e88 c88_61 (xa_R (pc' := 62) (by decide) w26721 g27070 sh_14 (by decide) (ty_14 _) (by omega) (by omega) rfl (fun r27071 q27072 g27073 => ?_))
              refine wp_of e88 c88_62 (rw_aload_n (pc' := 63) (v := .ref r2) rfl rfl rfl ?_)
              refine wp_of e88 c88_63 (rw_iload (pc' := 65) (z := v26719) rfl rfl ?_)
              refine wp_of e88 c88_65 (xc_V (pc' := 68) (r := r2) (as := [vI v26719]) (st := [.ref r27071]) (lm_4_82) rfl rfl (Nat.le_of_ble_eq_true rfl) w26721 g2 sh_6 (by decide) rfl (by decide) (s_89 w26721 g2 ⟨by omega, by omega⟩) (fun R27074 T27075 H27076 p27077 => ?_))
              obtain ⟨e27078, e27080, z27081, e27079, b27082⟩ := p27077
              subst e27078
              subst e27079
              subst e27080
              show wp _ _ 88 68 [(6, vI v26719), (4, vL v26357), (0, .ref r0), (1, .ref r1), (2, .ref r2), (3, vI a3)] [vI z27081, .ref r27071] _ H26720 _
              refine wp_of e88 c88_68 (rw_dup2 (pc' := 69) rfl rfl rfl ?_)
              refine wp_of e88 c88_69 (xa_I (so := 0) (pc' := 70) w26721 g27073 sh_15 (by decide) (ty_15 _) (by omega) (by omega) rfl (fun b27083 b27084 => ?_))
              refine wp_of e88 c88_70 (rw_iconst (pc' := 71) rfl ?_)
              refine wp_of e88 c88_71 (rw_iaddw (pc' := 72) rfl ?_)
              obtain ⟨v27085, e27086⟩ : ∃ x : Int, x = wq_w ((H26720 r27071 z27081.toNat) + 1) := ⟨_, rfl⟩
              rw [← e27086]
              have b27087 : -2147483648 ≤ v27085 ∧ v27085 ≤ 2147483647 := by
                rw [e27086]
                exact wI_w _
              refine wp_of e88 c88_72 (xs_I (pc' := 73) w26721 g27073 (by decide) sh_15 (by decide) (ty_15 _) (by omega) (by omega) ⟨by omega, by omega⟩ (by omega) (by omega) rfl (fun H27088 e27089 w27090 => ?_))
              have f27091 := f26725.put' e27089 g27073 rfl
              have f27092 := f26722.put' e27089 g27073 rfl
              refine wp_of e88 c88_73 (rw_aload_n (pc' := 74) (v := .ref r0) rfl rfl rfl ?_)
              refine wp_of e88 c88_74 (xg_R (pc' := 77) lf_4_22 w27090 g0 sh_12 (by decide) (by decide) ty_12_2 rfl rfl (fun r27093 q27094 g27095 => ?_))
              refine wp_of e88 c88_77 (rw_iload (pc' := 79) (z := v26719) rfl rfl ?_)
              refine wp_of e88 c88_79 (xa_R (pc' := 80) (by decide) w27090 g27095 sh_16 (by decide) (ty_16 _) (by omega) (by omega) rfl (fun r27096 q27097 g27098 => ?_))
              refine wp_of e88 c88_80 (rw_aload_n (pc' := 81) (v := .ref r2) rfl rfl rfl ?_)
              refine wp_of e88 c88_81 (rw_iload (pc' := 83) (z := v26719) rfl rfl ?_)
              refine wp_of e88 c88_83 (xc_V (pc' := 86) (r := r2) (as := [vI v26719]) (st := [.ref r27096]) (lm_4_82) rfl rfl (Nat.le_of_ble_eq_true rfl) w27090 g2 sh_6 (by decide) rfl (by decide) (s_89 w27090 g2 ⟨by omega, by omega⟩) (fun R27099 T27100 H27101 p27102 => ?_))
              obtain ⟨e27103, e27105, z27106, e27104, b27107⟩ := p27102
              subst e27103
              subst e27104
              subst e27105
              show wp _ _ 88 86 [(6, vI v26719), (4, vL v26357), (0, .ref r0), (1, .ref r1), (2, .ref r2), (3, vI a3)] [vI z27106, .ref r27096] _ H27088 _
              refine wp_of e88 c88_86 (rw_dup2 (pc' := 87) rfl rfl rfl ?_)
              refine wp_of e88 c88_87 (xa_L (pc' := 88) w27090 g27098 sh_17 (by decide) (ty_17 _) (by omega) (by omega) rfl (fun b27108 b27109 => ?_))
              refine wp_of e88 c88_88 (rw_lload (pc' := 90) (z := v26357) rfl rfl ?_)
              refine wp_of e88 c88_90 (rw_laddw (pc' := 91) rfl ?_)
              obtain ⟨v27110, e27111⟩ : ∃ x : Int, x = wl_w ((H27088 r27096 z27106.toNat) + v26357) := ⟨_, rfl⟩
              rw [← e27111]
              have b27112 : -9223372036854775808 ≤ v27110 ∧ v27110 ≤ 9223372036854775807 := by
                rw [e27111]
                exact wL_w _
              refine wp_of e88 c88_91 (xs_L (pc' := 92) w27090 g27098 (by decide) sh_17 (by decide) (ty_17 _) (by omega) (by omega) ⟨by omega, by omega⟩ (by omega) (by omega) rfl (fun H27113 e27114 w27115 => ?_))
              have f27116 := f27091.put' e27114 g27098 rfl
              have f27117 := f27092.put' e27114 g27098 rfl
              refine wp_of e88 c88_92 (rw_iinc (pc' := 95) (z := v26719) (L' := [(6, vI (v26719 + 1)), (4, vL v26357), (0, .ref r0), (1, .ref r1), (2, .ref r2), (3, vI a3)]) rfl rfl rfl rfl ?_)
              refine wp_of e88 c88_95 (rw_goto (p1 := 46) (by decide) ?_)
              exact wp_lc (ks := [6, 4, 0, 1, 2, 3]) (wl_c rfl (wl_c rfl (wl_c rfl (wl_c rfl (wl_c rfl (wl_c rfl wl_n)))))) rfl (by decide) (ih26718 _ (by omega) (v26719 + 1) H27113 w27115 f27117 ⟨by omega, by omega⟩ rfl)
        exact wp_lc (ks := [6, 4, 0, 1, 2, 3]) (wl_c rfl (wl_c rfl (wl_c rfl (wl_c rfl (wl_c rfl (wl_c rfl wl_n)))))) rfl (by decide) (lp26716 _ 0 H hW wfr.rf ⟨by omega, by omega⟩ rfl)
      · refine wp_of e88 c88_15 (rw_lload (pc' := 17) (z := v26357) rfl rfl ?_)
        refine wp_of e88 c88_17 (rw_aload_n (pc' := 18) (v := .ref r1) rfl rfl rfl ?_)
        refine wp_of e88 c88_18 (xg_R (pc' := 21) lf_4_78 hW g1 sh_27 (by decide) (by decide) ty_27_0 rfl rfl (fun r27118 q27119 g27120 => ?_))
        refine wp_of e88 c88_21 (rw_iload (pc' := 23) (z := v26356) rfl rfl ?_)
        refine wp_of e88 c88_23 (xa_R (pc' := 24) (by decide) hW g27120 sh_28 (by decide) (ty_28 _) (by omega) (by omega) rfl (fun r27121 q27122 g27123 => ?_))
        refine wp_of e88 c88_24 (rw_aload_n (pc' := 25) (v := .ref r2) rfl rfl rfl ?_)
        refine wp_of e88 c88_25 (rw_iload (pc' := 27) (z := v26356) rfl rfl ?_)
        refine wp_of e88 c88_27 (xc_V (pc' := 30) (r := r2) (as := [vI v26356]) (st := [.ref r27121, vL v26357]) (lm_4_82) rfl rfl (Nat.le_of_ble_eq_true rfl) hW g2 sh_6 (by decide) rfl (by decide) (s_89 hW g2 ⟨by omega, by omega⟩) (fun R27124 T27125 H27126 p27127 => ?_))
        obtain ⟨e27128, e27130, z27131, e27129, b27132⟩ := p27127
        subst e27128
        subst e27129
        subst e27130
        show wp _ _ 88 30 [(6, vI v26356), (4, vL v26357), (0, .ref r0), (1, .ref r1), (2, .ref r2), (3, vI a3)] [vI z27131, .ref r27121, vL v26357] _ H _
        refine wp_of e88 c88_30 (xc_V (pc' := 33) (r := r27121) (as := [vI z27131]) (st := [vL v26357]) (lm_4_86) rfl rfl (Nat.le_of_ble_eq_true rfl) hW g27123 sh_35 (by decide) rfl (by decide) (s_58 hW g27123 ⟨by omega, by omega⟩) (fun R27133 T27134 H27135 p27136 => ?_))
        obtain ⟨e27137, e27139, z27140, e27138, b27141⟩ := p27136
        subst e27137
        subst e27138
        subst e27139
        show wp _ _ 88 33 [(6, vI v26356), (4, vL v26357), (0, .ref r0), (1, .ref r1), (2, .ref r2), (3, vI a3)] [vI z27140, vL v26357] _ H _
        refine wp_of e88 c88_33 (rw_i2l (pc' := 34) rfl ⟨by omega, by omega⟩ ?_)
        refine wp_of e88 c88_34 (rw_lmulw (pc' := 35) rfl ?_)
        obtain ⟨v27142, e27143⟩ : ∃ x : Int, x = wl_w (v26357 * z27140) := ⟨_, rfl⟩
        rw [← e27143]
        have b27144 : -9223372036854775808 ≤ v27142 ∧ v27142 ≤ 9223372036854775807 := by
          rw [e27143]
          exact wL_w _
        refine wp_of e88 c88_35 (rw_lstore (pc' := 37) (z := v27142) (L' := [(4, vL v27142), (6, vI v26356), (0, .ref r0), (1, .ref r1), (2, .ref r2), (3, vI a3)]) rfl rfl rfl ?_)
        refine wp_of e88 c88_37 (rw_iinc (pc' := 40) (z := v26356) (L' := [(6, vI (v26356 + 1)), (4, vL v27142), (0, .ref r0), (1, .ref r1), (2, .ref r2), (3, vI a3)]) rfl rfl rfl rfl ?_)
        refine wp_of e88 c88_40 (rw_goto (p1 := 6) (by decide) ?_)
        exact wp_lc (ks := [6, 4, 0, 1, 2, 3]) (wl_c rfl (wl_c rfl (wl_c rfl (wl_c rfl (wl_c rfl (wl_c rfl wl_n)))))) rfl (by decide) (ih26355 _ (by omega) (v26356 + 1) v27142 ⟨by omega, by omega⟩ ⟨by omega, by omega⟩ rfl)
  exact wp_lc (ks := [6, 4, 0, 1, 2, 3]) (wl_c rfl (wl_c rfl (wl_c rfl (wl_c rfl (wl_c rfl (wl_c rfl wl_n)))))) rfl (by decide) (lp26353 _ 0 1 ⟨by omega, by omega⟩ ⟨by omega, by omega⟩ rfl)
/-! StrikeAwake$Walk.step(LStrikeAwake$Parish;)V -/
theorem e91 : wq_en 91 = some (3, 4, false, none) := rfl
theorem c91_0 : mc_cd 91 0 = some (.iconst 0, 1) := by decide +kernel
theorem c91_1 : mc_cd 91 1 = some (.istore_n 2, 1) := by decide +kernel
theorem c91_2 : mc_cd 91 2 = some (.aload_n 0, 1) := by decide +kernel
theorem c91_3 : mc_cd 91 3 = some (.getfield 51, 3) := by decide +kernel
theorem c91_6 : mc_cd 91 6 = some (.iconst 1, 1) := by decide +kernel
theorem c91_7 : mc_cd 91 7 = some (.isub, 1) := by decide +kernel
theorem c91_8 : mc_cd 91 8 = some (.istore_n 3, 1) := by decide +kernel
theorem c91_9 : mc_cd 91 9 = some (.iload_n 3, 1) := by decide +kernel
theorem c91_10 : mc_cd 91 10 = some (.ifCond .lt 49, 3) := by decide +kernel
theorem c91_13 : mc_cd 91 13 = some (.aload_n 0, 1) := by decide +kernel
theorem c91_14 : mc_cd 91 14 = some (.getfield 9, 3) := by decide +kernel
theorem c91_17 : mc_cd 91 17 = some (.iload_n 3, 1) := by decide +kernel
theorem c91_18 : mc_cd 91 18 = some (.dup2, 1) := by decide +kernel
theorem c91_19 : mc_cd 91 19 = some (.iaload, 1) := by decide +kernel
theorem c91_20 : mc_cd 91 20 = some (.iconst 1, 1) := by decide +kernel
theorem c91_21 : mc_cd 91 21 = some (.iadd, 1) := by decide +kernel
theorem c91_22 : mc_cd 91 22 = some (.iastore, 1) := by decide +kernel
theorem c91_23 : mc_cd 91 23 = some (.aload_n 0, 1) := by decide +kernel
theorem c91_24 : mc_cd 91 24 = some (.getfield 9, 3) := by decide +kernel
theorem c91_27 : mc_cd 91 27 = some (.iload_n 3, 1) := by decide +kernel
theorem c91_28 : mc_cd 91 28 = some (.iaload, 1) := by decide +kernel
theorem c91_29 : mc_cd 91 29 = some (.aload_n 1, 1) := by decide +kernel
theorem c91_30 : mc_cd 91 30 = some (.getfield 42, 3) := by decide +kernel
theorem c91_33 : mc_cd 91 33 = some (.iload_n 3, 1) := by decide +kernel
theorem c91_34 : mc_cd 91 34 = some (.aaload, 1) := by decide +kernel
theorem c91_35 : mc_cd 91 35 = some (.getfield 52, 3) := by decide +kernel
theorem c91_38 : mc_cd 91 38 = some (.if_icmp .ge 8, 3) := by decide +kernel
theorem c91_41 : mc_cd 91 41 = some (.iload_n 3, 1) := by decide +kernel
theorem c91_42 : mc_cd 91 42 = some (.istore_n 2, 1) := by decide +kernel
theorem c91_43 : mc_cd 91 43 = some (.goto 16, 3) := by decide +kernel
theorem c91_46 : mc_cd 91 46 = some (.aload_n 0, 1) := by decide +kernel
theorem c91_47 : mc_cd 91 47 = some (.getfield 9, 3) := by decide +kernel
theorem c91_50 : mc_cd 91 50 = some (.iload_n 3, 1) := by decide +kernel
theorem c91_51 : mc_cd 91 51 = some (.iconst 0, 1) := by decide +kernel
theorem c91_52 : mc_cd 91 52 = some (.iastore, 1) := by decide +kernel
theorem c91_53 : mc_cd 91 53 = some (.iinc 3 (-1), 3) := by decide +kernel
theorem c91_56 : mc_cd 91 56 = some (.goto (-47), 3) := by decide +kernel
theorem c91_59 : mc_cd 91 59 = some (.aload_n 0, 1) := by decide +kernel
theorem c91_60 : mc_cd 91 60 = some (.aload_n 1, 1) := by decide +kernel
theorem c91_61 : mc_cd 91 61 = some (.iload_n 2, 1) := by decide +kernel
theorem c91_62 : mc_cd 91 62 = some (.invokevirtual 32, 3) := by decide +kernel
theorem c91_65 : mc_cd 91 65 = some (.return_, 1) := by decide +kernel
abbrev q_91 (r0 : Nat) (r1 : Nat) (T : wq_T) (H : wq_H) : Option Value → wq_T → wq_H → Prop := fun r T' H' => T = T' ∧ WT T H' ∧ wfr [(8, 999), (10, 999), (9, 999), (7, 999), (11, 999)] T H H' ∧ none = r
set_option maxHeartbeats 4000000 in
theorem s_91 {kt : Nat → Option mc_E} {T : wq_T} {H : wq_H} {r0 : Nat} {r1 : Nat} (hW : WT T H) (g0 : T.2.2.2 r0 = some 6) (g1 : T.2.2.2 r1 = some 27) : wpc kt 3 91 [.ref r0, .ref r1] T H (q_91 r0 r1 T H) := by
  refine wp_enter e91 (Nat.le_of_ble_eq_true rfl) rfl ?_
  have f0 : wfr [(8, 999), (10, 999), (9, 999), (7, 999), (11, 999)] T H H := wfr.rf
  show wp _ _ 91 0 [(0, .ref r0), (1, .ref r1)] [] _ H _
  refine wp_of e91 c91_0 (rw_iconst (pc' := 1) rfl ?_)
  refine wp_of e91 c91_1 (rw_istore_n (pc' := 2) (z := 0) (L' := [(2, vI 0), (0, .ref r0), (1, .ref r1)]) rfl rfl rfl ?_)
  refine wp_of e91 c91_2 (rw_aload_n (pc' := 3) (v := .ref r0) rfl rfl rfl ?_)
  refine wp_of e91 c91_3 (xg_I (pc' := 6) lf_3_51 hW g0 sh_6 (by decide) (by decide) ty_6_5 rfl rfl (fun b27247 b27248 => ?_))
  refine wp_of e91 c91_6 (rw_iconst (pc' := 7) rfl ?_)
  refine wp_of e91 c91_7 (rw_isub (pc' := 8) rfl ?_)
  refine wp_of e91 c91_8 (rw_istore_n (pc' := 9) (z := (H r0 5) - 1) (L' := [(3, vI ((H r0 5) - 1)), (2, vI 0), (0, .ref r0), (1, .ref r1)]) rfl rfl rfl ?_)
  have lp27303 : ∀ (n27304 : Nat) (v27306 : Int) (H27307 : wq_H), WT T H27307 → wfr [(7, 999)] T H H27307 → ((-1) ≤ v27306 ∧ v27306 ≤ 5) → (v27306 - (-1)).toNat = n27304 → wp kt 2 91 9 [(3, vI v27306), (2, vI 0), (0, .ref r0), (1, .ref r1)] [] T H27307 (q_91 r0 r1 T H) := by
    intro n27304
    induction n27304 using Nat.strongRecOn with
    | _ n27304 ih27305 =>
      intro v27306 H27307 w27308 f27309 b27310 m27311
      have f27312 := f0.tr f27309 rfl
      refine wp_of e91 c91_9 (rw_iload_n (pc' := 10) (z := v27306) rfl rfl ?_)
      refine wp_of e91 c91_10 (rw_if_lt (p1 := 59) (p2 := 13) (by decide) rfl ⟨by omega, by omega⟩ (fun c27313 => ?_) (fun c27313 => ?_))
      · refine wp_of e91 c91_59 (rw_aload_n (pc' := 60) (v := .ref r0) rfl rfl rfl ?_)
        refine wp_of e91 c91_60 (rw_aload_n (pc' := 61) (v := .ref r1) rfl rfl rfl ?_)
        refine wp_of e91 c91_61 (rw_iload_n (pc' := 62) (z := 0) rfl rfl ?_)
        refine wp_of e91 c91_62 (xc_V (pc' := 65) (r := r0) (as := [.ref r1, vI 0]) (st := []) (lm_3_32) rfl rfl (Nat.le_of_ble_eq_true rfl) w27308 g0 sh_6 (by decide) rfl (by decide) (s_70 w27308 g0 g1 ⟨by omega, by omega⟩) (fun R27314 T27315 H27316 p27317 => ?_))
        obtain ⟨e27318, w27320, f27321, e27319⟩ := p27317
        subst e27318
        subst e27319
        have f27322 := f27312.tr f27321 rfl
        have f27323 := f27309.tr f27321 rfl
        show wp _ _ 91 65 [(3, vI v27306), (2, vI 0), (0, .ref r0), (1, .ref r1)] [] _ H27316 _
        exact wp_return e91 c91_65 rfl ⟨rfl, w27320, f27322, rfl⟩
      · refine wp_of e91 c91_13 (rw_aload_n (pc' := 14) (v := .ref r0) rfl rfl rfl ?_)
        refine wp_of e91 c91_14 (xg_R (pc' := 17) lf_3_9 w27308 g0 sh_6 (by decide) (by decide) ty_6_0 rfl rfl (fun r27324 q27325 g27326 => ?_))
        refine wp_of e91 c91_17 (rw_iload_n (pc' := 18) (z := v27306) rfl rfl ?_)
        refine wp_of e91 c91_18 (rw_dup2 (pc' := 19) rfl rfl rfl ?_)
        refine wp_of e91 c91_19 (xa_I (so := 0) (pc' := 20) w27308 g27326 sh_7 (by decide) (ty_7 _) (by omega) (by omega) rfl (fun b27327 b27328 => ?_))
        refine wp_of e91 c91_20 (rw_iconst (pc' := 21) rfl ?_)
        refine wp_of e91 c91_21 (rw_iadd (pc' := 22) rfl ?_)
        refine wp_of e91 c91_22 (xs_I (pc' := 23) w27308 g27326 (by decide) sh_7 (by decide) (ty_7 _) (by omega) (by omega) ⟨by omega, by omega⟩ (by omega) (by omega) rfl (fun H27329 e27330 w27331 => ?_))
        have f27332 := f27312.put' e27330 g27326 rfl
        have f27333 := f27309.put' e27330 g27326 rfl
        refine wp_of e91 c91_23 (rw_aload_n (pc' := 24) (v := .ref r0) rfl rfl rfl ?_)
        have k27334 : H27329 r0 0 = H27307 r0 0 := (wq_u_t e27330 g27326 g0 rfl 0)
        have q27335 : H27329 r0 0 = (r27324 : Int) := k27334.trans q27325
        refine wp_of e91 c91_24 (xg_K (pc' := 27) lf_3_9 w27331 g0 sh_6 (by decide) (by decide) rfl q27335 rfl ?_)
        refine wp_of e91 c91_27 (rw_iload_n (pc' := 28) (z := v27306) rfl rfl ?_)
        refine wp_of e91 c91_28 (xa_I (so := 0) (pc' := 29) w27331 g27326 sh_7 (by decide) (ty_7 _) (by omega) (by omega) rfl (fun b27336 b27337 => ?_))
        refine wp_of e91 c91_29 (rw_aload_n (pc' := 30) (v := .ref r1) rfl rfl rfl ?_)
        refine wp_of e91 c91_30 (xg_R (pc' := 33) lf_3_42 w27331 g1 sh_27 (by decide) (by decide) ty_27_0 rfl rfl (fun r27338 q27339 g27340 => ?_))
        refine wp_of e91 c91_33 (rw_iload_n (pc' := 34) (z := v27306) rfl rfl ?_)
        refine wp_of e91 c91_34 (xa_R (pc' := 35) (by decide) w27331 g27340 sh_28 (by decide) (ty_28 _) (by omega) (by omega) rfl (fun r27341 q27342 g27343 => ?_))
        refine wp_of e91 c91_35 (xg_I (pc' := 38) lf_3_52 w27331 g27343 sh_35 (by decide) (by decide) ty_35_15 rfl rfl (fun b27344 b27345 => ?_))
        refine wp_of e91 c91_38 (rw_icmp_ge (p1 := 46) (p2 := 41) (by decide) rfl ⟨by omega, by omega⟩ ⟨by omega, by omega⟩ (fun c27346 => ?_) (fun c27346 => ?_))
        · refine wp_of e91 c91_46 (rw_aload_n (pc' := 47) (v := .ref r0) rfl rfl rfl ?_)
          refine wp_of e91 c91_47 (xg_K (pc' := 50) lf_3_9 w27331 g0 sh_6 (by decide) (by decide) rfl q27335 rfl ?_)
          refine wp_of e91 c91_50 (rw_iload_n (pc' := 51) (z := v27306) rfl rfl ?_)
          refine wp_of e91 c91_51 (rw_iconst (pc' := 52) rfl ?_)
          refine wp_of e91 c91_52 (xs_I (pc' := 53) w27331 g27326 (by decide) sh_7 (by decide) (ty_7 _) (by omega) (by omega) ⟨by omega, by omega⟩ (by omega) (by omega) rfl (fun H27347 e27348 w27349 => ?_))
          have f27350 := f27332.put' e27348 g27326 rfl
          have f27351 := f27333.put' e27348 g27326 rfl
          refine wp_of e91 c91_53 (rw_iinc (pc' := 56) (z := v27306) (L' := [(3, vI (v27306 + (-1))), (2, vI 0), (0, .ref r0), (1, .ref r1)]) rfl rfl rfl rfl ?_)
          refine wp_of e91 c91_56 (rw_goto (p1 := 9) (by decide) ?_)
          exact wp_lc (ks := [3, 2, 0, 1]) (wl_c rfl (wl_c rfl (wl_c rfl (wl_c rfl wl_n)))) rfl (by decide) (ih27305 _ (by omega) (v27306 + (-1)) H27347 w27349 f27351 ⟨by omega, by omega⟩ rfl)
        · refine wp_of e91 c91_41 (rw_iload_n (pc' := 42) (z := v27306) rfl rfl ?_)
          refine wp_of e91 c91_42 (rw_istore_n (pc' := 43) (z := v27306) (L' := [(2, vI v27306), (3, vI v27306), (0, .ref r0), (1, .ref r1)]) rfl rfl rfl ?_)
          refine wp_of e91 c91_43 (rw_goto (p1 := 59) (by decide) ?_)
          refine wp_of e91 c91_59 (rw_aload_n (pc' := 60) (v := .ref r0) rfl rfl rfl ?_)
          refine wp_of e91 c91_60 (rw_aload_n (pc' := 61) (v := .ref r1) rfl rfl rfl ?_)
          refine wp_of e91 c91_61 (rw_iload_n (pc' := 62) (z := v27306) rfl rfl ?_)
          refine wp_of e91 c91_62 (xc_V (pc' := 65) (r := r0) (as := [.ref r1, vI v27306]) (st := []) (lm_3_32) rfl rfl (Nat.le_of_ble_eq_true rfl) w27331 g0 sh_6 (by decide) rfl (by decide) (s_70 w27331 g0 g1 ⟨by omega, by omega⟩) (fun R27352 T27353 H27354 p27355 => ?_))
          obtain ⟨e27356, w27358, f27359, e27357⟩ := p27355
          subst e27356
          subst e27357
          have f27360 := f27332.tr f27359 rfl
          have f27361 := f27333.tr f27359 rfl
          show wp _ _ 91 65 [(2, vI v27306), (3, vI v27306), (0, .ref r0), (1, .ref r1)] [] _ H27354 _
          exact wp_return e91 c91_65 rfl ⟨rfl, w27358, f27360, rfl⟩
  exact wp_lc (ks := [3, 2, 0, 1]) (wl_c rfl (wl_c rfl (wl_c rfl (wl_c rfl wl_n)))) rfl (by decide) (lp27303 _ ((H r0 5) - 1) H hW wfr.rf ⟨by omega, by omega⟩ rfl)
/-! StrikeAwake$Census.renew(LStrikeAwake$Parish;LStrikeAwake$Walk;)V -/
theorem e85 : wq_en 85 = some (4, 4, false, none) := rfl
theorem c85_0 : mc_cd 85 0 = some (.aload_n 0, 1) := by decide +kernel
theorem c85_1 : mc_cd 85 1 = some (.getfield 32, 3) := by decide +kernel
theorem c85_4 : mc_cd 85 4 = some (.ifCond .eq 4, 3) := by decide +kernel
theorem c85_7 : mc_cd 85 7 = some (.return_, 1) := by decide +kernel
theorem c85_8 : mc_cd 85 8 = some (.aload_n 0, 1) := by decide +kernel
theorem c85_9 : mc_cd 85 9 = some (.invokevirtual 36, 3) := by decide +kernel
theorem c85_12 : mc_cd 85 12 = some (.aload_n 2, 1) := by decide +kernel
theorem c85_13 : mc_cd 85 13 = some (.aload_n 1, 1) := by decide +kernel
theorem c85_14 : mc_cd 85 14 = some (.invokevirtual 39, 3) := by decide +kernel
theorem c85_17 : mc_cd 85 17 = some (.iconst 0, 1) := by decide +kernel
theorem c85_18 : mc_cd 85 18 = some (.istore_n 3, 1) := by decide +kernel
theorem c85_19 : mc_cd 85 19 = some (.iload_n 3, 1) := by decide +kernel
theorem c85_20 : mc_cd 85 20 = some (.i2l, 1) := by decide +kernel
theorem c85_21 : mc_cd 85 21 = some (.aload_n 1, 1) := by decide +kernel
theorem c85_22 : mc_cd 85 22 = some (.getfield 45, 3) := by decide +kernel
theorem c85_25 : mc_cd 85 25 = some (.lcmp, 1) := by decide +kernel
theorem c85_26 : mc_cd 85 26 = some (.ifCond .ge 36, 3) := by decide +kernel
theorem c85_29 : mc_cd 85 29 = some (.iload_n 3, 1) := by decide +kernel
theorem c85_30 : mc_cd 85 30 = some (.sipush 20000, 3) := by decide +kernel
theorem c85_33 : mc_cd 85 33 = some (.if_icmp .ge 29, 3) := by decide +kernel
theorem c85_36 : mc_cd 85 36 = some (.aload_n 2, 1) := by decide +kernel
theorem c85_37 : mc_cd 85 37 = some (.aload_n 1, 1) := by decide +kernel
theorem c85_38 : mc_cd 85 38 = some (.invokevirtual 51, 3) := by decide +kernel
theorem c85_41 : mc_cd 85 41 = some (.ifCond .eq 10, 3) := by decide +kernel
theorem c85_44 : mc_cd 85 44 = some (.aload_n 0, 1) := by decide +kernel
theorem c85_45 : mc_cd 85 45 = some (.aload_n 1, 1) := by decide +kernel
theorem c85_46 : mc_cd 85 46 = some (.aload_n 2, 1) := by decide +kernel
theorem c85_47 : mc_cd 85 47 = some (.iload_n 3, 1) := by decide +kernel
theorem c85_48 : mc_cd 85 48 = some (.invokevirtual 55, 3) := by decide +kernel
theorem c85_51 : mc_cd 85 51 = some (.aload_n 2, 1) := by decide +kernel
theorem c85_52 : mc_cd 85 52 = some (.aload_n 1, 1) := by decide +kernel
theorem c85_53 : mc_cd 85 53 = some (.invokevirtual 59, 3) := by decide +kernel
theorem c85_56 : mc_cd 85 56 = some (.iinc 3 1, 3) := by decide +kernel
theorem c85_59 : mc_cd 85 59 = some (.goto (-40), 3) := by decide +kernel
theorem c85_62 : mc_cd 85 62 = some (.aload_n 0, 1) := by decide +kernel
theorem c85_63 : mc_cd 85 63 = some (.iconst 1, 1) := by decide +kernel
theorem c85_64 : mc_cd 85 64 = some (.putfield 32, 3) := by decide +kernel
theorem c85_67 : mc_cd 85 67 = some (.return_, 1) := by decide +kernel
abbrev q_85 (r0 : Nat) (r1 : Nat) (r2 : Nat) (T : wq_T) (H : wq_H) : Option Value → wq_T → wq_H → Prop := fun r T' H' => T = T' ∧ WT T H' ∧ wfr [(12, 5), (12, 6), (12, 7), (12, 8), (12, 9), (6, 5), (8, 999), (10, 999), (15, 999), (9, 999), (18, 999), (19, 999), (7, 999), (11, 999), (17, 999), (13, 999)] T H H' ∧ none = r
set_option maxHeartbeats 4000000 in
theorem s_85 {kt : Nat → Option mc_E} {T : wq_T} {H : wq_H} {r0 : Nat} {r1 : Nat} {r2 : Nat} (hW : WT T H) (g0 : T.2.2.2 r0 = some 12) (g1 : T.2.2.2 r1 = some 27) (g2 : T.2.2.2 r2 = some 6) : wpc kt 4 85 [.ref r0, .ref r1, .ref r2] T H (q_85 r0 r1 r2 T H) := by
  refine wp_enter e85 (Nat.le_of_ble_eq_true rfl) rfl ?_
  have f0 : wfr [(12, 5), (12, 6), (12, 7), (12, 8), (12, 9), (6, 5), (8, 999), (10, 999), (15, 999), (9, 999), (18, 999), (19, 999), (7, 999), (11, 999), (17, 999), (13, 999)] T H H := wfr.rf
  show wp _ _ 85 0 [(0, .ref r0), (1, .ref r1), (2, .ref r2)] [] _ H _
  refine wp_of e85 c85_0 (rw_aload_n (pc' := 1) (v := .ref r0) rfl rfl rfl ?_)
  refine wp_of e85 c85_1 (xg_I (pc' := 4) lf_4_32 hW g0 sh_12 (by decide) (by decide) ty_12_9 rfl rfl (fun b27772 b27773 => ?_))
  refine wp_of e85 c85_4 (rw_if_eq (p1 := 8) (p2 := 7) (by decide) rfl ⟨by omega, by omega⟩ (fun c27774 => ?_) (fun c27774 => ?_))
  · refine wp_of e85 c85_8 (rw_aload_n (pc' := 9) (v := .ref r0) rfl rfl rfl ?_)
    refine wp_of e85 c85_9 (xc_V (pc' := 12) (r := r0) (as := []) (st := []) (lm_4_36) rfl rfl (Nat.le_of_ble_eq_true rfl) hW g0 sh_12 (by decide) rfl (by decide) (s_86 hW g0) (fun R27775 T27776 H27777 p27778 => ?_))
    obtain ⟨e27779, w27781, f27782, e27780⟩ := p27778
    subst e27779
    subst e27780
    have f27783 := f0.tr f27782 rfl
    show wp _ _ 85 12 [(0, .ref r0), (1, .ref r1), (2, .ref r2)] [] _ H27777 _
    refine wp_of e85 c85_12 (rw_aload_n (pc' := 13) (v := .ref r2) rfl rfl rfl ?_)
    refine wp_of e85 c85_13 (rw_aload_n (pc' := 14) (v := .ref r1) rfl rfl rfl ?_)
    refine wp_of e85 c85_14 (xc_V (pc' := 17) (r := r2) (as := [.ref r1]) (st := []) (lm_4_39) rfl rfl (Nat.le_of_ble_eq_true rfl) w27781 g2 sh_6 (by decide) rfl (by decide) (s_87 w27781 g2 g1) (fun R27784 T27785 H27786 p27787 => ?_))
    obtain ⟨e27788, w27790, f27791, e27789⟩ := p27787
    subst e27788
    subst e27789
    have f27792 := f27783.tr f27791 rfl
    show wp _ _ 85 17 [(0, .ref r0), (1, .ref r1), (2, .ref r2)] [] _ H27786 _
    refine wp_of e85 c85_17 (rw_iconst (pc' := 18) rfl ?_)
    refine wp_of e85 c85_18 (rw_istore_n (pc' := 19) (z := 0) (L' := [(3, vI 0), (0, .ref r0), (1, .ref r1), (2, .ref r2)]) rfl rfl rfl ?_)
    have lp28129 : ∀ (n28130 : Nat) (v28132 : Int) (H28133 : wq_H), WT T H28133 → wfr [(12, 5), (12, 6), (12, 7), (12, 8), (8, 999), (10, 999), (15, 999), (9, 999), (18, 999), (19, 999), (7, 999), (11, 999), (17, 999), (13, 999)] T H27786 H28133 → (0 ≤ v28132 ∧ v28132 ≤ 20000) → (20000 - v28132).toNat = n28130 → wp kt 3 85 19 [(3, vI v28132), (0, .ref r0), (1, .ref r1), (2, .ref r2)] [] T H28133 (q_85 r0 r1 r2 T H) := by
      intro n28130
      induction n28130 using Nat.strongRecOn with
      | _ n28130 ih28131 =>
        intro v28132 H28133 w28134 f28135 b28136 m28137
        have f28138 := f27792.tr f28135 rfl
        refine wp_of e85 c85_19 (rw_iload_n (pc' := 20) (z := v28132) rfl rfl ?_)
        refine wp_of e85 c85_20 (rw_i2l (pc' := 21) rfl ⟨by omega, by omega⟩ ?_)
        refine wp_of e85 c85_21 (rw_aload_n (pc' := 22) (v := .ref r1) rfl rfl rfl ?_)
        refine wp_of e85 c85_22 (xg_L (pc' := 25) lf_4_45 w28134 g1 sh_27 (by decide) (by decide) ty_27_18 rfl rfl (fun b28139 b28140 => ?_))
        refine wp_of e85 c85_25 (rw_lcmp (pc' := 26) rfl ⟨by omega, by omega⟩ ⟨by omega, by omega⟩ ?_)
        have b28141 := wq_cmp_b v28132 (H28133 r1 18)
        refine wp_of e85 c85_26 (rw_if_ge (p1 := 62) (p2 := 29) (by decide) rfl ⟨by omega, by omega⟩ (fun c28142 => ?_) (fun c28142 => ?_))
        · refine wp_of e85 c85_62 (rw_aload_n (pc' := 63) (v := .ref r0) rfl rfl rfl ?_)
          refine wp_of e85 c85_63 (rw_iconst (pc' := 64) rfl ?_)
          refine wp_of e85 c85_64 (xp_Z (pc' := 67) lf_4_32 w28134 g0 sh_12 (by decide) (by decide) ty_12_9 rfl rfl (by omega) (by omega) rfl (fun H28143 e28144 w28145 => ?_))
          have f28146 := f28138.put' e28144 g0 rfl
          have f28147 := f28135.put' e28144 g0 rfl
          have k28148 : H28143 r0 9 = 1 := wq_u_s e28144
          exact wp_return e85 c85_67 rfl ⟨rfl, w28145, f28146, rfl⟩
        · refine wp_of e85 c85_29 (rw_iload_n (pc' := 30) (z := v28132) rfl rfl ?_)
          refine wp_of e85 c85_30 (rw_sipush (pc' := 33) (z := 20000) rfl (by decide) ?_)
          refine wp_of e85 c85_33 (rw_icmp_ge (p1 := 62) (p2 := 36) (by decide) rfl ⟨by omega, by omega⟩ ⟨by omega, by omega⟩ (fun c28149 => ?_) (fun c28149 => ?_))
          · refine wp_of e85 c85_62 (rw_aload_n (pc' := 63) (v := .ref r0) rfl rfl rfl ?_)
            refine wp_of e85 c85_63 (rw_iconst (pc' := 64) rfl ?_)
            refine wp_of e85 c85_64 (xp_Z (pc' := 67) lf_4_32 w28134 g0 sh_12 (by decide) (by decide) ty_12_9 rfl rfl (by omega) (by omega) rfl (fun H28150 e28151 w28152 => ?_))
            have f28153 := f28138.put' e28151 g0 rfl
            have f28154 := f28135.put' e28151 g0 rfl
            have k28155 : H28150 r0 9 = 1 := wq_u_s e28151
            exact wp_return e85 c85_67 rfl ⟨rfl, w28152, f28153, rfl⟩
          · refine wp_of e85 c85_36 (rw_aload_n (pc' := 37) (v := .ref r2) rfl rfl rfl ?_)
            refine wp_of e85 c85_37 (rw_aload_n (pc' := 38) (v := .ref r1) rfl rfl rfl ?_)
            refine wp_of e85 c85_38 (xc_V (pc' := 41) (r := r2) (as := [.ref r1]) (st := []) (lm_4_51) rfl rfl (Nat.le_of_ble_eq_true rfl) w28134 g2 sh_6 (by decide) rfl (by decide) (s_79 w28134 g2 g1) (fun R28156 T28157 H28158 p28159 => ?_))
            obtain ⟨e28160, e28162, z28163, e28161, b28164⟩ := p28159
            subst e28160
            subst e28161
            subst e28162
            show wp _ _ 85 41 [(3, vI v28132), (0, .ref r0), (1, .ref r1), (2, .ref r2)] [vI z28163] _ H28133 _
            refine wp_of e85 c85_41 (rw_if_eq (p1 := 51) (p2 := 44) (by decide) rfl ⟨by omega, by omega⟩ (fun c28165 => ?_) (fun c28165 => ?_))
            · refine wp_of e85 c85_51 (rw_aload_n (pc' := 52) (v := .ref r2) rfl rfl rfl ?_)
              refine wp_of e85 c85_52 (rw_aload_n (pc' := 53) (v := .ref r1) rfl rfl rfl ?_)
              refine wp_of e85 c85_53 (xc_V (pc' := 56) (r := r2) (as := [.ref r1]) (st := []) (lm_4_59) rfl rfl (Nat.le_of_ble_eq_true rfl) w28134 g2 sh_6 (by decide) rfl (by decide) (s_91 w28134 g2 g1) (fun R28166 T28167 H28168 p28169 => ?_))
              obtain ⟨e28170, w28172, f28173, e28171⟩ := p28169
              subst e28170
              subst e28171
              have f28174 := f28138.tr f28173 rfl
              have f28175 := f28135.tr f28173 rfl
              show wp _ _ 85 56 [(3, vI v28132), (0, .ref r0), (1, .ref r1), (2, .ref r2)] [] _ H28168 _
              refine wp_of e85 c85_56 (rw_iinc (pc' := 59) (z := v28132) (L' := [(3, vI (v28132 + 1)), (0, .ref r0), (1, .ref r1), (2, .ref r2)]) rfl rfl rfl rfl ?_)
              refine wp_of e85 c85_59 (rw_goto (p1 := 19) (by decide) ?_)
              exact wp_lc (ks := [3, 0, 1, 2]) (wl_c rfl (wl_c rfl (wl_c rfl (wl_c rfl wl_n)))) rfl (by decide) (ih28131 _ (by omega) (v28132 + 1) H28168 w28172 f28175 ⟨by omega, by omega⟩ rfl)
            · refine wp_of e85 c85_44 (rw_aload_n (pc' := 45) (v := .ref r0) rfl rfl rfl ?_)
              refine wp_of e85 c85_45 (rw_aload_n (pc' := 46) (v := .ref r1) rfl rfl rfl ?_)
              refine wp_of e85 c85_46 (rw_aload_n (pc' := 47) (v := .ref r2) rfl rfl rfl ?_)
              refine wp_of e85 c85_47 (rw_iload_n (pc' := 48) (z := v28132) rfl rfl ?_)
              refine wp_of e85 c85_48 (xc_V (pc' := 51) (r := r0) (as := [.ref r1, .ref r2, vI v28132]) (st := []) (lm_4_55) rfl rfl (Nat.le_of_ble_eq_true rfl) w28134 g0 sh_12 (by decide) rfl (by decide) (s_88 w28134 g0 g1 g2 ⟨by omega, by omega⟩) (fun R28176 T28177 H28178 p28179 => ?_))
              obtain ⟨e28180, w28182, f28183, e28181⟩ := p28179
              subst e28180
              subst e28181
              have f28184 := f28138.tr f28183 rfl
              have f28185 := f28135.tr f28183 rfl
              show wp _ _ 85 51 [(3, vI v28132), (0, .ref r0), (1, .ref r1), (2, .ref r2)] [] _ H28178 _
              refine wp_of e85 c85_51 (rw_aload_n (pc' := 52) (v := .ref r2) rfl rfl rfl ?_)
              refine wp_of e85 c85_52 (rw_aload_n (pc' := 53) (v := .ref r1) rfl rfl rfl ?_)
              refine wp_of e85 c85_53 (xc_V (pc' := 56) (r := r2) (as := [.ref r1]) (st := []) (lm_4_59) rfl rfl (Nat.le_of_ble_eq_true rfl) w28182 g2 sh_6 (by decide) rfl (by decide) (s_91 w28182 g2 g1) (fun R28186 T28187 H28188 p28189 => ?_))
              obtain ⟨e28190, w28192, f28193, e28191⟩ := p28189
              subst e28190
              subst e28191
              have f28194 := f28184.tr f28193 rfl
              have f28195 := f28185.tr f28193 rfl
              show wp _ _ 85 56 [(3, vI v28132), (0, .ref r0), (1, .ref r1), (2, .ref r2)] [] _ H28188 _
              refine wp_of e85 c85_56 (rw_iinc (pc' := 59) (z := v28132) (L' := [(3, vI (v28132 + 1)), (0, .ref r0), (1, .ref r1), (2, .ref r2)]) rfl rfl rfl rfl ?_)
              refine wp_of e85 c85_59 (rw_goto (p1 := 19) (by decide) ?_)
              exact wp_lc (ks := [3, 0, 1, 2]) (wl_c rfl (wl_c rfl (wl_c rfl (wl_c rfl wl_n)))) rfl (by decide) (ih28131 _ (by omega) (v28132 + 1) H28188 w28192 f28195 ⟨by omega, by omega⟩ rfl)
    exact wp_lc (ks := [3, 0, 1, 2]) (wl_c rfl (wl_c rfl (wl_c rfl (wl_c rfl wl_n)))) rfl (by decide) (lp28129 _ 0 H27786 w27790 wfr.rf ⟨by omega, by omega⟩ rfl)
  · exact wp_return e85 c85_7 rfl ⟨rfl, hW, f0, rfl⟩
/-! StrikeAwake.barOfWorlds(Z)I -/
theorem e83 : wq_en 83 = some (0, 3, false, some FieldType.int) := rfl
theorem c83_0 : mc_cd 83 0 = some (.aload_n 0, 1) := by decide +kernel
theorem c83_1 : mc_cd 83 1 = some (.iload_n 1, 1) := by decide +kernel
theorem c83_2 : mc_cd 83 2 = some (.invokevirtual 245, 3) := by decide +kernel
theorem c83_5 : mc_cd 83 5 = some (.istore_n 2, 1) := by decide +kernel
theorem c83_6 : mc_cd 83 6 = some (.iload_n 2, 1) := by decide +kernel
theorem c83_7 : mc_cd 83 7 = some (.ifCond .ne 18, 3) := by decide +kernel
theorem c83_10 : mc_cd 83 10 = some (.aload_n 0, 1) := by decide +kernel
theorem c83_11 : mc_cd 83 11 = some (.getfield 30, 3) := by decide +kernel
theorem c83_14 : mc_cd 83 14 = some (.aload_n 0, 1) := by decide +kernel
theorem c83_15 : mc_cd 83 15 = some (.getfield 51, 3) := by decide +kernel
theorem c83_18 : mc_cd 83 18 = some (.aload_n 0, 1) := by decide +kernel
theorem c83_19 : mc_cd 83 19 = some (.getfield 23, 3) := by decide +kernel
theorem c83_22 : mc_cd 83 22 = some (.invokevirtual 254, 3) := by decide +kernel
theorem c83_25 : mc_cd 83 25 = some (.iload_n 2, 1) := by decide +kernel
theorem c83_26 : mc_cd 83 26 = some (.ireturn, 1) := by decide +kernel
abbrev q_83 (r0 : Nat) (a1 : Int) (T : wq_T) (H : wq_H) : Option Value → wq_T → wq_H → Prop := fun r T' H' => T = T' ∧ WT T H' ∧ wfr [(12, 5), (12, 6), (12, 7), (12, 8), (12, 9), (6, 5), (8, 999), (10, 999), (15, 999), (9, 999), (18, 999), (19, 999), (7, 999), (11, 999), (17, 999), (13, 999)] T H H' ∧ ∃ z : Int, some (vI z) = r ∧ (0 ≤ z ∧ z ≤ 6) ∧ (z ≠ 0 ∨ a1 = 1)
set_option maxHeartbeats 4000000 in
theorem s_83 {kt : Nat → Option mc_E} {T : wq_T} {H : wq_H} {r0 : Nat} {a1 : Int} (hW : WT T H) (g0 : T.2.2.2 r0 = some 1) (i1 : 0 ≤ a1 ∧ a1 ≤ 1) : wpc kt 5 83 [.ref r0, vI a1] T H (q_83 r0 a1 T H) := by
  refine wp_enter e83 (Nat.le_of_ble_eq_true rfl) rfl ?_
  have f0 : wfr [(12, 5), (12, 6), (12, 7), (12, 8), (12, 9), (6, 5), (8, 999), (10, 999), (15, 999), (9, 999), (18, 999), (19, 999), (7, 999), (11, 999), (17, 999), (13, 999)] T H H := wfr.rf
  show wp _ _ 83 0 [(0, .ref r0), (1, vI a1)] [] _ H _
  refine wp_of e83 c83_0 (rw_aload_n (pc' := 1) (v := .ref r0) rfl rfl rfl ?_)
  refine wp_of e83 c83_1 (rw_iload_n (pc' := 2) (z := a1) rfl rfl ?_)
  refine wp_of e83 c83_2 (xc_V (pc' := 5) (r := r0) (as := [vI a1]) (st := []) (lm_0_245) rfl rfl (Nat.le_of_ble_eq_true rfl) hW g0 sh_1 (by decide) rfl (by decide) (s_84 hW g0 ⟨by omega, by omega⟩) (fun R28225 T28226 H28227 p28228 => ?_))
  obtain ⟨e28229, e28231, z28233, e28230, b28234, p28232⟩ := p28228
  subst e28229
  subst e28230
  subst e28231
  show wp _ _ 83 5 [(0, .ref r0), (1, vI a1)] [vI z28233] _ H _
  refine wp_of e83 c83_5 (rw_istore_n (pc' := 6) (z := z28233) (L' := [(2, vI z28233), (0, .ref r0), (1, vI a1)]) rfl rfl rfl ?_)
  refine wp_of e83 c83_6 (rw_iload_n (pc' := 7) (z := z28233) rfl rfl ?_)
  refine wp_of e83 c83_7 (rw_if_ne (p1 := 25) (p2 := 10) (by decide) rfl ⟨by omega, by omega⟩ (fun c28235 => ?_) (fun c28235 => ?_))
  · refine wp_of e83 c83_25 (rw_iload_n (pc' := 26) (z := z28233) rfl rfl ?_)
    exact wp_ireturn e83 c83_26 rfl ⟨rfl, hW, f0, z28233, rfl, ⟨by omega, by omega⟩, by omega⟩
  · refine wp_of e83 c83_10 (rw_aload_n (pc' := 11) (v := .ref r0) rfl rfl rfl ?_)
    refine wp_of e83 c83_11 (xg_R (pc' := 14) lf_0_30 hW g0 sh_1 (by decide) (by decide) ty_1_3 rfl rfl (fun r28236 q28237 g28238 => ?_))
    refine wp_of e83 c83_14 (rw_aload_n (pc' := 15) (v := .ref r0) rfl rfl rfl ?_)
    refine wp_of e83 c83_15 (xg_R (pc' := 18) lf_0_51 hW g0 sh_1 (by decide) (by decide) ty_1_6 rfl rfl (fun r28239 q28240 g28241 => ?_))
    refine wp_of e83 c83_18 (rw_aload_n (pc' := 19) (v := .ref r0) rfl rfl rfl ?_)
    refine wp_of e83 c83_19 (xg_R (pc' := 22) lf_0_23 hW g0 sh_1 (by decide) (by decide) ty_1_2 rfl rfl (fun r28242 q28243 g28244 => ?_))
    refine wp_of e83 c83_22 (xc_V (pc' := 25) (r := r28236) (as := [.ref r28239, .ref r28242]) (st := []) (lm_0_254) rfl rfl (Nat.le_of_ble_eq_true rfl) hW g28238 sh_12 (by decide) rfl (by decide) (s_85 hW g28238 g28241 g28244) (fun R28245 T28246 H28247 p28248 => ?_))
    obtain ⟨e28249, w28251, f28252, e28250⟩ := p28248
    subst e28249
    subst e28250
    have f28253 := f0.tr f28252 rfl
    show wp _ _ 83 25 [(2, vI z28233), (0, .ref r0), (1, vI a1)] [] _ H28247 _
    refine wp_of e83 c83_25 (rw_iload_n (pc' := 26) (z := z28233) rfl rfl ?_)
    exact wp_ireturn e83 c83_26 rfl ⟨rfl, w28251, f28253, z28233, rfl, ⟨by omega, by omega⟩, by omega⟩
/-! StrikeAwake.worlds()I -/
theorem e82 : wq_en 82 = some (0, 2, false, some FieldType.int) := rfl
theorem c82_0 : mc_cd 82 0 = some (.aload_n 0, 1) := by decide +kernel
theorem c82_1 : mc_cd 82 1 = some (.aload_n 0, 1) := by decide +kernel
theorem c82_2 : mc_cd 82 2 = some (.getfield 58, 3) := by decide +kernel
theorem c82_5 : mc_cd 82 5 = some (.invokevirtual 174, 3) := by decide +kernel
theorem c82_8 : mc_cd 82 8 = some (.istore_n 1, 1) := by decide +kernel
theorem c82_9 : mc_cd 82 9 = some (.iload_n 1, 1) := by decide +kernel
theorem c82_10 : mc_cd 82 10 = some (.ifCond .eq 9, 3) := by decide +kernel
theorem c82_13 : mc_cd 82 13 = some (.aload_n 0, 1) := by decide +kernel
theorem c82_14 : mc_cd 82 14 = some (.iload_n 1, 1) := by decide +kernel
theorem c82_15 : mc_cd 82 15 = some (.invokevirtual 70, 3) := by decide +kernel
theorem c82_18 : mc_cd 82 18 = some (.ireturn, 1) := by decide +kernel
theorem c82_19 : mc_cd 82 19 = some (.aload_n 0, 1) := by decide +kernel
theorem c82_20 : mc_cd 82 20 = some (.aload_n 0, 1) := by decide +kernel
theorem c82_21 : mc_cd 82 21 = some (.getfield 30, 3) := by decide +kernel
theorem c82_24 : mc_cd 82 24 = some (.getfield 177, 3) := by decide +kernel
theorem c82_27 : mc_cd 82 27 = some (.invokevirtual 99, 3) := by decide +kernel
theorem c82_30 : mc_cd 82 30 = some (.ireturn, 1) := by decide +kernel
abbrev q_82 (r0 : Nat) (T : wq_T) (H : wq_H) : Option Value → wq_T → wq_H → Prop := fun r T' H' => T = T' ∧ WT T H' ∧ wfr [(12, 5), (12, 6), (12, 7), (12, 8), (12, 9), (1, 10), (6, 5), (8, 999), (10, 999), (15, 999), (9, 999), (18, 999), (19, 999), (7, 999), (11, 999), (17, 999), (13, 999)] T H H' ∧ ∃ z : Int, some (vI z) = r ∧ ((-2147483648) ≤ z ∧ z ≤ 2147483647)
set_option maxHeartbeats 4000000 in
theorem s_82 {kt : Nat → Option mc_E} {T : wq_T} {H : wq_H} {r0 : Nat} (hW : WT T H) (g0 : T.2.2.2 r0 = some 1) : wpc kt 6 82 [.ref r0] T H (q_82 r0 T H) := by
  refine wp_enter e82 (Nat.le_of_ble_eq_true rfl) rfl ?_
  have f0 : wfr [(12, 5), (12, 6), (12, 7), (12, 8), (12, 9), (1, 10), (6, 5), (8, 999), (10, 999), (15, 999), (9, 999), (18, 999), (19, 999), (7, 999), (11, 999), (17, 999), (13, 999)] T H H := wfr.rf
  show wp _ _ 82 0 [(0, .ref r0)] [] _ H _
  refine wp_of e82 c82_0 (rw_aload_n (pc' := 1) (v := .ref r0) rfl rfl rfl ?_)
  refine wp_of e82 c82_1 (rw_aload_n (pc' := 2) (v := .ref r0) rfl rfl rfl ?_)
  refine wp_of e82 c82_2 (xg_I (pc' := 5) lf_0_58 hW g0 sh_1 (by decide) (by decide) ty_1_8 rfl rfl (fun b28296 b28297 => ?_))
  refine wp_of e82 c82_5 (xc_V (pc' := 8) (r := r0) (as := [vI (H r0 8)]) (st := []) (lm_0_174) rfl rfl (Nat.le_of_ble_eq_true rfl) hW g0 sh_1 (by decide) rfl (by decide) (s_83 hW g0 ⟨by omega, by omega⟩) (fun R28298 T28299 H28300 p28301 => ?_))
  obtain ⟨e28302, w28304, f28305, z28307, e28303, b28308, p28306⟩ := p28301
  subst e28302
  subst e28303
  have f28309 := f0.tr f28305 rfl
  show wp _ _ 82 8 [(0, .ref r0)] [vI z28307] _ H28300 _
  refine wp_of e82 c82_8 (rw_istore_n (pc' := 9) (z := z28307) (L' := [(1, vI z28307), (0, .ref r0)]) rfl rfl rfl ?_)
  refine wp_of e82 c82_9 (rw_iload_n (pc' := 10) (z := z28307) rfl rfl ?_)
  refine wp_of e82 c82_10 (rw_if_eq (p1 := 19) (p2 := 13) (by decide) rfl ⟨by omega, by omega⟩ (fun c28310 => ?_) (fun c28310 => ?_))
  · refine wp_of e82 c82_19 (rw_aload_n (pc' := 20) (v := .ref r0) rfl rfl rfl ?_)
    refine wp_of e82 c82_20 (rw_aload_n (pc' := 21) (v := .ref r0) rfl rfl rfl ?_)
    refine wp_of e82 c82_21 (xg_R (pc' := 24) lf_0_30 w28304 g0 sh_1 (by decide) (by decide) ty_1_3 rfl rfl (fun r28311 q28312 g28313 => ?_))
    refine wp_of e82 c82_24 (xg_I (pc' := 27) lf_0_177 w28304 g28313 sh_12 (by decide) (by decide) ty_12_5 rfl rfl (fun b28314 b28315 => ?_))
    refine wp_of e82 c82_27 (xc_V (pc' := 30) (r := r0) (as := [vI (H28300 r28311 5)]) (st := []) (lm_0_99) rfl rfl (Nat.le_of_ble_eq_true rfl) w28304 g0 sh_1 (by decide) rfl (by decide) (s_51 w28304 g0 ⟨by omega, by omega⟩) (fun R28316 T28317 H28318 p28319 => ?_))
    obtain ⟨e28320, w28322, f28323, z28324, e28321, b28325⟩ := p28319
    subst e28320
    subst e28321
    have f28326 := f28309.tr f28323 rfl
    show wp _ _ 82 30 [(1, vI z28307), (0, .ref r0)] [vI z28324] _ H28318 _
    exact wp_ireturn e82 c82_30 rfl ⟨rfl, w28322, f28326, z28324, rfl, ⟨by omega, by omega⟩⟩
  · refine wp_of e82 c82_13 (rw_aload_n (pc' := 14) (v := .ref r0) rfl rfl rfl ?_)
    refine wp_of e82 c82_14 (rw_iload_n (pc' := 15) (z := z28307) rfl rfl ?_)
    refine wp_of e82 c82_15 (xc_V (pc' := 18) (r := r0) (as := [vI z28307]) (st := []) (lm_0_70) rfl rfl (Nat.le_of_ble_eq_true rfl) w28304 g0 sh_1 (by decide) rfl (by decide) (s_12 w28304 g0 ⟨by omega, by omega⟩) (fun R28327 T28328 H28329 p28330 => ?_))
    obtain ⟨e28331, w28333, f28334, z28335, e28332, b28336⟩ := p28330
    subst e28331
    subst e28332
    have f28337 := f28309.tr f28334 rfl
    show wp _ _ 82 18 [(1, vI z28307), (0, .ref r0)] [vI z28335] _ H28329 _
    exact wp_ireturn e82 c82_18 rfl ⟨rfl, w28333, f28337, z28335, rfl, ⟨by omega, by omega⟩⟩
/-! StrikeAwake.can()I -/
theorem e92 : wq_en 92 = some (0, 2, false, some FieldType.int) := rfl
theorem c92_0 : mc_cd 92 0 = some (.aload_n 0, 1) := by decide +kernel
theorem c92_1 : mc_cd 92 1 = some (.aload_n 0, 1) := by decide +kernel
theorem c92_2 : mc_cd 92 2 = some (.getfield 58, 3) := by decide +kernel
theorem c92_5 : mc_cd 92 5 = some (.invokevirtual 174, 3) := by decide +kernel
theorem c92_8 : mc_cd 92 8 = some (.istore_n 1, 1) := by decide +kernel
theorem c92_9 : mc_cd 92 9 = some (.iload_n 1, 1) := by decide +kernel
theorem c92_10 : mc_cd 92 10 = some (.ifCond .eq 9, 3) := by decide +kernel
theorem c92_13 : mc_cd 92 13 = some (.aload_n 0, 1) := by decide +kernel
theorem c92_14 : mc_cd 92 14 = some (.iload_n 1, 1) := by decide +kernel
theorem c92_15 : mc_cd 92 15 = some (.invokevirtual 70, 3) := by decide +kernel
theorem c92_18 : mc_cd 92 18 = some (.ireturn, 1) := by decide +kernel
theorem c92_19 : mc_cd 92 19 = some (.aload_n 0, 1) := by decide +kernel
theorem c92_20 : mc_cd 92 20 = some (.aload_n 0, 1) := by decide +kernel
theorem c92_21 : mc_cd 92 21 = some (.getfield 30, 3) := by decide +kernel
theorem c92_24 : mc_cd 92 24 = some (.getfield 177, 3) := by decide +kernel
theorem c92_27 : mc_cd 92 27 = some (.ifCond .le 7, 3) := by decide +kernel
theorem c92_30 : mc_cd 92 30 = some (.iconst 1, 1) := by decide +kernel
theorem c92_31 : mc_cd 92 31 = some (.goto 4, 3) := by decide +kernel
theorem c92_34 : mc_cd 92 34 = some (.iconst 0, 1) := by decide +kernel
theorem c92_35 : mc_cd 92 35 = some (.invokevirtual 99, 3) := by decide +kernel
theorem c92_38 : mc_cd 92 38 = some (.ireturn, 1) := by decide +kernel
abbrev q_92 (r0 : Nat) (T : wq_T) (H : wq_H) : Option Value → wq_T → wq_H → Prop := fun r T' H' => T = T' ∧ WT T H' ∧ wfr [(12, 5), (12, 6), (12, 7), (12, 8), (12, 9), (1, 10), (6, 5), (8, 999), (10, 999), (15, 999), (9, 999), (18, 999), (19, 999), (7, 999), (11, 999), (17, 999), (13, 999)] T H H' ∧ ∃ z : Int, some (vI z) = r ∧ ((-2147483648) ≤ z ∧ z ≤ 2147483647)
set_option maxHeartbeats 4000000 in
theorem s_92 {kt : Nat → Option mc_E} {T : wq_T} {H : wq_H} {r0 : Nat} (hW : WT T H) (g0 : T.2.2.2 r0 = some 1) : wpc kt 6 92 [.ref r0] T H (q_92 r0 T H) := by
  refine wp_enter e92 (Nat.le_of_ble_eq_true rfl) rfl ?_
  have f0 : wfr [(12, 5), (12, 6), (12, 7), (12, 8), (12, 9), (1, 10), (6, 5), (8, 999), (10, 999), (15, 999), (9, 999), (18, 999), (19, 999), (7, 999), (11, 999), (17, 999), (13, 999)] T H H := wfr.rf
  show wp _ _ 92 0 [(0, .ref r0)] [] _ H _
  refine wp_of e92 c92_0 (rw_aload_n (pc' := 1) (v := .ref r0) rfl rfl rfl ?_)
  refine wp_of e92 c92_1 (rw_aload_n (pc' := 2) (v := .ref r0) rfl rfl rfl ?_)
  refine wp_of e92 c92_2 (xg_I (pc' := 5) lf_0_58 hW g0 sh_1 (by decide) (by decide) ty_1_8 rfl rfl (fun b28392 b28393 => ?_))
  refine wp_of e92 c92_5 (xc_V (pc' := 8) (r := r0) (as := [vI (H r0 8)]) (st := []) (lm_0_174) rfl rfl (Nat.le_of_ble_eq_true rfl) hW g0 sh_1 (by decide) rfl (by decide) (s_83 hW g0 ⟨by omega, by omega⟩) (fun R28394 T28395 H28396 p28397 => ?_))
  obtain ⟨e28398, w28400, f28401, z28403, e28399, b28404, p28402⟩ := p28397
  subst e28398
  subst e28399
  have f28405 := f0.tr f28401 rfl
  show wp _ _ 92 8 [(0, .ref r0)] [vI z28403] _ H28396 _
  refine wp_of e92 c92_8 (rw_istore_n (pc' := 9) (z := z28403) (L' := [(1, vI z28403), (0, .ref r0)]) rfl rfl rfl ?_)
  refine wp_of e92 c92_9 (rw_iload_n (pc' := 10) (z := z28403) rfl rfl ?_)
  refine wp_of e92 c92_10 (rw_if_eq (p1 := 19) (p2 := 13) (by decide) rfl ⟨by omega, by omega⟩ (fun c28406 => ?_) (fun c28406 => ?_))
  · refine wp_of e92 c92_19 (rw_aload_n (pc' := 20) (v := .ref r0) rfl rfl rfl ?_)
    refine wp_of e92 c92_20 (rw_aload_n (pc' := 21) (v := .ref r0) rfl rfl rfl ?_)
    refine wp_of e92 c92_21 (xg_R (pc' := 24) lf_0_30 w28400 g0 sh_1 (by decide) (by decide) ty_1_3 rfl rfl (fun r28407 q28408 g28409 => ?_))
    refine wp_of e92 c92_24 (xg_I (pc' := 27) lf_0_177 w28400 g28409 sh_12 (by decide) (by decide) ty_12_5 rfl rfl (fun b28410 b28411 => ?_))
    refine wp_of e92 c92_27 (rw_if_le (p1 := 34) (p2 := 30) (by decide) rfl ⟨by omega, by omega⟩ (fun c28412 => ?_) (fun c28412 => ?_))
    · refine wp_of e92 c92_34 (rw_iconst (pc' := 35) rfl ?_)
      refine wp_of e92 c92_35 (xc_V (pc' := 38) (r := r0) (as := [vI 0]) (st := []) (lm_0_99) rfl rfl (Nat.le_of_ble_eq_true rfl) w28400 g0 sh_1 (by decide) rfl (by decide) (s_51 w28400 g0 ⟨by omega, by omega⟩) (fun R28413 T28414 H28415 p28416 => ?_))
      obtain ⟨e28417, w28419, f28420, z28421, e28418, b28422⟩ := p28416
      subst e28417
      subst e28418
      have f28423 := f28405.tr f28420 rfl
      show wp _ _ 92 38 [(1, vI z28403), (0, .ref r0)] [vI z28421] _ H28415 _
      exact wp_ireturn e92 c92_38 rfl ⟨rfl, w28419, f28423, z28421, rfl, ⟨by omega, by omega⟩⟩
    · refine wp_of e92 c92_30 (rw_iconst (pc' := 31) rfl ?_)
      refine wp_of e92 c92_31 (rw_goto (p1 := 35) (by decide) ?_)
      refine wp_of e92 c92_35 (xc_V (pc' := 38) (r := r0) (as := [vI 1]) (st := []) (lm_0_99) rfl rfl (Nat.le_of_ble_eq_true rfl) w28400 g0 sh_1 (by decide) rfl (by decide) (s_51 w28400 g0 ⟨by omega, by omega⟩) (fun R28424 T28425 H28426 p28427 => ?_))
      obtain ⟨e28428, w28430, f28431, z28432, e28429, b28433⟩ := p28427
      subst e28428
      subst e28429
      have f28434 := f28405.tr f28431 rfl
      show wp _ _ 92 38 [(1, vI z28403), (0, .ref r0)] [vI z28432] _ H28426 _
      exact wp_ireturn e92 c92_38 rfl ⟨rfl, w28430, f28434, z28432, rfl, ⟨by omega, by omega⟩⟩
  · refine wp_of e92 c92_13 (rw_aload_n (pc' := 14) (v := .ref r0) rfl rfl rfl ?_)
    refine wp_of e92 c92_14 (rw_iload_n (pc' := 15) (z := z28403) rfl rfl ?_)
    refine wp_of e92 c92_15 (xc_V (pc' := 18) (r := r0) (as := [vI z28403]) (st := []) (lm_0_70) rfl rfl (Nat.le_of_ble_eq_true rfl) w28400 g0 sh_1 (by decide) rfl (by decide) (s_12 w28400 g0 ⟨by omega, by omega⟩) (fun R28435 T28436 H28437 p28438 => ?_))
    obtain ⟨e28439, w28441, f28442, z28443, e28440, b28444⟩ := p28438
    subst e28439
    subst e28440
    have f28445 := f28405.tr f28442 rfl
    show wp _ _ 92 18 [(1, vI z28403), (0, .ref r0)] [vI z28443] _ H28437 _
    exact wp_ireturn e92 c92_18 rfl ⟨rfl, w28441, f28445, z28443, rfl, ⟨by omega, by omega⟩⟩
/-! StrikeAwake$Census.isWorld(I)Z -/
theorem e95 : wq_en 95 = some (4, 2, false, some FieldType.boolean) := rfl
theorem c95_0 : mc_cd 95 0 = some (.aload_n 0, 1) := by decide +kernel
theorem c95_1 : mc_cd 95 1 = some (.getfield 11, 3) := by decide +kernel
theorem c95_4 : mc_cd 95 4 = some (.iload_n 1, 1) := by decide +kernel
theorem c95_5 : mc_cd 95 5 = some (.bipush 64, 2) := by decide +kernel
theorem c95_7 : mc_cd 95 7 = some (.idiv, 1) := by decide +kernel
theorem c95_8 : mc_cd 95 8 = some (.laload, 1) := by decide +kernel
theorem c95_9 : mc_cd 95 9 = some (.iload_n 1, 1) := by decide +kernel
theorem c95_10 : mc_cd 95 10 = some (.bipush 64, 2) := by decide +kernel
theorem c95_12 : mc_cd 95 12 = some (.irem, 1) := by decide +kernel
theorem c95_13 : mc_cd 95 13 = some (.lshr, 1) := by decide +kernel
theorem c95_14 : mc_cd 95 14 = some (.lconst 1, 1) := by decide +kernel
theorem c95_15 : mc_cd 95 15 = some (.land, 1) := by decide +kernel
theorem c95_16 : mc_cd 95 16 = some (.lconst 0, 1) := by decide +kernel
theorem c95_17 : mc_cd 95 17 = some (.lcmp, 1) := by decide +kernel
theorem c95_18 : mc_cd 95 18 = some (.ifCond .eq 7, 3) := by decide +kernel
theorem c95_21 : mc_cd 95 21 = some (.iconst 1, 1) := by decide +kernel
theorem c95_22 : mc_cd 95 22 = some (.goto 4, 3) := by decide +kernel
theorem c95_25 : mc_cd 95 25 = some (.iconst 0, 1) := by decide +kernel
theorem c95_26 : mc_cd 95 26 = some (.ireturn, 1) := by decide +kernel
abbrev q_95 (r0 : Nat) (a1 : Int) (T : wq_T) (H : wq_H) : Option Value → wq_T → wq_H → Prop := fun r T' H' => T = T' ∧ H = H' ∧ ∃ z : Int, some (vI z) = r ∧ (0 ≤ z ∧ z ≤ 1)
set_option maxHeartbeats 4000000 in
theorem s_95 {kt : Nat → Option mc_E} {T : wq_T} {H : wq_H} {r0 : Nat} {a1 : Int} (hW : WT T H) (g0 : T.2.2.2 r0 = some 12) (i1 : 0 ≤ a1 ∧ a1 ≤ 19999) : wpc kt 1 95 [.ref r0, vI a1] T H (q_95 r0 a1 T H) := by
  refine wp_enter e95 (Nat.le_of_ble_eq_true rfl) rfl ?_
  show wp _ _ 95 0 [(0, .ref r0), (1, vI a1)] [] _ H _
  refine wp_of e95 c95_0 (rw_aload_n (pc' := 1) (v := .ref r0) rfl rfl rfl ?_)
  refine wp_of e95 c95_1 (xg_R (pc' := 4) lf_4_11 hW g0 sh_12 (by decide) (by decide) ty_12_0 rfl rfl (fun r28461 q28462 g28463 => ?_))
  refine wp_of e95 c95_4 (rw_iload_n (pc' := 5) (z := a1) rfl rfl ?_)
  refine wp_of e95 c95_5 (rw_bipush (pc' := 7) (z := 64) rfl (by decide) ?_)
  refine wp_of e95 c95_7 (rw_idiv (pc' := 8) rfl ⟨by omega, by omega⟩ (by omega) ?_)
  obtain ⟨v28464, e28465⟩ : ∃ x : Int, x = wq_div a1 64 := ⟨_, rfl⟩
  rw [← e28465]
  have b28466 : v28464 = a1 / 64 := by
    rw [e28465]
    exact wq_div_e ⟨by omega, by omega⟩ ⟨by omega, by omega⟩
  refine wp_of e95 c95_8 (xa_L (pc' := 9) hW g28463 sh_13 (by decide) (ty_13 _) (by omega) (by omega) rfl (fun b28467 b28468 => ?_))
  refine wp_of e95 c95_9 (rw_iload_n (pc' := 10) (z := a1) rfl rfl ?_)
  refine wp_of e95 c95_10 (rw_bipush (pc' := 12) (z := 64) rfl (by decide) ?_)
  refine wp_of e95 c95_12 (rw_irem (pc' := 13) rfl ⟨by omega, by omega⟩ (by omega) ?_)
  obtain ⟨v28469, e28470⟩ : ∃ x : Int, x = wq_rem a1 64 := ⟨_, rfl⟩
  rw [← e28470]
  have b28471 : v28469 = a1 % 64 := by
    rw [e28470]
    exact wq_rem_e ⟨by omega, by omega⟩ ⟨by omega, by omega⟩
  refine wp_of e95 c95_13 (rw_lshr (pc' := 14) rfl ?_)
  obtain ⟨v28472, e28473⟩ : ∃ x : Int, x = wl_shr (H r28461 v28464.toNat) v28469 := ⟨_, rfl⟩
  rw [← e28473]
  have b28474 : -9223372036854775808 ≤ v28472 ∧ v28472 ≤ 9223372036854775807 := by
    rw [e28473]
    exact wL_shr _ _
  refine wp_of e95 c95_14 (rw_lconst (pc' := 15) (z := 1) rfl rfl ?_)
  refine wp_of e95 c95_15 (rw_land (pc' := 16) rfl ?_)
  obtain ⟨v28475, e28476⟩ : ∃ x : Int, x = wl_and v28472 1 := ⟨_, rfl⟩
  rw [← e28476]
  have b28477 : -9223372036854775808 ≤ v28475 ∧ v28475 ≤ 9223372036854775807 := by
    rw [e28476]
    exact wL_and _ _
  refine wp_of e95 c95_16 (rw_lconst (pc' := 17) (z := 0) rfl rfl ?_)
  refine wp_of e95 c95_17 (rw_lcmp (pc' := 18) rfl ⟨by omega, by omega⟩ ⟨by omega, by omega⟩ ?_)
  have b28478 := wq_cmp_b v28475 0
  refine wp_of e95 c95_18 (rw_if_eq (p1 := 25) (p2 := 21) (by decide) rfl ⟨by omega, by omega⟩ (fun c28479 => ?_) (fun c28479 => ?_))
  · refine wp_of e95 c95_25 (rw_iconst (pc' := 26) rfl ?_)
    exact wp_zreturn e95 c95_26 rfl (by omega) ⟨rfl, rfl, 0, rfl, ⟨by omega, by omega⟩⟩
  · refine wp_of e95 c95_21 (rw_iconst (pc' := 22) rfl ?_)
    refine wp_of e95 c95_22 (rw_goto (p1 := 26) (by decide) ?_)
    exact wp_zreturn e95 c95_26 rfl (by omega) ⟨rfl, rfl, 1, rfl, ⟨by omega, by omega⟩⟩
/-! StrikeAwake$Census.numberOf(I)I -/
theorem e94 : wq_en 94 = some (4, 4, false, some FieldType.int) := rfl
theorem c94_0 : mc_cd 94 0 = some (.iconst 0, 1) := by decide +kernel
theorem c94_1 : mc_cd 94 1 = some (.istore_n 2, 1) := by decide +kernel
theorem c94_2 : mc_cd 94 2 = some (.iconst 0, 1) := by decide +kernel
theorem c94_3 : mc_cd 94 3 = some (.istore_n 3, 1) := by decide +kernel
theorem c94_4 : mc_cd 94 4 = some (.iload_n 3, 1) := by decide +kernel
theorem c94_5 : mc_cd 94 5 = some (.sipush 20000, 3) := by decide +kernel
theorem c94_8 : mc_cd 94 8 = some (.if_icmp .ge 27, 3) := by decide +kernel
theorem c94_11 : mc_cd 94 11 = some (.aload_n 0, 1) := by decide +kernel
theorem c94_12 : mc_cd 94 12 = some (.iload_n 3, 1) := by decide +kernel
theorem c94_13 : mc_cd 94 13 = some (.invokevirtual 113, 3) := by decide +kernel
theorem c94_16 : mc_cd 94 16 = some (.ifCond .eq 13, 3) := by decide +kernel
theorem c94_19 : mc_cd 94 19 = some (.iload_n 2, 1) := by decide +kernel
theorem c94_20 : mc_cd 94 20 = some (.iload_n 1, 1) := by decide +kernel
theorem c94_21 : mc_cd 94 21 = some (.if_icmp .ne 5, 3) := by decide +kernel
theorem c94_24 : mc_cd 94 24 = some (.iload_n 3, 1) := by decide +kernel
theorem c94_25 : mc_cd 94 25 = some (.ireturn, 1) := by decide +kernel
theorem c94_26 : mc_cd 94 26 = some (.iinc 2 1, 3) := by decide +kernel
theorem c94_29 : mc_cd 94 29 = some (.iinc 3 1, 3) := by decide +kernel
theorem c94_32 : mc_cd 94 32 = some (.goto (-28), 3) := by decide +kernel
theorem c94_35 : mc_cd 94 35 = some (.iconst 0, 1) := by decide +kernel
theorem c94_36 : mc_cd 94 36 = some (.ireturn, 1) := by decide +kernel
abbrev q_94 (r0 : Nat) (a1 : Int) (T : wq_T) (H : wq_H) : Option Value → wq_T → wq_H → Prop := fun r T' H' => T = T' ∧ H = H' ∧ ∃ z : Int, some (vI z) = r ∧ (0 ≤ z ∧ z ≤ 19999)
set_option maxHeartbeats 4000000 in
theorem s_94 {kt : Nat → Option mc_E} {T : wq_T} {H : wq_H} {r0 : Nat} {a1 : Int} (hW : WT T H) (g0 : T.2.2.2 r0 = some 12) (i1 : (-2147483648) ≤ a1 ∧ a1 ≤ 2147483647) : wpc kt 2 94 [.ref r0, vI a1] T H (q_94 r0 a1 T H) := by
  refine wp_enter e94 (Nat.le_of_ble_eq_true rfl) rfl ?_
  show wp _ _ 94 0 [(0, .ref r0), (1, vI a1)] [] _ H _
  refine wp_of e94 c94_0 (rw_iconst (pc' := 1) rfl ?_)
  refine wp_of e94 c94_1 (rw_istore_n (pc' := 2) (z := 0) (L' := [(2, vI 0), (0, .ref r0), (1, vI a1)]) rfl rfl rfl ?_)
  refine wp_of e94 c94_2 (rw_iconst (pc' := 3) rfl ?_)
  refine wp_of e94 c94_3 (rw_istore_n (pc' := 4) (z := 0) (L' := [(3, vI 0), (2, vI 0), (0, .ref r0), (1, vI a1)]) rfl rfl rfl ?_)
  have lp28685 : ∀ (n28686 : Nat) (v28688 : Int) (v28689 : Int), (0 ≤ v28688 ∧ v28688 ≤ 20000) → (0 ≤ v28689 ∧ v28689 ≤ 20000) → (v28689 ≤ v28688) → (20000 - v28688).toNat = n28686 → wp kt 1 94 4 [(3, vI v28688), (2, vI v28689), (0, .ref r0), (1, vI a1)] [] T H (q_94 r0 a1 T H) := by
    intro n28686
    induction n28686 using Nat.strongRecOn with
    | _ n28686 ih28687 =>
      intro v28688 v28689 b28692 b28693 x28694 m28695
      refine wp_of e94 c94_4 (rw_iload_n (pc' := 5) (z := v28688) rfl rfl ?_)
      refine wp_of e94 c94_5 (rw_sipush (pc' := 8) (z := 20000) rfl (by decide) ?_)
      refine wp_of e94 c94_8 (rw_icmp_ge (p1 := 35) (p2 := 11) (by decide) rfl ⟨by omega, by omega⟩ ⟨by omega, by omega⟩ (fun c28696 => ?_) (fun c28696 => ?_))
      · refine wp_of e94 c94_35 (rw_iconst (pc' := 36) rfl ?_)
        exact wp_ireturn e94 c94_36 rfl ⟨rfl, rfl, 0, rfl, ⟨by omega, by omega⟩⟩
      · refine wp_of e94 c94_11 (rw_aload_n (pc' := 12) (v := .ref r0) rfl rfl rfl ?_)
        refine wp_of e94 c94_12 (rw_iload_n (pc' := 13) (z := v28688) rfl rfl ?_)
        refine wp_of e94 c94_13 (xc_V (pc' := 16) (r := r0) (as := [vI v28688]) (st := []) (lm_4_113) rfl rfl (Nat.le_of_ble_eq_true rfl) hW g0 sh_12 (by decide) rfl (by decide) (s_95 hW g0 ⟨by omega, by omega⟩) (fun R28697 T28698 H28699 p28700 => ?_))
        obtain ⟨e28701, e28703, z28704, e28702, b28705⟩ := p28700
        subst e28701
        subst e28702
        subst e28703
        show wp _ _ 94 16 [(3, vI v28688), (2, vI v28689), (0, .ref r0), (1, vI a1)] [vI z28704] _ H _
        refine wp_of e94 c94_16 (rw_if_eq (p1 := 29) (p2 := 19) (by decide) rfl ⟨by omega, by omega⟩ (fun c28706 => ?_) (fun c28706 => ?_))
        · refine wp_of e94 c94_29 (rw_iinc (pc' := 32) (z := v28688) (L' := [(3, vI (v28688 + 1)), (2, vI v28689), (0, .ref r0), (1, vI a1)]) rfl rfl rfl rfl ?_)
          refine wp_of e94 c94_32 (rw_goto (p1 := 4) (by decide) ?_)
          exact wp_lc (ks := [3, 2, 0, 1]) (wl_c rfl (wl_c rfl (wl_c rfl (wl_c rfl wl_n)))) rfl (by decide) (ih28687 _ (by omega) (v28688 + 1) v28689 ⟨by omega, by omega⟩ ⟨by omega, by omega⟩ (by omega) rfl)
        · refine wp_of e94 c94_19 (rw_iload_n (pc' := 20) (z := v28689) rfl rfl ?_)
          refine wp_of e94 c94_20 (rw_iload_n (pc' := 21) (z := a1) rfl rfl ?_)
          refine wp_of e94 c94_21 (rw_icmp_ne (p1 := 26) (p2 := 24) (by decide) rfl ⟨by omega, by omega⟩ ⟨by omega, by omega⟩ (fun c28707 => ?_) (fun c28707 => ?_))
          · refine wp_of e94 c94_26 (rw_iinc (pc' := 29) (z := v28689) (L' := [(2, vI (v28689 + 1)), (3, vI v28688), (0, .ref r0), (1, vI a1)]) rfl rfl rfl rfl ?_)
            refine wp_of e94 c94_29 (rw_iinc (pc' := 32) (z := v28688) (L' := [(3, vI (v28688 + 1)), (2, vI (v28689 + 1)), (0, .ref r0), (1, vI a1)]) rfl rfl rfl rfl ?_)
            refine wp_of e94 c94_32 (rw_goto (p1 := 4) (by decide) ?_)
            exact wp_lc (ks := [3, 2, 0, 1]) (wl_c rfl (wl_c rfl (wl_c rfl (wl_c rfl wl_n)))) rfl (by decide) (ih28687 _ (by omega) (v28688 + 1) (v28689 + 1) ⟨by omega, by omega⟩ ⟨by omega, by omega⟩ (by omega) rfl)
          · refine wp_of e94 c94_24 (rw_iload_n (pc' := 25) (z := v28688) rfl rfl ?_)
            exact wp_ireturn e94 c94_25 rfl ⟨rfl, rfl, v28688, rfl, ⟨by omega, by omega⟩⟩
  exact wp_lc (ks := [3, 2, 0, 1]) (wl_c rfl (wl_c rfl (wl_c rfl (wl_c rfl wl_n)))) rfl (by decide) (lp28685 _ 0 0 ⟨by omega, by omega⟩ ⟨by omega, by omega⟩ (by omega) rfl)
/-! StrikeAwake$Parish.spanIn(II)I -/
theorem e96 : wq_en 96 = some (7, 5, false, some FieldType.int) := rfl
theorem c96_0 : mc_cd 96 0 = some (.aload_n 0, 1) := by decide +kernel
theorem c96_1 : mc_cd 96 1 = some (.getfield 11, 3) := by decide +kernel
theorem c96_4 : mc_cd 96 4 = some (.iload_n 2, 1) := by decide +kernel
theorem c96_5 : mc_cd 96 5 = some (.aaload, 1) := by decide +kernel
theorem c96_6 : mc_cd 96 6 = some (.getfield 107, 3) := by decide +kernel
theorem c96_9 : mc_cd 96 9 = some (.istore_n 3, 1) := by decide +kernel
theorem c96_10 : mc_cd 96 10 = some (.aload_n 0, 1) := by decide +kernel
theorem c96_11 : mc_cd 96 11 = some (.getfield 11, 3) := by decide +kernel
theorem c96_14 : mc_cd 96 14 = some (.iload_n 2, 1) := by decide +kernel
theorem c96_15 : mc_cd 96 15 = some (.aaload, 1) := by decide +kernel
theorem c96_16 : mc_cd 96 16 = some (.getfield 110, 3) := by decide +kernel
theorem c96_19 : mc_cd 96 19 = some (.istore 4, 2) := by decide +kernel
theorem c96_21 : mc_cd 96 21 = some (.iload_n 3, 1) := by decide +kernel
theorem c96_22 : mc_cd 96 22 = some (.ifCond .le 8, 3) := by decide +kernel
theorem c96_25 : mc_cd 96 25 = some (.iload 4, 2) := by decide +kernel
theorem c96_27 : mc_cd 96 27 = some (.ifCond .gt 5, 3) := by decide +kernel
theorem c96_30 : mc_cd 96 30 = some (.iconst (-1), 1) := by decide +kernel
theorem c96_31 : mc_cd 96 31 = some (.ireturn, 1) := by decide +kernel
theorem c96_32 : mc_cd 96 32 = some (.iload_n 1, 1) := by decide +kernel
theorem c96_33 : mc_cd 96 33 = some (.iload_n 3, 1) := by decide +kernel
theorem c96_34 : mc_cd 96 34 = some (.idiv, 1) := by decide +kernel
theorem c96_35 : mc_cd 96 35 = some (.iload 4, 2) := by decide +kernel
theorem c96_37 : mc_cd 96 37 = some (.irem, 1) := by decide +kernel
theorem c96_38 : mc_cd 96 38 = some (.ireturn, 1) := by decide +kernel
abbrev q_96 (r0 : Nat) (a1 : Int) (a2 : Int) (T : wq_T) (H : wq_H) : Option Value → wq_T → wq_H → Prop := fun r T' H' => T = T' ∧ H = H' ∧ ∃ z : Int, some (vI z) = r ∧ ((-1) ≤ z ∧ z ≤ 39)
set_option maxHeartbeats 4000000 in
theorem s_96 {kt : Nat → Option mc_E} {T : wq_T} {H : wq_H} {r0 : Nat} {a1 : Int} {a2 : Int} (hW : WT T H) (g0 : T.2.2.2 r0 = some 27) (i1 : 0 ≤ a1 ∧ a1 ≤ 2147483647) (i2 : 0 ≤ a2 ∧ a2 ≤ 5) : wpc kt 1 96 [.ref r0, vI a1, vI a2] T H (q_96 r0 a1 a2 T H) := by
  refine wp_enter e96 (Nat.le_of_ble_eq_true rfl) rfl ?_
  show wp _ _ 96 0 [(0, .ref r0), (1, vI a1), (2, vI a2)] [] _ H _
  refine wp_of e96 c96_0 (rw_aload_n (pc' := 1) (v := .ref r0) rfl rfl rfl ?_)
  refine wp_of e96 c96_1 (xg_R (pc' := 4) lf_7_11 hW g0 sh_27 (by decide) (by decide) ty_27_0 rfl rfl (fun r28724 q28725 g28726 => ?_))
  refine wp_of e96 c96_4 (rw_iload_n (pc' := 5) (z := a2) rfl rfl ?_)
  refine wp_of e96 c96_5 (xa_R (pc' := 6) (by decide) hW g28726 sh_28 (by decide) (ty_28 _) (by omega) (by omega) rfl (fun r28727 q28728 g28729 => ?_))
  refine wp_of e96 c96_6 (xg_I (pc' := 9) lf_7_107 hW g28729 sh_35 (by decide) (by decide) ty_35_17 rfl rfl (fun b28730 b28731 => ?_))
  refine wp_of e96 c96_9 (rw_istore_n (pc' := 10) (z := H r28727 17) (L' := [(3, vI (H r28727 17)), (0, .ref r0), (1, vI a1), (2, vI a2)]) rfl rfl rfl ?_)
  refine wp_of e96 c96_10 (rw_aload_n (pc' := 11) (v := .ref r0) rfl rfl rfl ?_)
  refine wp_of e96 c96_11 (xg_K (pc' := 14) lf_7_11 hW g0 sh_27 (by decide) (by decide) rfl q28725 rfl ?_)
  refine wp_of e96 c96_14 (rw_iload_n (pc' := 15) (z := a2) rfl rfl ?_)
  refine wp_of e96 c96_15 (xa_K (pc' := 16) (by decide) hW g28726 sh_28 (by decide) (by omega) (by omega) q28728 rfl ?_)
  refine wp_of e96 c96_16 (xg_I (pc' := 19) lf_7_110 hW g28729 sh_35 (by decide) (by decide) ty_35_15 rfl rfl (fun b28732 b28733 => ?_))
  refine wp_of e96 c96_19 (rw_istore (pc' := 21) (z := H r28727 15) (L' := [(4, vI (H r28727 15)), (3, vI (H r28727 17)), (0, .ref r0), (1, vI a1), (2, vI a2)]) rfl rfl rfl ?_)
  refine wp_of e96 c96_21 (rw_iload_n (pc' := 22) (z := H r28727 17) rfl rfl ?_)
  refine wp_of e96 c96_22 (rw_if_le (p1 := 30) (p2 := 25) (by decide) rfl ⟨by omega, by omega⟩ (fun c28734 => ?_) (fun c28734 => ?_))
  · refine wp_of e96 c96_30 (rw_iconst (pc' := 31) rfl ?_)
    exact wp_ireturn e96 c96_31 rfl ⟨rfl, rfl, -1, rfl, ⟨by omega, by omega⟩⟩
  · refine wp_of e96 c96_25 (rw_iload (pc' := 27) (z := H r28727 15) rfl rfl ?_)
    refine wp_of e96 c96_27 (rw_if_gt (p1 := 32) (p2 := 30) (by decide) rfl ⟨by omega, by omega⟩ (fun c28735 => ?_) (fun c28735 => ?_))
    · refine wp_of e96 c96_32 (rw_iload_n (pc' := 33) (z := a1) rfl rfl ?_)
      refine wp_of e96 c96_33 (rw_iload_n (pc' := 34) (z := H r28727 17) rfl rfl ?_)
      refine wp_of e96 c96_34 (rw_idiv (pc' := 35) rfl ⟨by omega, by omega⟩ (by omega) ?_)
      obtain ⟨v28736, e28737⟩ : ∃ x : Int, x = wq_div a1 (H r28727 17) := ⟨_, rfl⟩
      rw [← e28737]
      have b28738 : 0 ≤ v28736 ∧ v28736 ≤ a1 := by
        rw [e28737]
        rw [wq_div_e ⟨by omega, by omega⟩ ⟨by omega, by omega⟩]; exact ⟨Int.ediv_nonneg (by omega) (by omega), Int.ediv_le_self _ (by omega)⟩
      refine wp_of e96 c96_35 (rw_iload (pc' := 37) (z := H r28727 15) rfl rfl ?_)
      refine wp_of e96 c96_37 (rw_irem (pc' := 38) rfl ⟨by omega, by omega⟩ (by omega) ?_)
      obtain ⟨v28739, e28740⟩ : ∃ x : Int, x = wq_rem v28736 (H r28727 15) := ⟨_, rfl⟩
      rw [← e28740]
      have b28741 : 0 ≤ v28739 ∧ v28739 < (H r28727 15) := by
        rw [e28740]
        rw [wq_rem_e ⟨by omega, by omega⟩ ⟨by omega, by omega⟩]; exact ⟨Int.emod_nonneg _ (by omega), Int.emod_lt_of_pos _ (by omega)⟩
      exact wp_ireturn e96 c96_38 rfl ⟨rfl, rfl, v28739, rfl, ⟨by omega, by omega⟩⟩
    · refine wp_of e96 c96_30 (rw_iconst (pc' := 31) rfl ?_)
      exact wp_ireturn e96 c96_31 rfl ⟨rfl, rfl, -1, rfl, ⟨by omega, by omega⟩⟩
/-! StrikeAwake.world(II)I -/
theorem e93 : wq_en 93 = some (0, 4, false, some FieldType.int) := rfl
theorem c93_0 : mc_cd 93 0 = some (.aload_n 0, 1) := by decide +kernel
theorem c93_1 : mc_cd 93 1 = some (.aload_n 0, 1) := by decide +kernel
theorem c93_2 : mc_cd 93 2 = some (.iload_n 2, 1) := by decide +kernel
theorem c93_3 : mc_cd 93 3 = some (.invokevirtual 105, 3) := by decide +kernel
theorem c93_6 : mc_cd 93 6 = some (.ifCond .eq 11, 3) := by decide +kernel
theorem c93_9 : mc_cd 93 9 = some (.iload_n 1, 1) := by decide +kernel
theorem c93_10 : mc_cd 93 10 = some (.ifCond .lt 7, 3) := by decide +kernel
theorem c93_13 : mc_cd 93 13 = some (.iconst 1, 1) := by decide +kernel
theorem c93_14 : mc_cd 93 14 = some (.goto 4, 3) := by decide +kernel
theorem c93_17 : mc_cd 93 17 = some (.iconst 0, 1) := by decide +kernel
theorem c93_18 : mc_cd 93 18 = some (.invokevirtual 174, 3) := by decide +kernel
theorem c93_21 : mc_cd 93 21 = some (.istore_n 3, 1) := by decide +kernel
theorem c93_22 : mc_cd 93 22 = some (.iload_n 3, 1) := by decide +kernel
theorem c93_23 : mc_cd 93 23 = some (.ifCond .eq 9, 3) := by decide +kernel
theorem c93_26 : mc_cd 93 26 = some (.aload_n 0, 1) := by decide +kernel
theorem c93_27 : mc_cd 93 27 = some (.iload_n 3, 1) := by decide +kernel
theorem c93_28 : mc_cd 93 28 = some (.invokevirtual 70, 3) := by decide +kernel
theorem c93_31 : mc_cd 93 31 = some (.ireturn, 1) := by decide +kernel
theorem c93_32 : mc_cd 93 32 = some (.iload_n 1, 1) := by decide +kernel
theorem c93_33 : mc_cd 93 33 = some (.aload_n 0, 1) := by decide +kernel
theorem c93_34 : mc_cd 93 34 = some (.getfield 30, 3) := by decide +kernel
theorem c93_37 : mc_cd 93 37 = some (.getfield 177, 3) := by decide +kernel
theorem c93_40 : mc_cd 93 40 = some (.if_icmp .lt 9, 3) := by decide +kernel
theorem c93_43 : mc_cd 93 43 = some (.aload_n 0, 1) := by decide +kernel
theorem c93_44 : mc_cd 93 44 = some (.iconst 1, 1) := by decide +kernel
theorem c93_45 : mc_cd 93 45 = some (.invokevirtual 70, 3) := by decide +kernel
theorem c93_48 : mc_cd 93 48 = some (.ireturn, 1) := by decide +kernel
theorem c93_49 : mc_cd 93 49 = some (.aload_n 0, 1) := by decide +kernel
theorem c93_50 : mc_cd 93 50 = some (.aload_n 0, 1) := by decide +kernel
theorem c93_51 : mc_cd 93 51 = some (.getfield 51, 3) := by decide +kernel
theorem c93_54 : mc_cd 93 54 = some (.aload_n 0, 1) := by decide +kernel
theorem c93_55 : mc_cd 93 55 = some (.getfield 30, 3) := by decide +kernel
theorem c93_58 : mc_cd 93 58 = some (.iload_n 1, 1) := by decide +kernel
theorem c93_59 : mc_cd 93 59 = some (.invokevirtual 180, 3) := by decide +kernel
theorem c93_62 : mc_cd 93 62 = some (.iload_n 2, 1) := by decide +kernel
theorem c93_63 : mc_cd 93 63 = some (.invokevirtual 183, 3) := by decide +kernel
theorem c93_66 : mc_cd 93 66 = some (.invokevirtual 99, 3) := by decide +kernel
theorem c93_69 : mc_cd 93 69 = some (.ireturn, 1) := by decide +kernel
abbrev q_93 (r0 : Nat) (a1 : Int) (a2 : Int) (T : wq_T) (H : wq_H) : Option Value → wq_T → wq_H → Prop := fun r T' H' => T = T' ∧ WT T H' ∧ wfr [(12, 5), (12, 6), (12, 7), (12, 8), (12, 9), (1, 10), (6, 5), (8, 999), (10, 999), (15, 999), (9, 999), (18, 999), (19, 999), (7, 999), (11, 999), (17, 999), (13, 999)] T H H' ∧ ∃ z : Int, some (vI z) = r ∧ ((-2147483648) ≤ z ∧ z ≤ 2147483647)
set_option maxHeartbeats 4000000 in
theorem s_93 {kt : Nat → Option mc_E} {T : wq_T} {H : wq_H} {r0 : Nat} {a1 : Int} {a2 : Int} (hW : WT T H) (g0 : T.2.2.2 r0 = some 1) (i1 : (-2147483648) ≤ a1 ∧ a1 ≤ 2147483647) (i2 : (-2147483648) ≤ a2 ∧ a2 ≤ 2147483647) : wpc kt 6 93 [.ref r0, vI a1, vI a2] T H (q_93 r0 a1 a2 T H) := by
  refine wp_enter e93 (Nat.le_of_ble_eq_true rfl) rfl ?_
  have f0 : wfr [(12, 5), (12, 6), (12, 7), (12, 8), (12, 9), (1, 10), (6, 5), (8, 999), (10, 999), (15, 999), (9, 999), (18, 999), (19, 999), (7, 999), (11, 999), (17, 999), (13, 999)] T H H := wfr.rf
  show wp _ _ 93 0 [(0, .ref r0), (1, vI a1), (2, vI a2)] [] _ H _
  refine wp_of e93 c93_0 (rw_aload_n (pc' := 1) (v := .ref r0) rfl rfl rfl ?_)
  refine wp_of e93 c93_1 (rw_aload_n (pc' := 2) (v := .ref r0) rfl rfl rfl ?_)
  refine wp_of e93 c93_2 (rw_iload_n (pc' := 3) (z := a2) rfl rfl ?_)
  refine wp_of e93 c93_3 (xc_V (pc' := 6) (r := r0) (as := [vI a2]) (st := [.ref r0]) (lm_0_105) rfl rfl (Nat.le_of_ble_eq_true rfl) hW g0 sh_1 (by decide) rfl (by decide) (s_55 hW g0 ⟨by omega, by omega⟩) (fun R28875 T28876 H28877 p28878 => ?_))
  obtain ⟨e28879, e28881, z28883, e28880, b28884, p28882⟩ := p28878
  subst e28879
  subst e28880
  subst e28881
  show wp _ _ 93 6 [(0, .ref r0), (1, vI a1), (2, vI a2)] [vI z28883, .ref r0] _ H _
  refine wp_of e93 c93_6 (rw_if_eq (p1 := 17) (p2 := 9) (by decide) rfl ⟨by omega, by omega⟩ (fun c28885 => ?_) (fun c28885 => ?_))
  · refine wp_of e93 c93_17 (rw_iconst (pc' := 18) rfl ?_)
    refine wp_of e93 c93_18 (xc_V (pc' := 21) (r := r0) (as := [vI 0]) (st := []) (lm_0_174) rfl rfl (Nat.le_of_ble_eq_true rfl) hW g0 sh_1 (by decide) rfl (by decide) (s_83 hW g0 ⟨by omega, by omega⟩) (fun R28886 T28887 H28888 p28889 => ?_))
    obtain ⟨e28890, w28892, f28893, z28895, e28891, b28896, p28894⟩ := p28889
    subst e28890
    subst e28891
    have f28897 := f0.tr f28893 rfl
    show wp _ _ 93 21 [(0, .ref r0), (1, vI a1), (2, vI a2)] [vI z28895] _ H28888 _
    refine wp_of e93 c93_21 (rw_istore_n (pc' := 22) (z := z28895) (L' := [(3, vI z28895), (0, .ref r0), (1, vI a1), (2, vI a2)]) rfl rfl rfl ?_)
    refine wp_of e93 c93_22 (rw_iload_n (pc' := 23) (z := z28895) rfl rfl ?_)
    refine wp_of e93 c93_23 (rw_if_eq (p1 := 32) (p2 := 26) (by decide) rfl ⟨by omega, by omega⟩ (fun c28898 => ?_) (fun c28898 => ?_))
    · exfalso
      omega
    · refine wp_of e93 c93_26 (rw_aload_n (pc' := 27) (v := .ref r0) rfl rfl rfl ?_)
      refine wp_of e93 c93_27 (rw_iload_n (pc' := 28) (z := z28895) rfl rfl ?_)
      refine wp_of e93 c93_28 (xc_V (pc' := 31) (r := r0) (as := [vI z28895]) (st := []) (lm_0_70) rfl rfl (Nat.le_of_ble_eq_true rfl) w28892 g0 sh_1 (by decide) rfl (by decide) (s_12 w28892 g0 ⟨by omega, by omega⟩) (fun R28899 T28900 H28901 p28902 => ?_))
      obtain ⟨e28903, w28905, f28906, z28907, e28904, b28908⟩ := p28902
      subst e28903
      subst e28904
      have f28909 := f28897.tr f28906 rfl
      show wp _ _ 93 31 [(3, vI z28895), (0, .ref r0), (1, vI a1), (2, vI a2)] [vI z28907] _ H28901 _
      exact wp_ireturn e93 c93_31 rfl ⟨rfl, w28905, f28909, z28907, rfl, ⟨by omega, by omega⟩⟩
  · refine wp_of e93 c93_9 (rw_iload_n (pc' := 10) (z := a1) rfl rfl ?_)
    refine wp_of e93 c93_10 (rw_if_lt (p1 := 17) (p2 := 13) (by decide) rfl ⟨by omega, by omega⟩ (fun c28910 => ?_) (fun c28910 => ?_))
    · refine wp_of e93 c93_17 (rw_iconst (pc' := 18) rfl ?_)
      refine wp_of e93 c93_18 (xc_V (pc' := 21) (r := r0) (as := [vI 0]) (st := []) (lm_0_174) rfl rfl (Nat.le_of_ble_eq_true rfl) hW g0 sh_1 (by decide) rfl (by decide) (s_83 hW g0 ⟨by omega, by omega⟩) (fun R28911 T28912 H28913 p28914 => ?_))
      obtain ⟨e28915, w28917, f28918, z28920, e28916, b28921, p28919⟩ := p28914
      subst e28915
      subst e28916
      have f28922 := f0.tr f28918 rfl
      show wp _ _ 93 21 [(0, .ref r0), (1, vI a1), (2, vI a2)] [vI z28920] _ H28913 _
      refine wp_of e93 c93_21 (rw_istore_n (pc' := 22) (z := z28920) (L' := [(3, vI z28920), (0, .ref r0), (1, vI a1), (2, vI a2)]) rfl rfl rfl ?_)
      refine wp_of e93 c93_22 (rw_iload_n (pc' := 23) (z := z28920) rfl rfl ?_)
      refine wp_of e93 c93_23 (rw_if_eq (p1 := 32) (p2 := 26) (by decide) rfl ⟨by omega, by omega⟩ (fun c28923 => ?_) (fun c28923 => ?_))
      · exfalso
        omega
      · refine wp_of e93 c93_26 (rw_aload_n (pc' := 27) (v := .ref r0) rfl rfl rfl ?_)
        refine wp_of e93 c93_27 (rw_iload_n (pc' := 28) (z := z28920) rfl rfl ?_)
        refine wp_of e93 c93_28 (xc_V (pc' := 31) (r := r0) (as := [vI z28920]) (st := []) (lm_0_70) rfl rfl (Nat.le_of_ble_eq_true rfl) w28917 g0 sh_1 (by decide) rfl (by decide) (s_12 w28917 g0 ⟨by omega, by omega⟩) (fun R28924 T28925 H28926 p28927 => ?_))
        obtain ⟨e28928, w28930, f28931, z28932, e28929, b28933⟩ := p28927
        subst e28928
        subst e28929
        have f28934 := f28922.tr f28931 rfl
        show wp _ _ 93 31 [(3, vI z28920), (0, .ref r0), (1, vI a1), (2, vI a2)] [vI z28932] _ H28926 _
        exact wp_ireturn e93 c93_31 rfl ⟨rfl, w28930, f28934, z28932, rfl, ⟨by omega, by omega⟩⟩
    · refine wp_of e93 c93_13 (rw_iconst (pc' := 14) rfl ?_)
      refine wp_of e93 c93_14 (rw_goto (p1 := 18) (by decide) ?_)
      refine wp_of e93 c93_18 (xc_V (pc' := 21) (r := r0) (as := [vI 1]) (st := []) (lm_0_174) rfl rfl (Nat.le_of_ble_eq_true rfl) hW g0 sh_1 (by decide) rfl (by decide) (s_83 hW g0 ⟨by omega, by omega⟩) (fun R28935 T28936 H28937 p28938 => ?_))
      obtain ⟨e28939, w28941, f28942, z28944, e28940, b28945, p28943⟩ := p28938
      subst e28939
      subst e28940
      have f28946 := f0.tr f28942 rfl
      show wp _ _ 93 21 [(0, .ref r0), (1, vI a1), (2, vI a2)] [vI z28944] _ H28937 _
      refine wp_of e93 c93_21 (rw_istore_n (pc' := 22) (z := z28944) (L' := [(3, vI z28944), (0, .ref r0), (1, vI a1), (2, vI a2)]) rfl rfl rfl ?_)
      refine wp_of e93 c93_22 (rw_iload_n (pc' := 23) (z := z28944) rfl rfl ?_)
      refine wp_of e93 c93_23 (rw_if_eq (p1 := 32) (p2 := 26) (by decide) rfl ⟨by omega, by omega⟩ (fun c28947 => ?_) (fun c28947 => ?_))
      · refine wp_of e93 c93_32 (rw_iload_n (pc' := 33) (z := a1) rfl rfl ?_)
        refine wp_of e93 c93_33 (rw_aload_n (pc' := 34) (v := .ref r0) rfl rfl rfl ?_)
        refine wp_of e93 c93_34 (xg_R (pc' := 37) lf_0_30 w28941 g0 sh_1 (by decide) (by decide) ty_1_3 rfl rfl (fun r28948 q28949 g28950 => ?_))
        refine wp_of e93 c93_37 (xg_I (pc' := 40) lf_0_177 w28941 g28950 sh_12 (by decide) (by decide) ty_12_5 rfl rfl (fun b28951 b28952 => ?_))
        refine wp_of e93 c93_40 (rw_icmp_lt (p1 := 49) (p2 := 43) (by decide) rfl ⟨by omega, by omega⟩ ⟨by omega, by omega⟩ (fun c28953 => ?_) (fun c28953 => ?_))
        · refine wp_of e93 c93_49 (rw_aload_n (pc' := 50) (v := .ref r0) rfl rfl rfl ?_)
          refine wp_of e93 c93_50 (rw_aload_n (pc' := 51) (v := .ref r0) rfl rfl rfl ?_)
          refine wp_of e93 c93_51 (xg_R (pc' := 54) lf_0_51 w28941 g0 sh_1 (by decide) (by decide) ty_1_6 rfl rfl (fun r28954 q28955 g28956 => ?_))
          refine wp_of e93 c93_54 (rw_aload_n (pc' := 55) (v := .ref r0) rfl rfl rfl ?_)
          refine wp_of e93 c93_55 (xg_K (pc' := 58) lf_0_30 w28941 g0 sh_1 (by decide) (by decide) rfl q28949 rfl ?_)
          refine wp_of e93 c93_58 (rw_iload_n (pc' := 59) (z := a1) rfl rfl ?_)
          refine wp_of e93 c93_59 (xc_V (pc' := 62) (r := r28948) (as := [vI a1]) (st := [.ref r28954, .ref r0]) (lm_0_180) rfl rfl (Nat.le_of_ble_eq_true rfl) w28941 g28950 sh_12 (by decide) rfl (by decide) (s_94 w28941 g28950 ⟨by omega, by omega⟩) (fun R28957 T28958 H28959 p28960 => ?_))
          obtain ⟨e28961, e28963, z28964, e28962, b28965⟩ := p28960
          subst e28961
          subst e28962
          subst e28963
          show wp _ _ 93 62 [(3, vI z28944), (0, .ref r0), (1, vI a1), (2, vI a2)] [vI z28964, .ref r28954, .ref r0] _ H28937 _
          refine wp_of e93 c93_62 (rw_iload_n (pc' := 63) (z := a2) rfl rfl ?_)
          refine wp_of e93 c93_63 (xc_V (pc' := 66) (r := r28954) (as := [vI z28964, vI a2]) (st := [.ref r0]) (lm_0_183) rfl rfl (Nat.le_of_ble_eq_true rfl) w28941 g28956 sh_27 (by decide) rfl (by decide) (s_96 w28941 g28956 ⟨by omega, by omega⟩ ⟨by omega, by omega⟩) (fun R28966 T28967 H28968 p28969 => ?_))
          obtain ⟨e28970, e28972, z28973, e28971, b28974⟩ := p28969
          subst e28970
          subst e28971
          subst e28972
          show wp _ _ 93 66 [(3, vI z28944), (0, .ref r0), (1, vI a1), (2, vI a2)] [vI z28973, .ref r0] _ H28937 _
          refine wp_of e93 c93_66 (xc_V (pc' := 69) (r := r0) (as := [vI z28973]) (st := []) (lm_0_99) rfl rfl (Nat.le_of_ble_eq_true rfl) w28941 g0 sh_1 (by decide) rfl (by decide) (s_51 w28941 g0 ⟨by omega, by omega⟩) (fun R28975 T28976 H28977 p28978 => ?_))
          obtain ⟨e28979, w28981, f28982, z28983, e28980, b28984⟩ := p28978
          subst e28979
          subst e28980
          have f28985 := f28946.tr f28982 rfl
          show wp _ _ 93 69 [(3, vI z28944), (0, .ref r0), (1, vI a1), (2, vI a2)] [vI z28983] _ H28977 _
          exact wp_ireturn e93 c93_69 rfl ⟨rfl, w28981, f28985, z28983, rfl, ⟨by omega, by omega⟩⟩
        · refine wp_of e93 c93_43 (rw_aload_n (pc' := 44) (v := .ref r0) rfl rfl rfl ?_)
          refine wp_of e93 c93_44 (rw_iconst (pc' := 45) rfl ?_)
          refine wp_of e93 c93_45 (xc_V (pc' := 48) (r := r0) (as := [vI 1]) (st := []) (lm_0_70) rfl rfl (Nat.le_of_ble_eq_true rfl) w28941 g0 sh_1 (by decide) rfl (by decide) (s_12 w28941 g0 ⟨by omega, by omega⟩) (fun R28986 T28987 H28988 p28989 => ?_))
          obtain ⟨e28990, w28992, f28993, z28994, e28991, b28995⟩ := p28989
          subst e28990
          subst e28991
          have f28996 := f28946.tr f28993 rfl
          show wp _ _ 93 48 [(3, vI z28944), (0, .ref r0), (1, vI a1), (2, vI a2)] [vI z28994] _ H28988 _
          exact wp_ireturn e93 c93_48 rfl ⟨rfl, w28992, f28996, z28994, rfl, ⟨by omega, by omega⟩⟩
      · refine wp_of e93 c93_26 (rw_aload_n (pc' := 27) (v := .ref r0) rfl rfl rfl ?_)
        refine wp_of e93 c93_27 (rw_iload_n (pc' := 28) (z := z28944) rfl rfl ?_)
        refine wp_of e93 c93_28 (xc_V (pc' := 31) (r := r0) (as := [vI z28944]) (st := []) (lm_0_70) rfl rfl (Nat.le_of_ble_eq_true rfl) w28941 g0 sh_1 (by decide) rfl (by decide) (s_12 w28941 g0 ⟨by omega, by omega⟩) (fun R28997 T28998 H28999 p29000 => ?_))
        obtain ⟨e29001, w29003, f29004, z29005, e29002, b29006⟩ := p29000
        subst e29001
        subst e29002
        have f29007 := f28946.tr f29004 rfl
        show wp _ _ 93 31 [(3, vI z28944), (0, .ref r0), (1, vI a1), (2, vI a2)] [vI z29005] _ H28999 _
        exact wp_ireturn e93 c93_31 rfl ⟨rfl, w29003, f29007, z29005, rfl, ⟨by omega, by omega⟩⟩
/-! StrikeAwake.weights()J -/
theorem e97 : wq_en 97 = some (0, 2, false, some FieldType.long) := rfl
theorem c97_0 : mc_cd 97 0 = some (.aload_n 0, 1) := by decide +kernel
theorem c97_1 : mc_cd 97 1 = some (.aload_n 0, 1) := by decide +kernel
theorem c97_2 : mc_cd 97 2 = some (.getfield 58, 3) := by decide +kernel
theorem c97_5 : mc_cd 97 5 = some (.invokevirtual 174, 3) := by decide +kernel
theorem c97_8 : mc_cd 97 8 = some (.istore_n 1, 1) := by decide +kernel
theorem c97_9 : mc_cd 97 9 = some (.iload_n 1, 1) := by decide +kernel
theorem c97_10 : mc_cd 97 10 = some (.ifCond .eq 10, 3) := by decide +kernel
theorem c97_13 : mc_cd 97 13 = some (.aload_n 0, 1) := by decide +kernel
theorem c97_14 : mc_cd 97 14 = some (.iload_n 1, 1) := by decide +kernel
theorem c97_15 : mc_cd 97 15 = some (.invokevirtual 70, 3) := by decide +kernel
theorem c97_18 : mc_cd 97 18 = some (.i2l, 1) := by decide +kernel
theorem c97_19 : mc_cd 97 19 = some (.lreturn, 1) := by decide +kernel
theorem c97_20 : mc_cd 97 20 = some (.aload_n 0, 1) := by decide +kernel
theorem c97_21 : mc_cd 97 21 = some (.iconst 0, 1) := by decide +kernel
theorem c97_22 : mc_cd 97 22 = some (.putfield 102, 3) := by decide +kernel
theorem c97_25 : mc_cd 97 25 = some (.aload_n 0, 1) := by decide +kernel
theorem c97_26 : mc_cd 97 26 = some (.getfield 30, 3) := by decide +kernel
theorem c97_29 : mc_cd 97 29 = some (.getfield 187, 3) := by decide +kernel
theorem c97_32 : mc_cd 97 32 = some (.lreturn, 1) := by decide +kernel
abbrev q_97 (r0 : Nat) (T : wq_T) (H : wq_H) : Option Value → wq_T → wq_H → Prop := fun r T' H' => T = T' ∧ WT T H' ∧ wfr [(12, 5), (12, 6), (12, 7), (12, 8), (12, 9), (1, 10), (6, 5), (8, 999), (10, 999), (15, 999), (9, 999), (18, 999), (19, 999), (7, 999), (11, 999), (17, 999), (13, 999)] T H H' ∧ ∃ z : Int, some (vL z) = r ∧ ((-9223372036854775808) ≤ z ∧ z ≤ 9223372036854775807)
set_option maxHeartbeats 4000000 in
theorem s_97 {kt : Nat → Option mc_E} {T : wq_T} {H : wq_H} {r0 : Nat} (hW : WT T H) (g0 : T.2.2.2 r0 = some 1) : wpc kt 6 97 [.ref r0] T H (q_97 r0 T H) := by
  refine wp_enter e97 (Nat.le_of_ble_eq_true rfl) rfl ?_
  have f0 : wfr [(12, 5), (12, 6), (12, 7), (12, 8), (12, 9), (1, 10), (6, 5), (8, 999), (10, 999), (15, 999), (9, 999), (18, 999), (19, 999), (7, 999), (11, 999), (17, 999), (13, 999)] T H H := wfr.rf
  show wp _ _ 97 0 [(0, .ref r0)] [] _ H _
  refine wp_of e97 c97_0 (rw_aload_n (pc' := 1) (v := .ref r0) rfl rfl rfl ?_)
  refine wp_of e97 c97_1 (rw_aload_n (pc' := 2) (v := .ref r0) rfl rfl rfl ?_)
  refine wp_of e97 c97_2 (xg_I (pc' := 5) lf_0_58 hW g0 sh_1 (by decide) (by decide) ty_1_8 rfl rfl (fun b29044 b29045 => ?_))
  refine wp_of e97 c97_5 (xc_V (pc' := 8) (r := r0) (as := [vI (H r0 8)]) (st := []) (lm_0_174) rfl rfl (Nat.le_of_ble_eq_true rfl) hW g0 sh_1 (by decide) rfl (by decide) (s_83 hW g0 ⟨by omega, by omega⟩) (fun R29046 T29047 H29048 p29049 => ?_))
  obtain ⟨e29050, w29052, f29053, z29055, e29051, b29056, p29054⟩ := p29049
  subst e29050
  subst e29051
  have f29057 := f0.tr f29053 rfl
  show wp _ _ 97 8 [(0, .ref r0)] [vI z29055] _ H29048 _
  refine wp_of e97 c97_8 (rw_istore_n (pc' := 9) (z := z29055) (L' := [(1, vI z29055), (0, .ref r0)]) rfl rfl rfl ?_)
  refine wp_of e97 c97_9 (rw_iload_n (pc' := 10) (z := z29055) rfl rfl ?_)
  refine wp_of e97 c97_10 (rw_if_eq (p1 := 20) (p2 := 13) (by decide) rfl ⟨by omega, by omega⟩ (fun c29058 => ?_) (fun c29058 => ?_))
  · refine wp_of e97 c97_20 (rw_aload_n (pc' := 21) (v := .ref r0) rfl rfl rfl ?_)
    refine wp_of e97 c97_21 (rw_iconst (pc' := 22) rfl ?_)
    refine wp_of e97 c97_22 (xp_I (pc' := 25) lf_0_102 w29052 g0 sh_1 (by decide) (by decide) ty_1_10 rfl rfl (by omega) (by omega) ⟨by omega, by omega⟩ rfl (fun H29059 e29060 w29061 => ?_))
    have f29062 := f29057.put' e29060 g0 rfl
    have k29063 : H29059 r0 10 = 0 := wq_u_s e29060
    refine wp_of e97 c97_25 (rw_aload_n (pc' := 26) (v := .ref r0) rfl rfl rfl ?_)
    refine wp_of e97 c97_26 (xg_R (pc' := 29) lf_0_30 w29061 g0 sh_1 (by decide) (by decide) ty_1_3 rfl rfl (fun r29064 q29065 g29066 => ?_))
    refine wp_of e97 c97_29 (xg_L (pc' := 32) lf_0_187 w29061 g29066 sh_12 (by decide) (by decide) ty_12_6 rfl rfl (fun b29067 b29068 => ?_))
    exact wp_lreturn e97 c97_32 rfl ⟨rfl, w29061, f29062, H29059 r29064 6, rfl, ⟨by omega, by omega⟩⟩
  · refine wp_of e97 c97_13 (rw_aload_n (pc' := 14) (v := .ref r0) rfl rfl rfl ?_)
    refine wp_of e97 c97_14 (rw_iload_n (pc' := 15) (z := z29055) rfl rfl ?_)
    refine wp_of e97 c97_15 (xc_V (pc' := 18) (r := r0) (as := [vI z29055]) (st := []) (lm_0_70) rfl rfl (Nat.le_of_ble_eq_true rfl) w29052 g0 sh_1 (by decide) rfl (by decide) (s_12 w29052 g0 ⟨by omega, by omega⟩) (fun R29069 T29070 H29071 p29072 => ?_))
    obtain ⟨e29073, w29075, f29076, z29077, e29074, b29078⟩ := p29072
    subst e29073
    subst e29074
    have f29079 := f29057.tr f29076 rfl
    show wp _ _ 97 18 [(1, vI z29055), (0, .ref r0)] [vI z29077] _ H29071 _
    refine wp_of e97 c97_18 (rw_i2l (pc' := 19) rfl ⟨by omega, by omega⟩ ?_)
    exact wp_lreturn e97 c97_19 rfl ⟨rfl, w29075, f29079, z29077, rfl, ⟨by omega, by omega⟩⟩
