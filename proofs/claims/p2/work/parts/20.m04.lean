/-! methods (own work, written by wip/gen2/sx.py) -/
/-! StrikeAwake.isHour(I)Z -/
theorem e60 : wq_en 60 = some (0, 2, false, some FieldType.boolean) := rfl
theorem c60_0 : mc_cd 60 0 = some (.iload_n 1, 1) := by decide +kernel
theorem c60_1 : mc_cd 60 1 = some (.ifCond .lt 18, 3) := by decide +kernel
theorem c60_4 : mc_cd 60 4 = some (.iload_n 1, 1) := by decide +kernel
theorem c60_5 : mc_cd 60 5 = some (.aload_n 0, 1) := by decide +kernel
theorem c60_6 : mc_cd 60 6 = some (.getfield 51, 3) := by decide +kernel
theorem c60_9 : mc_cd 60 9 = some (.getfield 339, 3) := by decide +kernel
theorem c60_12 : mc_cd 60 12 = some (.if_icmp .ge 7, 3) := by decide +kernel
theorem c60_15 : mc_cd 60 15 = some (.iconst 1, 1) := by decide +kernel
theorem c60_16 : mc_cd 60 16 = some (.goto 4, 3) := by decide +kernel
theorem c60_19 : mc_cd 60 19 = some (.iconst 0, 1) := by decide +kernel
theorem c60_20 : mc_cd 60 20 = some (.ireturn, 1) := by decide +kernel
abbrev q_60 (r0 : Nat) (a1 : Int) (T : wq_T) (H : wq_H) : Option Value → wq_T → wq_H → Prop := fun r T' H' => T = T' ∧ H = H' ∧ ∃ z : Int, some (vI z) = r ∧ (0 ≤ z ∧ z ≤ 1) ∧ (z = 0 ∨ (0 ≤ a1 ∧ a1 ≤ 23))
set_option maxHeartbeats 4000000 in
theorem s_60 {kt : Nat → Option mc_E} {T : wq_T} {H : wq_H} {r0 : Nat} {a1 : Int} (hW : WT T H) (g0 : T.2.2.2 r0 = some 1) (i1 : (-2147483648) ≤ a1 ∧ a1 ≤ 2147483647) : wpc kt 1 60 [.ref r0, vI a1] T H (q_60 r0 a1 T H) := by
  refine wp_enter e60 (Nat.le_of_ble_eq_true rfl) rfl ?_
  show wp _ _ 60 0 [(0, .ref r0), (1, vI a1)] [] _ H _
  refine wp_of e60 c60_0 (rw_iload_n (pc' := 1) (z := a1) rfl rfl ?_)
  refine wp_of e60 c60_1 (rw_if_lt (p1 := 19) (p2 := 4) (by decide) rfl ⟨by omega, by omega⟩ (fun c17337 => ?_) (fun c17337 => ?_))
  · refine wp_of e60 c60_19 (rw_iconst (pc' := 20) rfl ?_)
    exact wp_zreturn e60 c60_20 rfl (by omega) ⟨rfl, rfl, 0, rfl, ⟨by omega, by omega⟩, by omega⟩
  · refine wp_of e60 c60_4 (rw_iload_n (pc' := 5) (z := a1) rfl rfl ?_)
    refine wp_of e60 c60_5 (rw_aload_n (pc' := 6) (v := .ref r0) rfl rfl rfl ?_)
    refine wp_of e60 c60_6 (xg_R (pc' := 9) lf_0_51 hW g0 sh_1 (by decide) (by decide) ty_1_6 rfl rfl (fun r17338 q17339 g17340 => ?_))
    refine wp_of e60 c60_9 (xg_I (pc' := 12) lf_0_339 hW g17340 sh_27 (by decide) (by decide) ty_27_7 rfl rfl (fun b17341 b17342 => ?_))
    refine wp_of e60 c60_12 (rw_icmp_ge (p1 := 19) (p2 := 15) (by decide) rfl ⟨by omega, by omega⟩ ⟨by omega, by omega⟩ (fun c17343 => ?_) (fun c17343 => ?_))
    · refine wp_of e60 c60_19 (rw_iconst (pc' := 20) rfl ?_)
      exact wp_zreturn e60 c60_20 rfl (by omega) ⟨rfl, rfl, 0, rfl, ⟨by omega, by omega⟩, by omega⟩
    · refine wp_of e60 c60_15 (rw_iconst (pc' := 16) rfl ?_)
      refine wp_of e60 c60_16 (rw_goto (p1 := 20) (by decide) ?_)
      exact wp_zreturn e60 c60_20 rfl (by omega) ⟨rfl, rfl, 1, rfl, ⟨by omega, by omega⟩, by omega⟩
/-! StrikeAwake.awake(III)I -/
theorem e59 : wq_en 59 = some (0, 4, false, some FieldType.int) := rfl
theorem c59_0 : mc_cd 59 0 = some (.aload_n 0, 1) := by decide +kernel
theorem c59_1 : mc_cd 59 1 = some (.iload_n 1, 1) := by decide +kernel
theorem c59_2 : mc_cd 59 2 = some (.iload_n 2, 1) := by decide +kernel
theorem c59_3 : mc_cd 59 3 = some (.invokevirtual 118, 3) := by decide +kernel
theorem c59_6 : mc_cd 59 6 = some (.ifCond .eq 11, 3) := by decide +kernel
theorem c59_9 : mc_cd 59 9 = some (.aload_n 0, 1) := by decide +kernel
theorem c59_10 : mc_cd 59 10 = some (.iload_n 3, 1) := by decide +kernel
theorem c59_11 : mc_cd 59 11 = some (.invokevirtual 132, 3) := by decide +kernel
theorem c59_14 : mc_cd 59 14 = some (.ifCond .ne 9, 3) := by decide +kernel
theorem c59_17 : mc_cd 59 17 = some (.aload_n 0, 1) := by decide +kernel
theorem c59_18 : mc_cd 59 18 = some (.iconst 1, 1) := by decide +kernel
theorem c59_19 : mc_cd 59 19 = some (.invokevirtual 70, 3) := by decide +kernel
theorem c59_22 : mc_cd 59 22 = some (.ireturn, 1) := by decide +kernel
theorem c59_23 : mc_cd 59 23 = some (.aload_n 0, 1) := by decide +kernel
theorem c59_24 : mc_cd 59 24 = some (.aload_n 0, 1) := by decide +kernel
theorem c59_25 : mc_cd 59 25 = some (.getfield 51, 3) := by decide +kernel
theorem c59_28 : mc_cd 59 28 = some (.getfield 109, 3) := by decide +kernel
theorem c59_31 : mc_cd 59 31 = some (.iload_n 1, 1) := by decide +kernel
theorem c59_32 : mc_cd 59 32 = some (.aaload, 1) := by decide +kernel
theorem c59_33 : mc_cd 59 33 = some (.getfield 135, 3) := by decide +kernel
theorem c59_36 : mc_cd 59 36 = some (.iload_n 2, 1) := by decide +kernel
theorem c59_37 : mc_cd 59 37 = some (.iaload, 1) := by decide +kernel
theorem c59_38 : mc_cd 59 38 = some (.iload_n 3, 1) := by decide +kernel
theorem c59_39 : mc_cd 59 39 = some (.invokestatic 138, 3) := by decide +kernel
theorem c59_42 : mc_cd 59 42 = some (.ifCond .eq 7, 3) := by decide +kernel
theorem c59_45 : mc_cd 59 45 = some (.iconst 1, 1) := by decide +kernel
theorem c59_46 : mc_cd 59 46 = some (.goto 4, 3) := by decide +kernel
theorem c59_49 : mc_cd 59 49 = some (.iconst 0, 1) := by decide +kernel
theorem c59_50 : mc_cd 59 50 = some (.invokevirtual 99, 3) := by decide +kernel
theorem c59_53 : mc_cd 59 53 = some (.ireturn, 1) := by decide +kernel
abbrev q_59 (r0 : Nat) (a1 : Int) (a2 : Int) (a3 : Int) (T : wq_T) (H : wq_H) : Option Value → wq_T → wq_H → Prop := fun r T' H' => T = T' ∧ WT T H' ∧ wfr [(1, 10)] T H H' ∧ ∃ z : Int, some (vI z) = r ∧ ((-2147483648) ≤ z ∧ z ≤ 2147483647)
set_option maxHeartbeats 4000000 in
theorem s_59 {kt : Nat → Option mc_E} {T : wq_T} {H : wq_H} {r0 : Nat} {a1 : Int} {a2 : Int} {a3 : Int} (hW : WT T H) (g0 : T.2.2.2 r0 = some 1) (i1 : (-2147483648) ≤ a1 ∧ a1 ≤ 2147483647) (i2 : (-2147483648) ≤ a2 ∧ a2 ≤ 2147483647) (i3 : (-2147483648) ≤ a3 ∧ a3 ≤ 2147483647) : wpc kt 3 59 [.ref r0, vI a1, vI a2, vI a3] T H (q_59 r0 a1 a2 a3 T H) := by
  refine wp_enter e59 (Nat.le_of_ble_eq_true rfl) rfl ?_
  have f0 : wfr [(1, 10)] T H H := wfr.rf
  show wp _ _ 59 0 [(0, .ref r0), (1, vI a1), (2, vI a2), (3, vI a3)] [] _ H _
  refine wp_of e59 c59_0 (rw_aload_n (pc' := 1) (v := .ref r0) rfl rfl rfl ?_)
  refine wp_of e59 c59_1 (rw_iload_n (pc' := 2) (z := a1) rfl rfl ?_)
  refine wp_of e59 c59_2 (rw_iload_n (pc' := 3) (z := a2) rfl rfl ?_)
  refine wp_of e59 c59_3 (xc_V (pc' := 6) (r := r0) (as := [vI a1, vI a2]) (st := []) (lm_0_118) rfl rfl (Nat.le_of_ble_eq_true rfl) hW g0 sh_1 (by decide) rfl (by decide) (s_57 hW g0 ⟨by omega, by omega⟩ ⟨by omega, by omega⟩) (fun R17434 T17435 H17436 p17437 => ?_))
  obtain ⟨e17438, e17440, z17442, e17439, b17443, p17441⟩ := p17437
  subst e17438
  subst e17439
  subst e17440
  show wp _ _ 59 6 [(0, .ref r0), (1, vI a1), (2, vI a2), (3, vI a3)] [vI z17442] _ H _
  refine wp_of e59 c59_6 (rw_if_eq (p1 := 17) (p2 := 9) (by decide) rfl ⟨by omega, by omega⟩ (fun c17444 => ?_) (fun c17444 => ?_))
  · refine wp_of e59 c59_17 (rw_aload_n (pc' := 18) (v := .ref r0) rfl rfl rfl ?_)
    refine wp_of e59 c59_18 (rw_iconst (pc' := 19) rfl ?_)
    refine wp_of e59 c59_19 (xc_V (pc' := 22) (r := r0) (as := [vI 1]) (st := []) (lm_0_70) rfl rfl (Nat.le_of_ble_eq_true rfl) hW g0 sh_1 (by decide) rfl (by decide) (s_12 hW g0 ⟨by omega, by omega⟩) (fun R17445 T17446 H17447 p17448 => ?_))
    obtain ⟨e17449, w17451, f17452, z17453, e17450, b17454⟩ := p17448
    subst e17449
    subst e17450
    have f17455 := f0.tr f17452 rfl
    show wp _ _ 59 22 [(0, .ref r0), (1, vI a1), (2, vI a2), (3, vI a3)] [vI z17453] _ H17447 _
    exact wp_ireturn e59 c59_22 rfl ⟨rfl, w17451, f17455, z17453, rfl, ⟨by omega, by omega⟩⟩
  · refine wp_of e59 c59_9 (rw_aload_n (pc' := 10) (v := .ref r0) rfl rfl rfl ?_)
    refine wp_of e59 c59_10 (rw_iload_n (pc' := 11) (z := a3) rfl rfl ?_)
    refine wp_of e59 c59_11 (xc_V (pc' := 14) (r := r0) (as := [vI a3]) (st := []) (lm_0_132) rfl rfl (Nat.le_of_ble_eq_true rfl) hW g0 sh_1 (by decide) rfl (by decide) (s_60 hW g0 ⟨by omega, by omega⟩) (fun R17456 T17457 H17458 p17459 => ?_))
    obtain ⟨e17460, e17462, z17464, e17461, b17465, p17463⟩ := p17459
    subst e17460
    subst e17461
    subst e17462
    show wp _ _ 59 14 [(0, .ref r0), (1, vI a1), (2, vI a2), (3, vI a3)] [vI z17464] _ H _
    refine wp_of e59 c59_14 (rw_if_ne (p1 := 23) (p2 := 17) (by decide) rfl ⟨by omega, by omega⟩ (fun c17466 => ?_) (fun c17466 => ?_))
    · refine wp_of e59 c59_23 (rw_aload_n (pc' := 24) (v := .ref r0) rfl rfl rfl ?_)
      refine wp_of e59 c59_24 (rw_aload_n (pc' := 25) (v := .ref r0) rfl rfl rfl ?_)
      refine wp_of e59 c59_25 (xg_R (pc' := 28) lf_0_51 hW g0 sh_1 (by decide) (by decide) ty_1_6 rfl rfl (fun r17467 q17468 g17469 => ?_))
      refine wp_of e59 c59_28 (xg_R (pc' := 31) lf_0_109 hW g17469 sh_27 (by decide) (by decide) ty_27_0 rfl rfl (fun r17470 q17471 g17472 => ?_))
      refine wp_of e59 c59_31 (rw_iload_n (pc' := 32) (z := a1) rfl rfl ?_)
      refine wp_of e59 c59_32 (xa_R (pc' := 33) (by decide) hW g17472 sh_28 (by decide) (ty_28 _) (by omega) (by omega) rfl (fun r17473 q17474 g17475 => ?_))
      refine wp_of e59 c59_33 (xg_R (pc' := 36) lf_0_135 hW g17475 sh_35 (by decide) (by decide) ty_35_3 rfl rfl (fun r17476 q17477 g17478 => ?_))
      refine wp_of e59 c59_36 (rw_iload_n (pc' := 37) (z := a2) rfl rfl ?_)
      refine wp_of e59 c59_37 (xa_I (so := 0) (pc' := 38) hW g17478 sh_39 (by decide) (ty_39 _) (by omega) (by omega) rfl (fun b17479 b17480 => ?_))
      refine wp_of e59 c59_38 (rw_iload_n (pc' := 39) (z := a3) rfl rfl ?_)
      refine wp_of e59 c59_39 (xc_S (pc' := 42) (as := [vI (H r17476 a2.toNat), vI a3]) (st := [.ref r0]) (lm_0_138) rfl rfl (Nat.le_of_ble_eq_true rfl) rfl (by decide) (s_36 hW ⟨by omega, by omega⟩ ⟨by omega, by omega⟩) (fun R17481 T17482 H17483 p17484 => ?_))
      obtain ⟨e17485, e17487, z17488, e17486, b17489⟩ := p17484
      subst e17485
      subst e17486
      subst e17487
      show wp _ _ 59 42 [(0, .ref r0), (1, vI a1), (2, vI a2), (3, vI a3)] [vI z17488, .ref r0] _ H _
      refine wp_of e59 c59_42 (rw_if_eq (p1 := 49) (p2 := 45) (by decide) rfl ⟨by omega, by omega⟩ (fun c17490 => ?_) (fun c17490 => ?_))
      · refine wp_of e59 c59_49 (rw_iconst (pc' := 50) rfl ?_)
        refine wp_of e59 c59_50 (xc_V (pc' := 53) (r := r0) (as := [vI 0]) (st := []) (lm_0_99) rfl rfl (Nat.le_of_ble_eq_true rfl) hW g0 sh_1 (by decide) rfl (by decide) (s_51 hW g0 ⟨by omega, by omega⟩) (fun R17491 T17492 H17493 p17494 => ?_))
        obtain ⟨e17495, w17497, f17498, z17499, e17496, b17500⟩ := p17494
        subst e17495
        subst e17496
        have f17501 := f0.tr f17498 rfl
        show wp _ _ 59 53 [(0, .ref r0), (1, vI a1), (2, vI a2), (3, vI a3)] [vI z17499] _ H17493 _
        exact wp_ireturn e59 c59_53 rfl ⟨rfl, w17497, f17501, z17499, rfl, ⟨by omega, by omega⟩⟩
      · refine wp_of e59 c59_45 (rw_iconst (pc' := 46) rfl ?_)
        refine wp_of e59 c59_46 (rw_goto (p1 := 50) (by decide) ?_)
        refine wp_of e59 c59_50 (xc_V (pc' := 53) (r := r0) (as := [vI 1]) (st := []) (lm_0_99) rfl rfl (Nat.le_of_ble_eq_true rfl) hW g0 sh_1 (by decide) rfl (by decide) (s_51 hW g0 ⟨by omega, by omega⟩) (fun R17502 T17503 H17504 p17505 => ?_))
        obtain ⟨e17506, w17508, f17509, z17510, e17507, b17511⟩ := p17505
        subst e17506
        subst e17507
        have f17512 := f0.tr f17509 rfl
        show wp _ _ 59 53 [(0, .ref r0), (1, vI a1), (2, vI a2), (3, vI a3)] [vI z17510] _ H17504 _
        exact wp_ireturn e59 c59_53 rfl ⟨rfl, w17508, f17512, z17510, rfl, ⟨by omega, by omega⟩⟩
    · refine wp_of e59 c59_17 (rw_aload_n (pc' := 18) (v := .ref r0) rfl rfl rfl ?_)
      refine wp_of e59 c59_18 (rw_iconst (pc' := 19) rfl ?_)
      refine wp_of e59 c59_19 (xc_V (pc' := 22) (r := r0) (as := [vI 1]) (st := []) (lm_0_70) rfl rfl (Nat.le_of_ble_eq_true rfl) hW g0 sh_1 (by decide) rfl (by decide) (s_12 hW g0 ⟨by omega, by omega⟩) (fun R17513 T17514 H17515 p17516 => ?_))
      obtain ⟨e17517, w17519, f17520, z17521, e17518, b17522⟩ := p17516
      subst e17517
      subst e17518
      have f17523 := f0.tr f17520 rfl
      show wp _ _ 59 22 [(0, .ref r0), (1, vI a1), (2, vI a2), (3, vI a3)] [vI z17521] _ H17515 _
      exact wp_ireturn e59 c59_22 rfl ⟨rfl, w17519, f17523, z17521, rfl, ⟨by omega, by omega⟩⟩
/-! StrikeAwake.lots()J -/
theorem e61 : wq_en 61 = some (0, 1, false, some FieldType.long) := rfl
theorem c61_0 : mc_cd 61 0 = some (.aload_n 0, 1) := by decide +kernel
theorem c61_1 : mc_cd 61 1 = some (.getfield 58, 3) := by decide +kernel
theorem c61_4 : mc_cd 61 4 = some (.ifCond .ne 10, 3) := by decide +kernel
theorem c61_7 : mc_cd 61 7 = some (.aload_n 0, 1) := by decide +kernel
theorem c61_8 : mc_cd 61 8 = some (.iconst 1, 1) := by decide +kernel
theorem c61_9 : mc_cd 61 9 = some (.invokevirtual 70, 3) := by decide +kernel
theorem c61_12 : mc_cd 61 12 = some (.i2l, 1) := by decide +kernel
theorem c61_13 : mc_cd 61 13 = some (.lreturn, 1) := by decide +kernel
theorem c61_14 : mc_cd 61 14 = some (.aload_n 0, 1) := by decide +kernel
theorem c61_15 : mc_cd 61 15 = some (.iconst 0, 1) := by decide +kernel
theorem c61_16 : mc_cd 61 16 = some (.putfield 102, 3) := by decide +kernel
theorem c61_19 : mc_cd 61 19 = some (.aload_n 0, 1) := by decide +kernel
theorem c61_20 : mc_cd 61 20 = some (.getfield 51, 3) := by decide +kernel
theorem c61_23 : mc_cd 61 23 = some (.getfield 141, 3) := by decide +kernel
theorem c61_26 : mc_cd 61 26 = some (.lreturn, 1) := by decide +kernel
abbrev q_61 (r0 : Nat) (T : wq_T) (H : wq_H) : Option Value → wq_T → wq_H → Prop := fun r T' H' => T = T' ∧ WT T H' ∧ wfr [(1, 10)] T H H' ∧ ∃ z : Int, some (vL z) = r ∧ ((-9223372036854775808) ≤ z ∧ z ≤ 9223372036854775807)
set_option maxHeartbeats 4000000 in
theorem s_61 {kt : Nat → Option mc_E} {T : wq_T} {H : wq_H} {r0 : Nat} (hW : WT T H) (g0 : T.2.2.2 r0 = some 1) : wpc kt 2 61 [.ref r0] T H (q_61 r0 T H) := by
  refine wp_enter e61 (Nat.le_of_ble_eq_true rfl) rfl ?_
  have f0 : wfr [(1, 10)] T H H := wfr.rf
  show wp _ _ 61 0 [(0, .ref r0)] [] _ H _
  refine wp_of e61 c61_0 (rw_aload_n (pc' := 1) (v := .ref r0) rfl rfl rfl ?_)
  refine wp_of e61 c61_1 (xg_I (pc' := 4) lf_0_58 hW g0 sh_1 (by decide) (by decide) ty_1_8 rfl rfl (fun b17548 b17549 => ?_))
  refine wp_of e61 c61_4 (rw_if_ne (p1 := 14) (p2 := 7) (by decide) rfl ⟨by omega, by omega⟩ (fun c17550 => ?_) (fun c17550 => ?_))
  · refine wp_of e61 c61_14 (rw_aload_n (pc' := 15) (v := .ref r0) rfl rfl rfl ?_)
    refine wp_of e61 c61_15 (rw_iconst (pc' := 16) rfl ?_)
    refine wp_of e61 c61_16 (xp_I (pc' := 19) lf_0_102 hW g0 sh_1 (by decide) (by decide) ty_1_10 rfl rfl (by omega) (by omega) ⟨by omega, by omega⟩ rfl (fun H17551 e17552 w17553 => ?_))
    have f17554 := f0.put' e17552 g0 rfl
    have k17555 : H17551 r0 10 = 0 := wq_u_s e17552
    refine wp_of e61 c61_19 (rw_aload_n (pc' := 20) (v := .ref r0) rfl rfl rfl ?_)
    refine wp_of e61 c61_20 (xg_R (pc' := 23) lf_0_51 w17553 g0 sh_1 (by decide) (by decide) ty_1_6 rfl rfl (fun r17556 q17557 g17558 => ?_))
    refine wp_of e61 c61_23 (xg_L (pc' := 26) lf_0_141 w17553 g17558 sh_27 (by decide) (by decide) ty_27_18 rfl rfl (fun b17559 b17560 => ?_))
    exact wp_lreturn e61 c61_26 rfl ⟨rfl, w17553, f17554, H17551 r17556 18, rfl, ⟨by omega, by omega⟩⟩
  · refine wp_of e61 c61_7 (rw_aload_n (pc' := 8) (v := .ref r0) rfl rfl rfl ?_)
    refine wp_of e61 c61_8 (rw_iconst (pc' := 9) rfl ?_)
    refine wp_of e61 c61_9 (xc_V (pc' := 12) (r := r0) (as := [vI 1]) (st := []) (lm_0_70) rfl rfl (Nat.le_of_ble_eq_true rfl) hW g0 sh_1 (by decide) rfl (by decide) (s_12 hW g0 ⟨by omega, by omega⟩) (fun R17561 T17562 H17563 p17564 => ?_))
    obtain ⟨e17565, w17567, f17568, z17569, e17566, b17570⟩ := p17564
    subst e17565
    subst e17566
    have f17571 := f0.tr f17568 rfl
    show wp _ _ 61 12 [(0, .ref r0)] [vI z17569] _ H17563 _
    refine wp_of e61 c61_12 (rw_i2l (pc' := 13) rfl ⟨by omega, by omega⟩ ?_)
    exact wp_lreturn e61 c61_13 rfl ⟨rfl, w17567, f17571, z17569, rfl, ⟨by omega, by omega⟩⟩
/-! StrikeAwake.deny(I)Z -/
theorem e63 : wq_en 63 = some (0, 2, false, some FieldType.boolean) := rfl
theorem c63_0 : mc_cd 63 0 = some (.aload_n 0, 1) := by decide +kernel
theorem c63_1 : mc_cd 63 1 = some (.iload_n 1, 1) := by decide +kernel
theorem c63_2 : mc_cd 63 2 = some (.putfield 102, 3) := by decide +kernel
theorem c63_5 : mc_cd 63 5 = some (.iconst 0, 1) := by decide +kernel
theorem c63_6 : mc_cd 63 6 = some (.ireturn, 1) := by decide +kernel
abbrev q_63 (r0 : Nat) (a1 : Int) (T : wq_T) (H : wq_H) : Option Value → wq_T → wq_H → Prop := fun r T' H' => T = T' ∧ WT T H' ∧ wfr [(1, 10)] T H H' ∧ ∃ z : Int, some (vI z) = r ∧ (0 ≤ z ∧ z ≤ 1)
set_option maxHeartbeats 4000000 in
theorem s_63 {kt : Nat → Option mc_E} {T : wq_T} {H : wq_H} {r0 : Nat} {a1 : Int} (hW : WT T H) (g0 : T.2.2.2 r0 = some 1) (i1 : (-2147483648) ≤ a1 ∧ a1 ≤ 2147483647) : wpc kt 1 63 [.ref r0, vI a1] T H (q_63 r0 a1 T H) := by
  refine wp_enter e63 (Nat.le_of_ble_eq_true rfl) rfl ?_
  have f0 : wfr [(1, 10)] T H H := wfr.rf
  show wp _ _ 63 0 [(0, .ref r0), (1, vI a1)] [] _ H _
  refine wp_of e63 c63_0 (rw_aload_n (pc' := 1) (v := .ref r0) rfl rfl rfl ?_)
  refine wp_of e63 c63_1 (rw_iload_n (pc' := 2) (z := a1) rfl rfl ?_)
  refine wp_of e63 c63_2 (xp_I (pc' := 5) lf_0_102 hW g0 sh_1 (by decide) (by decide) ty_1_10 rfl rfl (by omega) (by omega) ⟨by omega, by omega⟩ rfl (fun H17577 e17578 w17579 => ?_))
  have f17580 := f0.put' e17578 g0 rfl
  have k17581 : H17577 r0 10 = a1 := wq_u_s e17578
  refine wp_of e63 c63_5 (rw_iconst (pc' := 6) rfl ?_)
  exact wp_zreturn e63 c63_6 rfl (by omega) ⟨rfl, w17579, f17580, 0, rfl, ⟨by omega, by omega⟩⟩
/-! StrikeAwake.grant()Z -/
theorem e64 : wq_en 64 = some (0, 1, false, some FieldType.boolean) := rfl
theorem c64_0 : mc_cd 64 0 = some (.aload_n 0, 1) := by decide +kernel
theorem c64_1 : mc_cd 64 1 = some (.iconst 0, 1) := by decide +kernel
theorem c64_2 : mc_cd 64 2 = some (.putfield 102, 3) := by decide +kernel
theorem c64_5 : mc_cd 64 5 = some (.iconst 1, 1) := by decide +kernel
theorem c64_6 : mc_cd 64 6 = some (.ireturn, 1) := by decide +kernel
abbrev q_64 (r0 : Nat) (T : wq_T) (H : wq_H) : Option Value → wq_T → wq_H → Prop := fun r T' H' => T = T' ∧ WT T H' ∧ wfr [(1, 10)] T H H' ∧ ∃ z : Int, some (vI z) = r ∧ (0 ≤ z ∧ z ≤ 1)
set_option maxHeartbeats 4000000 in
theorem s_64 {kt : Nat → Option mc_E} {T : wq_T} {H : wq_H} {r0 : Nat} (hW : WT T H) (g0 : T.2.2.2 r0 = some 1) : wpc kt 1 64 [.ref r0] T H (q_64 r0 T H) := by
  refine wp_enter e64 (Nat.le_of_ble_eq_true rfl) rfl ?_
  have f0 : wfr [(1, 10)] T H H := wfr.rf
  show wp _ _ 64 0 [(0, .ref r0)] [] _ H _
  refine wp_of e64 c64_0 (rw_aload_n (pc' := 1) (v := .ref r0) rfl rfl rfl ?_)
  refine wp_of e64 c64_1 (rw_iconst (pc' := 2) rfl ?_)
  refine wp_of e64 c64_2 (xp_I (pc' := 5) lf_0_102 hW g0 sh_1 (by decide) (by decide) ty_1_10 rfl rfl (by omega) (by omega) ⟨by omega, by omega⟩ rfl (fun H17587 e17588 w17589 => ?_))
  have f17590 := f0.put' e17588 g0 rfl
  have k17591 : H17587 r0 10 = 0 := wq_u_s e17588
  refine wp_of e64 c64_5 (rw_iconst (pc' := 6) rfl ?_)
  exact wp_zreturn e64 c64_6 rfl (by omega) ⟨rfl, w17589, f17590, 1, rfl, ⟨by omega, by omega⟩⟩
/-! StrikeAwake.say(II)Z -/
theorem e62 : wq_en 62 = some (0, 3, false, some FieldType.boolean) := rfl
theorem c62_0 : mc_cd 62 0 = some (.aload_n 0, 1) := by decide +kernel
theorem c62_1 : mc_cd 62 1 = some (.iload_n 1, 1) := by decide +kernel
theorem c62_2 : mc_cd 62 2 = some (.iload_n 2, 1) := by decide +kernel
theorem c62_3 : mc_cd 62 3 = some (.invokevirtual 118, 3) := by decide +kernel
theorem c62_6 : mc_cd 62 6 = some (.ifCond .ne 9, 3) := by decide +kernel
theorem c62_9 : mc_cd 62 9 = some (.aload_n 0, 1) := by decide +kernel
theorem c62_10 : mc_cd 62 10 = some (.iconst 1, 1) := by decide +kernel
theorem c62_11 : mc_cd 62 11 = some (.invokevirtual 145, 3) := by decide +kernel
theorem c62_14 : mc_cd 62 14 = some (.ireturn, 1) := by decide +kernel
theorem c62_15 : mc_cd 62 15 = some (.aload_n 0, 1) := by decide +kernel
theorem c62_16 : mc_cd 62 16 = some (.getfield 51, 3) := by decide +kernel
theorem c62_19 : mc_cd 62 19 = some (.getfield 109, 3) := by decide +kernel
theorem c62_22 : mc_cd 62 22 = some (.iload_n 1, 1) := by decide +kernel
theorem c62_23 : mc_cd 62 23 = some (.aaload, 1) := by decide +kernel
theorem c62_24 : mc_cd 62 24 = some (.iload_n 2, 1) := by decide +kernel
theorem c62_25 : mc_cd 62 25 = some (.putfield 148, 3) := by decide +kernel
theorem c62_28 : mc_cd 62 28 = some (.aload_n 0, 1) := by decide +kernel
theorem c62_29 : mc_cd 62 29 = some (.invokevirtual 151, 3) := by decide +kernel
theorem c62_32 : mc_cd 62 32 = some (.ireturn, 1) := by decide +kernel
abbrev q_62 (r0 : Nat) (a1 : Int) (a2 : Int) (T : wq_T) (H : wq_H) : Option Value → wq_T → wq_H → Prop := fun r T' H' => T = T' ∧ WT T H' ∧ wfr [(35, 16), (1, 10)] T H H' ∧ ∃ z : Int, some (vI z) = r ∧ (0 ≤ z ∧ z ≤ 1)
set_option maxHeartbeats 4000000 in
theorem s_62 {kt : Nat → Option mc_E} {T : wq_T} {H : wq_H} {r0 : Nat} {a1 : Int} {a2 : Int} (hW : WT T H) (g0 : T.2.2.2 r0 = some 1) (i1 : (-2147483648) ≤ a1 ∧ a1 ≤ 2147483647) (i2 : (-2147483648) ≤ a2 ∧ a2 ≤ 2147483647) : wpc kt 3 62 [.ref r0, vI a1, vI a2] T H (q_62 r0 a1 a2 T H) := by
  refine wp_enter e62 (Nat.le_of_ble_eq_true rfl) rfl ?_
  have f0 : wfr [(35, 16), (1, 10)] T H H := wfr.rf
  show wp _ _ 62 0 [(0, .ref r0), (1, vI a1), (2, vI a2)] [] _ H _
  refine wp_of e62 c62_0 (rw_aload_n (pc' := 1) (v := .ref r0) rfl rfl rfl ?_)
  refine wp_of e62 c62_1 (rw_iload_n (pc' := 2) (z := a1) rfl rfl ?_)
  refine wp_of e62 c62_2 (rw_iload_n (pc' := 3) (z := a2) rfl rfl ?_)
  refine wp_of e62 c62_3 (xc_V (pc' := 6) (r := r0) (as := [vI a1, vI a2]) (st := []) (lm_0_118) rfl rfl (Nat.le_of_ble_eq_true rfl) hW g0 sh_1 (by decide) rfl (by decide) (s_57 hW g0 ⟨by omega, by omega⟩ ⟨by omega, by omega⟩) (fun R17639 T17640 H17641 p17642 => ?_))
  obtain ⟨e17643, e17645, z17647, e17644, b17648, p17646⟩ := p17642
  subst e17643
  subst e17644
  subst e17645
  show wp _ _ 62 6 [(0, .ref r0), (1, vI a1), (2, vI a2)] [vI z17647] _ H _
  refine wp_of e62 c62_6 (rw_if_ne (p1 := 15) (p2 := 9) (by decide) rfl ⟨by omega, by omega⟩ (fun c17649 => ?_) (fun c17649 => ?_))
  · refine wp_of e62 c62_15 (rw_aload_n (pc' := 16) (v := .ref r0) rfl rfl rfl ?_)
    refine wp_of e62 c62_16 (xg_R (pc' := 19) lf_0_51 hW g0 sh_1 (by decide) (by decide) ty_1_6 rfl rfl (fun r17650 q17651 g17652 => ?_))
    refine wp_of e62 c62_19 (xg_R (pc' := 22) lf_0_109 hW g17652 sh_27 (by decide) (by decide) ty_27_0 rfl rfl (fun r17653 q17654 g17655 => ?_))
    refine wp_of e62 c62_22 (rw_iload_n (pc' := 23) (z := a1) rfl rfl ?_)
    refine wp_of e62 c62_23 (xa_R (pc' := 24) (by decide) hW g17655 sh_28 (by decide) (ty_28 _) (by omega) (by omega) rfl (fun r17656 q17657 g17658 => ?_))
    refine wp_of e62 c62_24 (rw_iload_n (pc' := 25) (z := a2) rfl rfl ?_)
    refine wp_of e62 c62_25 (xp_I (pc' := 28) lf_0_148 hW g17658 sh_35 (by decide) (by decide) ty_35_16 rfl rfl (by omega) (by omega) ⟨by omega, by omega⟩ rfl (fun H17659 e17660 w17661 => ?_))
    have f17662 := f0.put' e17660 g17658 rfl
    have k17663 : H17659 r17656 16 = a2 := wq_u_s e17660
    refine wp_of e62 c62_28 (rw_aload_n (pc' := 29) (v := .ref r0) rfl rfl rfl ?_)
    refine wp_of e62 c62_29 (xc_V (pc' := 32) (r := r0) (as := []) (st := []) (lm_0_151) rfl rfl (Nat.le_of_ble_eq_true rfl) w17661 g0 sh_1 (by decide) rfl (by decide) (s_64 w17661 g0) (fun R17664 T17665 H17666 p17667 => ?_))
    obtain ⟨e17668, w17670, f17671, z17672, e17669, b17673⟩ := p17667
    subst e17668
    subst e17669
    have f17674 := f17662.tr f17671 rfl
    show wp _ _ 62 32 [(0, .ref r0), (1, vI a1), (2, vI a2)] [vI z17672] _ H17666 _
    exact wp_zreturn e62 c62_32 rfl (by omega) ⟨rfl, w17670, f17674, z17672, rfl, ⟨by omega, by omega⟩⟩
  · refine wp_of e62 c62_9 (rw_aload_n (pc' := 10) (v := .ref r0) rfl rfl rfl ?_)
    refine wp_of e62 c62_10 (rw_iconst (pc' := 11) rfl ?_)
    refine wp_of e62 c62_11 (xc_V (pc' := 14) (r := r0) (as := [vI 1]) (st := []) (lm_0_145) rfl rfl (Nat.le_of_ble_eq_true rfl) hW g0 sh_1 (by decide) rfl (by decide) (s_63 hW g0 ⟨by omega, by omega⟩) (fun R17675 T17676 H17677 p17678 => ?_))
    obtain ⟨e17679, w17681, f17682, z17683, e17680, b17684⟩ := p17678
    subst e17679
    subst e17680
    have f17685 := f0.tr f17682 rfl
    show wp _ _ 62 14 [(0, .ref r0), (1, vI a1), (2, vI a2)] [vI z17683] _ H17677 _
    exact wp_zreturn e62 c62_14 rfl (by omega) ⟨rfl, w17681, f17685, z17683, rfl, ⟨by omega, by omega⟩⟩
/-! StrikeAwake.said(I)I -/
theorem e65 : wq_en 65 = some (0, 2, false, some FieldType.int) := rfl
theorem c65_0 : mc_cd 65 0 = some (.aload_n 0, 1) := by decide +kernel
theorem c65_1 : mc_cd 65 1 = some (.iload_n 1, 1) := by decide +kernel
theorem c65_2 : mc_cd 65 2 = some (.invokevirtual 105, 3) := by decide +kernel
theorem c65_5 : mc_cd 65 5 = some (.ifCond .eq 18, 3) := by decide +kernel
theorem c65_8 : mc_cd 65 8 = some (.aload_n 0, 1) := by decide +kernel
theorem c65_9 : mc_cd 65 9 = some (.getfield 51, 3) := by decide +kernel
theorem c65_12 : mc_cd 65 12 = some (.getfield 109, 3) := by decide +kernel
theorem c65_15 : mc_cd 65 15 = some (.iload_n 1, 1) := by decide +kernel
theorem c65_16 : mc_cd 65 16 = some (.aaload, 1) := by decide +kernel
theorem c65_17 : mc_cd 65 17 = some (.getfield 113, 3) := by decide +kernel
theorem c65_20 : mc_cd 65 20 = some (.ifCond .ne 9, 3) := by decide +kernel
theorem c65_23 : mc_cd 65 23 = some (.aload_n 0, 1) := by decide +kernel
theorem c65_24 : mc_cd 65 24 = some (.iconst 1, 1) := by decide +kernel
theorem c65_25 : mc_cd 65 25 = some (.invokevirtual 70, 3) := by decide +kernel
theorem c65_28 : mc_cd 65 28 = some (.ireturn, 1) := by decide +kernel
theorem c65_29 : mc_cd 65 29 = some (.aload_n 0, 1) := by decide +kernel
theorem c65_30 : mc_cd 65 30 = some (.aload_n 0, 1) := by decide +kernel
theorem c65_31 : mc_cd 65 31 = some (.getfield 51, 3) := by decide +kernel
theorem c65_34 : mc_cd 65 34 = some (.getfield 109, 3) := by decide +kernel
theorem c65_37 : mc_cd 65 37 = some (.iload_n 1, 1) := by decide +kernel
theorem c65_38 : mc_cd 65 38 = some (.aaload, 1) := by decide +kernel
theorem c65_39 : mc_cd 65 39 = some (.getfield 148, 3) := by decide +kernel
theorem c65_42 : mc_cd 65 42 = some (.invokevirtual 99, 3) := by decide +kernel
theorem c65_45 : mc_cd 65 45 = some (.ireturn, 1) := by decide +kernel
abbrev q_65 (r0 : Nat) (a1 : Int) (T : wq_T) (H : wq_H) : Option Value → wq_T → wq_H → Prop := fun r T' H' => T = T' ∧ WT T H' ∧ wfr [(1, 10)] T H H' ∧ ∃ z : Int, some (vI z) = r ∧ ((-2147483648) ≤ z ∧ z ≤ 2147483647)
set_option maxHeartbeats 4000000 in
theorem s_65 {kt : Nat → Option mc_E} {T : wq_T} {H : wq_H} {r0 : Nat} {a1 : Int} (hW : WT T H) (g0 : T.2.2.2 r0 = some 1) (i1 : (-2147483648) ≤ a1 ∧ a1 ≤ 2147483647) : wpc kt 2 65 [.ref r0, vI a1] T H (q_65 r0 a1 T H) := by
  refine wp_enter e65 (Nat.le_of_ble_eq_true rfl) rfl ?_
  have f0 : wfr [(1, 10)] T H H := wfr.rf
  show wp _ _ 65 0 [(0, .ref r0), (1, vI a1)] [] _ H _
  refine wp_of e65 c65_0 (rw_aload_n (pc' := 1) (v := .ref r0) rfl rfl rfl ?_)
  refine wp_of e65 c65_1 (rw_iload_n (pc' := 2) (z := a1) rfl rfl ?_)
  refine wp_of e65 c65_2 (xc_V (pc' := 5) (r := r0) (as := [vI a1]) (st := []) (lm_0_105) rfl rfl (Nat.le_of_ble_eq_true rfl) hW g0 sh_1 (by decide) rfl (by decide) (s_55 hW g0 ⟨by omega, by omega⟩) (fun R17744 T17745 H17746 p17747 => ?_))
  obtain ⟨e17748, e17750, z17752, e17749, b17753, p17751⟩ := p17747
  subst e17748
  subst e17749
  subst e17750
  show wp _ _ 65 5 [(0, .ref r0), (1, vI a1)] [vI z17752] _ H _
  refine wp_of e65 c65_5 (rw_if_eq (p1 := 23) (p2 := 8) (by decide) rfl ⟨by omega, by omega⟩ (fun c17754 => ?_) (fun c17754 => ?_))
  · refine wp_of e65 c65_23 (rw_aload_n (pc' := 24) (v := .ref r0) rfl rfl rfl ?_)
    refine wp_of e65 c65_24 (rw_iconst (pc' := 25) rfl ?_)
    refine wp_of e65 c65_25 (xc_V (pc' := 28) (r := r0) (as := [vI 1]) (st := []) (lm_0_70) rfl rfl (Nat.le_of_ble_eq_true rfl) hW g0 sh_1 (by decide) rfl (by decide) (s_12 hW g0 ⟨by omega, by omega⟩) (fun R17755 T17756 H17757 p17758 => ?_))
    obtain ⟨e17759, w17761, f17762, z17763, e17760, b17764⟩ := p17758
    subst e17759
    subst e17760
    have f17765 := f0.tr f17762 rfl
    show wp _ _ 65 28 [(0, .ref r0), (1, vI a1)] [vI z17763] _ H17757 _
    exact wp_ireturn e65 c65_28 rfl ⟨rfl, w17761, f17765, z17763, rfl, ⟨by omega, by omega⟩⟩
  · refine wp_of e65 c65_8 (rw_aload_n (pc' := 9) (v := .ref r0) rfl rfl rfl ?_)
    refine wp_of e65 c65_9 (xg_R (pc' := 12) lf_0_51 hW g0 sh_1 (by decide) (by decide) ty_1_6 rfl rfl (fun r17766 q17767 g17768 => ?_))
    refine wp_of e65 c65_12 (xg_R (pc' := 15) lf_0_109 hW g17768 sh_27 (by decide) (by decide) ty_27_0 rfl rfl (fun r17769 q17770 g17771 => ?_))
    refine wp_of e65 c65_15 (rw_iload_n (pc' := 16) (z := a1) rfl rfl ?_)
    refine wp_of e65 c65_16 (xa_R (pc' := 17) (by decide) hW g17771 sh_28 (by decide) (ty_28 _) (by omega) (by omega) rfl (fun r17772 q17773 g17774 => ?_))
    refine wp_of e65 c65_17 (xg_I (pc' := 20) lf_0_113 hW g17774 sh_35 (by decide) (by decide) ty_35_15 rfl rfl (fun b17775 b17776 => ?_))
    refine wp_of e65 c65_20 (rw_if_ne (p1 := 29) (p2 := 23) (by decide) rfl ⟨by omega, by omega⟩ (fun c17777 => ?_) (fun c17777 => ?_))
    · refine wp_of e65 c65_29 (rw_aload_n (pc' := 30) (v := .ref r0) rfl rfl rfl ?_)
      refine wp_of e65 c65_30 (rw_aload_n (pc' := 31) (v := .ref r0) rfl rfl rfl ?_)
      refine wp_of e65 c65_31 (xg_K (pc' := 34) lf_0_51 hW g0 sh_1 (by decide) (by decide) rfl q17767 rfl ?_)
      refine wp_of e65 c65_34 (xg_K (pc' := 37) lf_0_109 hW g17768 sh_27 (by decide) (by decide) rfl q17770 rfl ?_)
      refine wp_of e65 c65_37 (rw_iload_n (pc' := 38) (z := a1) rfl rfl ?_)
      refine wp_of e65 c65_38 (xa_K (pc' := 39) (by decide) hW g17771 sh_28 (by decide) (by omega) (by omega) q17773 rfl ?_)
      refine wp_of e65 c65_39 (xg_I (pc' := 42) lf_0_148 hW g17774 sh_35 (by decide) (by decide) ty_35_16 rfl rfl (fun b17778 b17779 => ?_))
      refine wp_of e65 c65_42 (xc_V (pc' := 45) (r := r0) (as := [vI (H r17772 16)]) (st := []) (lm_0_99) rfl rfl (Nat.le_of_ble_eq_true rfl) hW g0 sh_1 (by decide) rfl (by decide) (s_51 hW g0 ⟨by omega, by omega⟩) (fun R17780 T17781 H17782 p17783 => ?_))
      obtain ⟨e17784, w17786, f17787, z17788, e17785, b17789⟩ := p17783
      subst e17784
      subst e17785
      have f17790 := f0.tr f17787 rfl
      show wp _ _ 65 45 [(0, .ref r0), (1, vI a1)] [vI z17788] _ H17782 _
      exact wp_ireturn e65 c65_45 rfl ⟨rfl, w17786, f17790, z17788, rfl, ⟨by omega, by omega⟩⟩
    · refine wp_of e65 c65_23 (rw_aload_n (pc' := 24) (v := .ref r0) rfl rfl rfl ?_)
      refine wp_of e65 c65_24 (rw_iconst (pc' := 25) rfl ?_)
      refine wp_of e65 c65_25 (xc_V (pc' := 28) (r := r0) (as := [vI 1]) (st := []) (lm_0_70) rfl rfl (Nat.le_of_ble_eq_true rfl) hW g0 sh_1 (by decide) rfl (by decide) (s_12 hW g0 ⟨by omega, by omega⟩) (fun R17791 T17792 H17793 p17794 => ?_))
      obtain ⟨e17795, w17797, f17798, z17799, e17796, b17800⟩ := p17794
      subst e17795
      subst e17796
      have f17801 := f0.tr f17798 rfl
      show wp _ _ 65 28 [(0, .ref r0), (1, vI a1)] [vI z17799] _ H17793 _
      exact wp_ireturn e65 c65_28 rfl ⟨rfl, w17797, f17801, z17799, rfl, ⟨by omega, by omega⟩⟩
/-! StrikeAwake$Walk.countBirths(LStrikeAwake$Parish;)V -/
theorem e69 : wq_en 69 = some (3, 4, false, none) := rfl
theorem c69_0 : mc_cd 69 0 = some (.aload_n 0, 1) := by decide +kernel
theorem c69_1 : mc_cd 69 1 = some (.aload_n 1, 1) := by decide +kernel
theorem c69_2 : mc_cd 69 2 = some (.getfield 36, 3) := by decide +kernel
theorem c69_5 : mc_cd 69 5 = some (.putfield 51, 3) := by decide +kernel
theorem c69_8 : mc_cd 69 8 = some (.aload_n 0, 1) := by decide +kernel
theorem c69_9 : mc_cd 69 9 = some (.getfield 15, 3) := by decide +kernel
theorem c69_12 : mc_cd 69 12 = some (.iconst 0, 1) := by decide +kernel
theorem c69_13 : mc_cd 69 13 = some (.lconst 0, 1) := by decide +kernel
theorem c69_14 : mc_cd 69 14 = some (.lastore, 1) := by decide +kernel
theorem c69_15 : mc_cd 69 15 = some (.aload_n 0, 1) := by decide +kernel
theorem c69_16 : mc_cd 69 16 = some (.getfield 19, 3) := by decide +kernel
theorem c69_19 : mc_cd 69 19 = some (.iconst 0, 1) := by decide +kernel
theorem c69_20 : mc_cd 69 20 = some (.lconst 0, 1) := by decide +kernel
theorem c69_21 : mc_cd 69 21 = some (.lastore, 1) := by decide +kernel
theorem c69_22 : mc_cd 69 22 = some (.aload_n 0, 1) := by decide +kernel
theorem c69_23 : mc_cd 69 23 = some (.getfield 22, 3) := by decide +kernel
theorem c69_26 : mc_cd 69 26 = some (.iconst 0, 1) := by decide +kernel
theorem c69_27 : mc_cd 69 27 = some (.iconst 0, 1) := by decide +kernel
theorem c69_28 : mc_cd 69 28 = some (.iastore, 1) := by decide +kernel
theorem c69_29 : mc_cd 69 29 = some (.iconst 0, 1) := by decide +kernel
theorem c69_30 : mc_cd 69 30 = some (.istore_n 2, 1) := by decide +kernel
theorem c69_31 : mc_cd 69 31 = some (.iload_n 2, 1) := by decide +kernel
theorem c69_32 : mc_cd 69 32 = some (.aload_n 1, 1) := by decide +kernel
theorem c69_33 : mc_cd 69 33 = some (.getfield 55, 3) := by decide +kernel
theorem c69_36 : mc_cd 69 36 = some (.if_icmp .ge 60, 3) := by decide +kernel
theorem c69_39 : mc_cd 69 39 = some (.aload_n 1, 1) := by decide +kernel
theorem c69_40 : mc_cd 69 40 = some (.getfield 58, 3) := by decide +kernel
theorem c69_43 : mc_cd 69 43 = some (.iload_n 2, 1) := by decide +kernel
theorem c69_44 : mc_cd 69 44 = some (.iaload, 1) := by decide +kernel
theorem c69_45 : mc_cd 69 45 = some (.bipush 24, 2) := by decide +kernel
theorem c69_47 : mc_cd 69 47 = some (.invokestatic 61, 3) := by decide +kernel
theorem c69_50 : mc_cd 69 50 = some (.istore_n 3, 1) := by decide +kernel
theorem c69_51 : mc_cd 69 51 = some (.aload_n 0, 1) := by decide +kernel
theorem c69_52 : mc_cd 69 52 = some (.getfield 15, 3) := by decide +kernel
theorem c69_55 : mc_cd 69 55 = some (.iconst 0, 1) := by decide +kernel
theorem c69_56 : mc_cd 69 56 = some (.dup2, 1) := by decide +kernel
theorem c69_57 : mc_cd 69 57 = some (.laload, 1) := by decide +kernel
theorem c69_58 : mc_cd 69 58 = some (.iload_n 3, 1) := by decide +kernel
theorem c69_59 : mc_cd 69 59 = some (.invokestatic 65, 3) := by decide +kernel
theorem c69_62 : mc_cd 69 62 = some (.ladd, 1) := by decide +kernel
theorem c69_63 : mc_cd 69 63 = some (.lastore, 1) := by decide +kernel
theorem c69_64 : mc_cd 69 64 = some (.aload_n 0, 1) := by decide +kernel
theorem c69_65 : mc_cd 69 65 = some (.getfield 19, 3) := by decide +kernel
theorem c69_68 : mc_cd 69 68 = some (.iconst 0, 1) := by decide +kernel
theorem c69_69 : mc_cd 69 69 = some (.dup2, 1) := by decide +kernel
theorem c69_70 : mc_cd 69 70 = some (.laload, 1) := by decide +kernel
theorem c69_71 : mc_cd 69 71 = some (.iload_n 3, 1) := by decide +kernel
theorem c69_72 : mc_cd 69 72 = some (.bipush 12, 2) := by decide +kernel
theorem c69_74 : mc_cd 69 74 = some (.ishr, 1) := by decide +kernel
theorem c69_75 : mc_cd 69 75 = some (.invokestatic 65, 3) := by decide +kernel
theorem c69_78 : mc_cd 69 78 = some (.ladd, 1) := by decide +kernel
theorem c69_79 : mc_cd 69 79 = some (.lastore, 1) := by decide +kernel
theorem c69_80 : mc_cd 69 80 = some (.aload_n 0, 1) := by decide +kernel
theorem c69_81 : mc_cd 69 81 = some (.getfield 22, 3) := by decide +kernel
theorem c69_84 : mc_cd 69 84 = some (.iconst 0, 1) := by decide +kernel
theorem c69_85 : mc_cd 69 85 = some (.dup2, 1) := by decide +kernel
theorem c69_86 : mc_cd 69 86 = some (.iaload, 1) := by decide +kernel
theorem c69_87 : mc_cd 69 87 = some (.iload_n 3, 1) := by decide +kernel
theorem c69_88 : mc_cd 69 88 = some (.ior, 1) := by decide +kernel
theorem c69_89 : mc_cd 69 89 = some (.iastore, 1) := by decide +kernel
theorem c69_90 : mc_cd 69 90 = some (.iinc 2 1, 3) := by decide +kernel
theorem c69_93 : mc_cd 69 93 = some (.goto (-62), 3) := by decide +kernel
theorem c69_96 : mc_cd 69 96 = some (.return_, 1) := by decide +kernel
abbrev q_69 (r0 : Nat) (r1 : Nat) (T : wq_T) (H : wq_H) : Option Value → wq_T → wq_H → Prop := fun r T' H' => T = T' ∧ WT T H' ∧ wfr [(6, 5), (8, 999), (10, 999), (9, 999)] T H H' ∧ none = r
set_option maxHeartbeats 4000000 in
theorem s_69 {kt : Nat → Option mc_E} {T : wq_T} {H : wq_H} {r0 : Nat} {r1 : Nat} (hW : WT T H) (g0 : T.2.2.2 r0 = some 6) (g1 : T.2.2.2 r1 = some 27) : wpc kt 2 69 [.ref r0, .ref r1] T H (q_69 r0 r1 T H) := by
  refine wp_enter e69 (Nat.le_of_ble_eq_true rfl) rfl ?_
  have f0 : wfr [(6, 5), (8, 999), (10, 999), (9, 999)] T H H := wfr.rf
  show wp _ _ 69 0 [(0, .ref r0), (1, .ref r1)] [] _ H _
  refine wp_of e69 c69_0 (rw_aload_n (pc' := 1) (v := .ref r0) rfl rfl rfl ?_)
  refine wp_of e69 c69_1 (rw_aload_n (pc' := 2) (v := .ref r1) rfl rfl rfl ?_)
  refine wp_of e69 c69_2 (xg_I (pc' := 5) lf_3_36 hW g1 sh_27 (by decide) (by decide) ty_27_10 rfl rfl (fun b18166 b18167 => ?_))
  refine wp_of e69 c69_5 (xp_I (pc' := 8) lf_3_51 hW g0 sh_6 (by decide) (by decide) ty_6_5 rfl rfl (by omega) (by omega) ⟨by omega, by omega⟩ rfl (fun H18168 e18169 w18170 => ?_))
  have f18171 := f0.put' e18169 g0 rfl
  have k18172 : H18168 r0 5 = H r1 10 := wq_u_s e18169
  refine wp_of e69 c69_8 (rw_aload_n (pc' := 9) (v := .ref r0) rfl rfl rfl ?_)
  refine wp_of e69 c69_9 (xg_R (pc' := 12) lf_3_15 w18170 g0 sh_6 (by decide) (by decide) ty_6_1 rfl rfl (fun r18173 q18174 g18175 => ?_))
  refine wp_of e69 c69_12 (rw_iconst (pc' := 13) rfl ?_)
  refine wp_of e69 c69_13 (rw_lconst (pc' := 14) (z := 0) rfl rfl ?_)
  refine wp_of e69 c69_14 (xs_L (pc' := 15) w18170 g18175 (by decide) sh_8 (by decide) (ty_8 _) (by omega) (by omega) ⟨by omega, by omega⟩ (by omega) (by omega) rfl (fun H18176 e18177 w18178 => ?_))
  have f18179 := f18171.put' e18177 g18175 rfl
  refine wp_of e69 c69_15 (rw_aload_n (pc' := 16) (v := .ref r0) rfl rfl rfl ?_)
  refine wp_of e69 c69_16 (xg_R (pc' := 19) lf_3_19 w18178 g0 sh_6 (by decide) (by decide) ty_6_2 rfl rfl (fun r18180 q18181 g18182 => ?_))
  refine wp_of e69 c69_19 (rw_iconst (pc' := 20) rfl ?_)
  refine wp_of e69 c69_20 (rw_lconst (pc' := 21) (z := 0) rfl rfl ?_)
  refine wp_of e69 c69_21 (xs_L (pc' := 22) w18178 g18182 (by decide) sh_9 (by decide) (ty_9 _) (by omega) (by omega) ⟨by omega, by omega⟩ (by omega) (by omega) rfl (fun H18183 e18184 w18185 => ?_))
  have f18186 := f18179.put' e18184 g18182 rfl
  refine wp_of e69 c69_22 (rw_aload_n (pc' := 23) (v := .ref r0) rfl rfl rfl ?_)
  refine wp_of e69 c69_23 (xg_R (pc' := 26) lf_3_22 w18185 g0 sh_6 (by decide) (by decide) ty_6_3 rfl rfl (fun r18187 q18188 g18189 => ?_))
  refine wp_of e69 c69_26 (rw_iconst (pc' := 27) rfl ?_)
  refine wp_of e69 c69_27 (rw_iconst (pc' := 28) rfl ?_)
  refine wp_of e69 c69_28 (xs_I (pc' := 29) w18185 g18189 (by decide) sh_10 (by decide) (ty_10 _) (by omega) (by omega) ⟨by omega, by omega⟩ (by omega) (by omega) rfl (fun H18190 e18191 w18192 => ?_))
  have f18193 := f18186.put' e18191 g18189 rfl
  refine wp_of e69 c69_29 (rw_iconst (pc' := 30) rfl ?_)
  refine wp_of e69 c69_30 (rw_istore_n (pc' := 31) (z := 0) (L' := [(2, vI 0), (0, .ref r0), (1, .ref r1)]) rfl rfl rfl ?_)
  have lp18462 : ∀ (n18463 : Nat) (v18465 : Int) (H18466 : wq_H), WT T H18466 → wfr [(8, 999), (10, 999), (9, 999)] T H18190 H18466 → (0 ≤ v18465 ∧ v18465 ≤ 3) → (3 - v18465).toNat = n18463 → wp kt 1 69 31 [(2, vI v18465), (0, .ref r0), (1, .ref r1)] [] T H18466 (q_69 r0 r1 T H) := by
    intro n18463
    induction n18463 using Nat.strongRecOn with
    | _ n18463 ih18464 =>
      intro v18465 H18466 w18467 f18468 b18469 m18470
      have f18471 := f18193.tr f18468 rfl
      refine wp_of e69 c69_31 (rw_iload_n (pc' := 32) (z := v18465) rfl rfl ?_)
      refine wp_of e69 c69_32 (rw_aload_n (pc' := 33) (v := .ref r1) rfl rfl rfl ?_)
      refine wp_of e69 c69_33 (xg_I (pc' := 36) lf_3_55 w18467 g1 sh_27 (by decide) (by decide) ty_27_12 rfl rfl (fun b18472 b18473 => ?_))
      refine wp_of e69 c69_36 (rw_icmp_ge (p1 := 96) (p2 := 39) (by decide) rfl ⟨by omega, by omega⟩ ⟨by omega, by omega⟩ (fun c18474 => ?_) (fun c18474 => ?_))
      · exact wp_return e69 c69_96 rfl ⟨rfl, w18467, f18471, rfl⟩
      · refine wp_of e69 c69_39 (rw_aload_n (pc' := 40) (v := .ref r1) rfl rfl rfl ?_)
        refine wp_of e69 c69_40 (xg_R (pc' := 43) lf_3_58 w18467 g1 sh_27 (by decide) (by decide) ty_27_3 rfl rfl (fun r18475 q18476 g18477 => ?_))
        refine wp_of e69 c69_43 (rw_iload_n (pc' := 44) (z := v18465) rfl rfl ?_)
        refine wp_of e69 c69_44 (xa_I (so := 0) (pc' := 45) w18467 g18477 sh_31 (by decide) (ty_31 _) (by omega) (by omega) rfl (fun b18478 b18479 => ?_))
        refine wp_of e69 c69_45 (rw_bipush (pc' := 47) (z := 24) rfl (by decide) ?_)
        refine wp_of e69 c69_47 (xc_S (pc' := 50) (as := [vI (H18466 r18475 v18465.toNat), vI 24]) (st := []) (lm_3_61) rfl rfl (Nat.le_of_ble_eq_true rfl) rfl (by decide) (s_31 w18467 ⟨by omega, by omega⟩ ⟨by omega, by omega⟩) (fun R18480 T18481 H18482 p18483 => ?_))
        obtain ⟨e18484, e18486, z18487, e18485, b18488⟩ := p18483
        subst e18484
        subst e18485
        subst e18486
        show wp _ _ 69 50 [(2, vI v18465), (0, .ref r0), (1, .ref r1)] [vI z18487] _ H18466 _
        refine wp_of e69 c69_50 (rw_istore_n (pc' := 51) (z := z18487) (L' := [(3, vI z18487), (2, vI v18465), (0, .ref r0), (1, .ref r1)]) rfl rfl rfl ?_)
        refine wp_of e69 c69_51 (rw_aload_n (pc' := 52) (v := .ref r0) rfl rfl rfl ?_)
        have k18489 : H18466 r0 1 = H18168 r0 1 := ((f18468 r0 1 _ g0 rfl).trans ((wq_u_t e18191 g18189 g0 rfl 1).trans ((wq_u_t e18184 g18182 g0 rfl 1).trans (wq_u_t e18177 g18175 g0 rfl 1))))
        have q18490 : H18466 r0 1 = (r18173 : Int) := k18489.trans q18174
        refine wp_of e69 c69_52 (xg_K (pc' := 55) lf_3_15 w18467 g0 sh_6 (by decide) (by decide) rfl q18490 rfl ?_)
        refine wp_of e69 c69_55 (rw_iconst (pc' := 56) rfl ?_)
        refine wp_of e69 c69_56 (rw_dup2 (pc' := 57) rfl rfl rfl ?_)
        refine wp_of e69 c69_57 (xa_L (pc' := 58) w18467 g18175 sh_8 (by decide) (ty_8 _) (by omega) (by omega) rfl (fun b18491 b18492 => ?_))
        refine wp_of e69 c69_58 (rw_iload_n (pc' := 59) (z := z18487) rfl rfl ?_)
        refine wp_of e69 c69_59 (xc_S (pc' := 62) (as := [vI z18487]) (st := [vL (H18466 r18173 0.toNat), vI 0, .ref r18173]) (lm_3_65) rfl rfl (Nat.le_of_ble_eq_true rfl) rfl (by decide) (s_49 w18467 ⟨by omega, by omega⟩) (fun R18493 T18494 H18495 p18496 => ?_))
        obtain ⟨e18497, e18499, z18500, e18498, b18501⟩ := p18496
        subst e18497
        subst e18498
        subst e18499
        show wp _ _ 69 62 [(3, vI z18487), (2, vI v18465), (0, .ref r0), (1, .ref r1)] [vL z18500, vL (H18466 r18173 0.toNat), vI 0, .ref r18173] _ H18466 _
        refine wp_of e69 c69_62 (rw_laddw (pc' := 63) rfl ?_)
        obtain ⟨v18502, e18503⟩ : ∃ x : Int, x = wl_w ((H18466 r18173 0.toNat) + z18500) := ⟨_, rfl⟩
        rw [← e18503]
        have b18504 : -9223372036854775808 ≤ v18502 ∧ v18502 ≤ 9223372036854775807 := by
          rw [e18503]
          exact wL_w _
        refine wp_of e69 c69_63 (xs_L (pc' := 64) w18467 g18175 (by decide) sh_8 (by decide) (ty_8 _) (by omega) (by omega) ⟨by omega, by omega⟩ (by omega) (by omega) rfl (fun H18505 e18506 w18507 => ?_))
        have f18508 := f18471.put' e18506 g18175 rfl
        have f18509 := f18468.put' e18506 g18175 rfl
        refine wp_of e69 c69_64 (rw_aload_n (pc' := 65) (v := .ref r0) rfl rfl rfl ?_)
        have k18510 : H18505 r0 2 = H18176 r0 2 := ((wq_u_t e18506 g18175 g0 rfl 2).trans ((f18468 r0 2 _ g0 rfl).trans ((wq_u_t e18191 g18189 g0 rfl 2).trans (wq_u_t e18184 g18182 g0 rfl 2))))
        have q18511 : H18505 r0 2 = (r18180 : Int) := k18510.trans q18181
        refine wp_of e69 c69_65 (xg_K (pc' := 68) lf_3_19 w18507 g0 sh_6 (by decide) (by decide) rfl q18511 rfl ?_)
        refine wp_of e69 c69_68 (rw_iconst (pc' := 69) rfl ?_)
        refine wp_of e69 c69_69 (rw_dup2 (pc' := 70) rfl rfl rfl ?_)
        refine wp_of e69 c69_70 (xa_L (pc' := 71) w18507 g18182 sh_9 (by decide) (ty_9 _) (by omega) (by omega) rfl (fun b18512 b18513 => ?_))
        refine wp_of e69 c69_71 (rw_iload_n (pc' := 72) (z := z18487) rfl rfl ?_)
        refine wp_of e69 c69_72 (rw_bipush (pc' := 74) (z := 12) rfl (by decide) ?_)
        refine wp_of e69 c69_74 (rw_ishr (pc' := 75) rfl ?_)
        obtain ⟨v18514, e18515⟩ : ∃ x : Int, x = wq_shr z18487 12 := ⟨_, rfl⟩
        rw [← e18515]
        have b18516 : -2147483648 ≤ v18514 ∧ v18514 ≤ 2147483647 := by
          rw [e18515]
          exact wI_shr _ _
        refine wp_of e69 c69_75 (xc_S (pc' := 78) (as := [vI v18514]) (st := [vL (H18505 r18180 0.toNat), vI 0, .ref r18180]) (lm_3_65) rfl rfl (Nat.le_of_ble_eq_true rfl) rfl (by decide) (s_49 w18507 ⟨by omega, by omega⟩) (fun R18517 T18518 H18519 p18520 => ?_))
        obtain ⟨e18521, e18523, z18524, e18522, b18525⟩ := p18520
        subst e18521
        subst e18522
        subst e18523
        show wp _ _ 69 78 [(3, vI z18487), (2, vI v18465), (0, .ref r0), (1, .ref r1)] [vL z18524, vL (H18505 r18180 0.toNat), vI 0, .ref r18180] _ H18505 _
        refine wp_of e69 c69_78 (rw_laddw (pc' := 79) rfl ?_)
        obtain ⟨v18526, e18527⟩ : ∃ x : Int, x = wl_w ((H18505 r18180 0.toNat) + z18524) := ⟨_, rfl⟩
        rw [← e18527]
        have b18528 : -9223372036854775808 ≤ v18526 ∧ v18526 ≤ 9223372036854775807 := by
          rw [e18527]
          exact wL_w _
        refine wp_of e69 c69_79 (xs_L (pc' := 80) w18507 g18182 (by decide) sh_9 (by decide) (ty_9 _) (by omega) (by omega) ⟨by omega, by omega⟩ (by omega) (by omega) rfl (fun H18529 e18530 w18531 => ?_))
        have f18532 := f18508.put' e18530 g18182 rfl
        have f18533 := f18509.put' e18530 g18182 rfl
        refine wp_of e69 c69_80 (rw_aload_n (pc' := 81) (v := .ref r0) rfl rfl rfl ?_)
        have k18534 : H18529 r0 3 = H18183 r0 3 := ((wq_u_t e18530 g18182 g0 rfl 3).trans ((wq_u_t e18506 g18175 g0 rfl 3).trans ((f18468 r0 3 _ g0 rfl).trans (wq_u_t e18191 g18189 g0 rfl 3))))
        have q18535 : H18529 r0 3 = (r18187 : Int) := k18534.trans q18188
        refine wp_of e69 c69_81 (xg_K (pc' := 84) lf_3_22 w18531 g0 sh_6 (by decide) (by decide) rfl q18535 rfl ?_)
        refine wp_of e69 c69_84 (rw_iconst (pc' := 85) rfl ?_)
        refine wp_of e69 c69_85 (rw_dup2 (pc' := 86) rfl rfl rfl ?_)
        refine wp_of e69 c69_86 (xa_I (so := 0) (pc' := 87) w18531 g18189 sh_10 (by decide) (ty_10 _) (by omega) (by omega) rfl (fun b18536 b18537 => ?_))
        refine wp_of e69 c69_87 (rw_iload_n (pc' := 88) (z := z18487) rfl rfl ?_)
        refine wp_of e69 c69_88 (rw_ior (pc' := 89) rfl ?_)
        obtain ⟨v18538, e18539⟩ : ∃ x : Int, x = wq_or (H18529 r18187 0.toNat) z18487 := ⟨_, rfl⟩
        rw [← e18539]
        have b18540 : -2147483648 ≤ v18538 ∧ v18538 ≤ 2147483647 := by
          rw [e18539]
          exact wI_or _ _
        refine wp_of e69 c69_89 (xs_I (pc' := 90) w18531 g18189 (by decide) sh_10 (by decide) (ty_10 _) (by omega) (by omega) ⟨by omega, by omega⟩ (by omega) (by omega) rfl (fun H18541 e18542 w18543 => ?_))
        have f18544 := f18532.put' e18542 g18189 rfl
        have f18545 := f18533.put' e18542 g18189 rfl
        refine wp_of e69 c69_90 (rw_iinc (pc' := 93) (z := v18465) (L' := [(2, vI (v18465 + 1)), (3, vI z18487), (0, .ref r0), (1, .ref r1)]) rfl rfl rfl rfl ?_)
        refine wp_of e69 c69_93 (rw_goto (p1 := 31) (by decide) ?_)
        exact wp_lc (ks := [2, 3, 0, 1]) (wl_c rfl (wl_c rfl (wl_c rfl wl_n))) rfl (by decide) (ih18464 _ (by omega) (v18465 + 1) H18541 w18543 f18545 ⟨by omega, by omega⟩ rfl)
  exact wp_lc (ks := [2, 0, 1]) (wl_c rfl (wl_c rfl (wl_c rfl wl_n))) rfl (by decide) (lp18462 _ 0 H18190 w18192 wfr.rf ⟨by omega, by omega⟩ rfl)
/-! StrikeAwake$Walk.quarrelsOf(LStrikeAwake$Parish;I)I -/
theorem e71 : wq_en 71 = some (3, 7, false, some FieldType.int) := rfl
theorem c71_0 : mc_cd 71 0 = some (.aload_n 1, 1) := by decide +kernel
theorem c71_1 : mc_cd 71 1 = some (.getfield 42, 3) := by decide +kernel
theorem c71_4 : mc_cd 71 4 = some (.iload_n 2, 1) := by decide +kernel
theorem c71_5 : mc_cd 71 5 = some (.aaload, 1) := by decide +kernel
theorem c71_6 : mc_cd 71 6 = some (.getfield 82, 3) := by decide +kernel
theorem c71_9 : mc_cd 71 9 = some (.istore_n 3, 1) := by decide +kernel
theorem c71_10 : mc_cd 71 10 = some (.aload_n 1, 1) := by decide +kernel
theorem c71_11 : mc_cd 71 11 = some (.getfield 42, 3) := by decide +kernel
theorem c71_14 : mc_cd 71 14 = some (.iload_n 2, 1) := by decide +kernel
theorem c71_15 : mc_cd 71 15 = some (.aaload, 1) := by decide +kernel
theorem c71_16 : mc_cd 71 16 = some (.getfield 85, 3) := by decide +kernel
theorem c71_19 : mc_cd 71 19 = some (.aload_n 0, 1) := by decide +kernel
theorem c71_20 : mc_cd 71 20 = some (.getfield 9, 3) := by decide +kernel
theorem c71_23 : mc_cd 71 23 = some (.iload_n 2, 1) := by decide +kernel
theorem c71_24 : mc_cd 71 24 = some (.iaload, 1) := by decide +kernel
theorem c71_25 : mc_cd 71 25 = some (.iaload, 1) := by decide +kernel
theorem c71_26 : mc_cd 71 26 = some (.istore 4, 2) := by decide +kernel
theorem c71_28 : mc_cd 71 28 = some (.iconst 0, 1) := by decide +kernel
theorem c71_29 : mc_cd 71 29 = some (.istore 5, 2) := by decide +kernel
theorem c71_31 : mc_cd 71 31 = some (.iconst 0, 1) := by decide +kernel
theorem c71_32 : mc_cd 71 32 = some (.istore 6, 2) := by decide +kernel
theorem c71_34 : mc_cd 71 34 = some (.iload 6, 2) := by decide +kernel
theorem c71_36 : mc_cd 71 36 = some (.iload_n 2, 1) := by decide +kernel
theorem c71_37 : mc_cd 71 37 = some (.if_icmp .ge 48, 3) := by decide +kernel
theorem c71_40 : mc_cd 71 40 = some (.iload_n 3, 1) := by decide +kernel
theorem c71_41 : mc_cd 71 41 = some (.ifCond .eq 44, 3) := by decide +kernel
theorem c71_44 : mc_cd 71 44 = some (.iload_n 3, 1) := by decide +kernel
theorem c71_45 : mc_cd 71 45 = some (.iload 6, 2) := by decide +kernel
theorem c71_47 : mc_cd 71 47 = some (.ishr, 1) := by decide +kernel
theorem c71_48 : mc_cd 71 48 = some (.iconst 1, 1) := by decide +kernel
theorem c71_49 : mc_cd 71 49 = some (.iand, 1) := by decide +kernel
theorem c71_50 : mc_cd 71 50 = some (.ifCond .eq 29, 3) := by decide +kernel
theorem c71_53 : mc_cd 71 53 = some (.iload 5, 2) := by decide +kernel
theorem c71_55 : mc_cd 71 55 = some (.iload 4, 2) := by decide +kernel
theorem c71_57 : mc_cd 71 57 = some (.aload_n 1, 1) := by decide +kernel
theorem c71_58 : mc_cd 71 58 = some (.getfield 42, 3) := by decide +kernel
theorem c71_61 : mc_cd 71 61 = some (.iload 6, 2) := by decide +kernel
theorem c71_63 : mc_cd 71 63 = some (.aaload, 1) := by decide +kernel
theorem c71_64 : mc_cd 71 64 = some (.getfield 85, 3) := by decide +kernel
theorem c71_67 : mc_cd 71 67 = some (.aload_n 0, 1) := by decide +kernel
theorem c71_68 : mc_cd 71 68 = some (.getfield 9, 3) := by decide +kernel
theorem c71_71 : mc_cd 71 71 = some (.iload 6, 2) := by decide +kernel
theorem c71_73 : mc_cd 71 73 = some (.iaload, 1) := by decide +kernel
theorem c71_74 : mc_cd 71 74 = some (.iaload, 1) := by decide +kernel
theorem c71_75 : mc_cd 71 75 = some (.iand, 1) := by decide +kernel
theorem c71_76 : mc_cd 71 76 = some (.ior, 1) := by decide +kernel
theorem c71_77 : mc_cd 71 77 = some (.istore 5, 2) := by decide +kernel
theorem c71_79 : mc_cd 71 79 = some (.iinc 6 1, 3) := by decide +kernel
theorem c71_82 : mc_cd 71 82 = some (.goto (-48), 3) := by decide +kernel
theorem c71_85 : mc_cd 71 85 = some (.iload 5, 2) := by decide +kernel
theorem c71_87 : mc_cd 71 87 = some (.ireturn, 1) := by decide +kernel
abbrev q_71 (r0 : Nat) (r1 : Nat) (a2 : Int) (T : wq_T) (H : wq_H) : Option Value → wq_T → wq_H → Prop := fun r T' H' => T = T' ∧ H = H' ∧ ∃ z : Int, some (vI z) = r ∧ ((-2147483648) ≤ z ∧ z ≤ 2147483647)
set_option maxHeartbeats 4000000 in
theorem s_71 {kt : Nat → Option mc_E} {T : wq_T} {H : wq_H} {r0 : Nat} {r1 : Nat} {a2 : Int} (hW : WT T H) (g0 : T.2.2.2 r0 = some 6) (g1 : T.2.2.2 r1 = some 27) (i2 : 0 ≤ a2 ∧ a2 ≤ 5) : wpc kt 1 71 [.ref r0, .ref r1, vI a2] T H (q_71 r0 r1 a2 T H) := by
  refine wp_enter e71 (Nat.le_of_ble_eq_true rfl) rfl ?_
  show wp _ _ 71 0 [(0, .ref r0), (1, .ref r1), (2, vI a2)] [] _ H _
  refine wp_of e71 c71_0 (rw_aload_n (pc' := 1) (v := .ref r1) rfl rfl rfl ?_)
  refine wp_of e71 c71_1 (xg_R (pc' := 4) lf_3_42 hW g1 sh_27 (by decide) (by decide) ty_27_0 rfl rfl (fun r18736 q18737 g18738 => ?_))
  refine wp_of e71 c71_4 (rw_iload_n (pc' := 5) (z := a2) rfl rfl ?_)
  refine wp_of e71 c71_5 (xa_R (pc' := 6) (by decide) hW g18738 sh_28 (by decide) (ty_28 _) (by omega) (by omega) rfl (fun r18739 q18740 g18741 => ?_))
  refine wp_of e71 c71_6 (xg_I (pc' := 9) lf_3_82 hW g18741 sh_35 (by decide) (by decide) ty_35_14 rfl rfl (fun b18742 b18743 => ?_))
  refine wp_of e71 c71_9 (rw_istore_n (pc' := 10) (z := H r18739 14) (L' := [(3, vI (H r18739 14)), (0, .ref r0), (1, .ref r1), (2, vI a2)]) rfl rfl rfl ?_)
  refine wp_of e71 c71_10 (rw_aload_n (pc' := 11) (v := .ref r1) rfl rfl rfl ?_)
  refine wp_of e71 c71_11 (xg_K (pc' := 14) lf_3_42 hW g1 sh_27 (by decide) (by decide) rfl q18737 rfl ?_)
  refine wp_of e71 c71_14 (rw_iload_n (pc' := 15) (z := a2) rfl rfl ?_)
  refine wp_of e71 c71_15 (xa_K (pc' := 16) (by decide) hW g18738 sh_28 (by decide) (by omega) (by omega) q18740 rfl ?_)
  refine wp_of e71 c71_16 (xg_R (pc' := 19) lf_3_85 hW g18741 sh_35 (by decide) (by decide) ty_35_2 rfl rfl (fun r18744 q18745 g18746 => ?_))
  refine wp_of e71 c71_19 (rw_aload_n (pc' := 20) (v := .ref r0) rfl rfl rfl ?_)
  refine wp_of e71 c71_20 (xg_R (pc' := 23) lf_3_9 hW g0 sh_6 (by decide) (by decide) ty_6_0 rfl rfl (fun r18747 q18748 g18749 => ?_))
  refine wp_of e71 c71_23 (rw_iload_n (pc' := 24) (z := a2) rfl rfl ?_)
  refine wp_of e71 c71_24 (xa_I (so := 0) (pc' := 25) hW g18749 sh_7 (by decide) (ty_7 _) (by omega) (by omega) rfl (fun b18750 b18751 => ?_))
  refine wp_of e71 c71_25 (xa_I (so := 0) (pc' := 26) hW g18746 sh_38 (by decide) (ty_38 _) (by omega) (by omega) rfl (fun b18752 b18753 => ?_))
  refine wp_of e71 c71_26 (rw_istore (pc' := 28) (z := H r18744 ((H r18747 a2.toNat).toNat)) (L' := [(4, vI (H r18744 ((H r18747 a2.toNat).toNat))), (3, vI (H r18739 14)), (0, .ref r0), (1, .ref r1), (2, vI a2)]) rfl rfl rfl ?_)
  refine wp_of e71 c71_28 (rw_iconst (pc' := 29) rfl ?_)
  refine wp_of e71 c71_29 (rw_istore (pc' := 31) (z := 0) (L' := [(5, vI 0), (4, vI (H r18744 ((H r18747 a2.toNat).toNat))), (3, vI (H r18739 14)), (0, .ref r0), (1, .ref r1), (2, vI a2)]) rfl rfl rfl ?_)
  refine wp_of e71 c71_31 (rw_iconst (pc' := 32) rfl ?_)
  refine wp_of e71 c71_32 (rw_istore (pc' := 34) (z := 0) (L' := [(6, vI 0), (5, vI 0), (4, vI (H r18744 ((H r18747 a2.toNat).toNat))), (3, vI (H r18739 14)), (0, .ref r0), (1, .ref r1), (2, vI a2)]) rfl rfl rfl ?_)
  have lp18904 : ∀ (n18905 : Nat) (v18907 : Int) (v18908 : Int), (0 ≤ v18907 ∧ v18907 ≤ 5) → ((-2147483648) ≤ v18908 ∧ v18908 ≤ 2147483647) → (5 - v18907).toNat = n18905 → wp kt 0 71 34 [(6, vI v18907), (5, vI v18908), (4, vI (H r18744 ((H r18747 a2.toNat).toNat))), (3, vI (H r18739 14)), (0, .ref r0), (1, .ref r1), (2, vI a2)] [] T H (q_71 r0 r1 a2 T H) := by
    intro n18905
    induction n18905 using Nat.strongRecOn with
    | _ n18905 ih18906 =>
      intro v18907 v18908 b18911 b18912 m18913
      refine wp_of e71 c71_34 (rw_iload (pc' := 36) (z := v18907) rfl rfl ?_)
      refine wp_of e71 c71_36 (rw_iload_n (pc' := 37) (z := a2) rfl rfl ?_)
      refine wp_of e71 c71_37 (rw_icmp_ge (p1 := 85) (p2 := 40) (by decide) rfl ⟨by omega, by omega⟩ ⟨by omega, by omega⟩ (fun c18914 => ?_) (fun c18914 => ?_))
      · refine wp_of e71 c71_85 (rw_iload (pc' := 87) (z := v18908) rfl rfl ?_)
        exact wp_ireturn e71 c71_87 rfl ⟨rfl, rfl, v18908, rfl, ⟨by omega, by omega⟩⟩
      · refine wp_of e71 c71_40 (rw_iload_n (pc' := 41) (z := H r18739 14) rfl rfl ?_)
        refine wp_of e71 c71_41 (rw_if_eq (p1 := 85) (p2 := 44) (by decide) rfl ⟨by omega, by omega⟩ (fun c18915 => ?_) (fun c18915 => ?_))
        · refine wp_of e71 c71_85 (rw_iload (pc' := 87) (z := v18908) rfl rfl ?_)
          exact wp_ireturn e71 c71_87 rfl ⟨rfl, rfl, v18908, rfl, ⟨by omega, by omega⟩⟩
        · refine wp_of e71 c71_44 (rw_iload_n (pc' := 45) (z := H r18739 14) rfl rfl ?_)
          refine wp_of e71 c71_45 (rw_iload (pc' := 47) (z := v18907) rfl rfl ?_)
          refine wp_of e71 c71_47 (rw_ishr (pc' := 48) rfl ?_)
          obtain ⟨v18916, e18917⟩ : ∃ x : Int, x = wq_shr (H r18739 14) v18907 := ⟨_, rfl⟩
          rw [← e18917]
          have b18918 : -2147483648 ≤ v18916 ∧ v18916 ≤ 2147483647 := by
            rw [e18917]
            exact wI_shr _ _
          refine wp_of e71 c71_48 (rw_iconst (pc' := 49) rfl ?_)
          refine wp_of e71 c71_49 (rw_iand (pc' := 50) rfl ?_)
          obtain ⟨v18919, e18920⟩ : ∃ x : Int, x = wq_and v18916 1 := ⟨_, rfl⟩
          rw [← e18920]
          have b18921 : 0 ≤ v18919 ∧ v18919 ≤ 1 := by
            rw [e18920]
            exact wq_and_b _ (by omega) (by omega)
          refine wp_of e71 c71_50 (rw_if_eq (p1 := 79) (p2 := 53) (by decide) rfl ⟨by omega, by omega⟩ (fun c18922 => ?_) (fun c18922 => ?_))
          · refine wp_of e71 c71_79 (rw_iinc (pc' := 82) (z := v18907) (L' := [(6, vI (v18907 + 1)), (5, vI v18908), (4, vI (H r18744 ((H r18747 a2.toNat).toNat))), (3, vI (H r18739 14)), (0, .ref r0), (1, .ref r1), (2, vI a2)]) rfl rfl rfl rfl ?_)
            refine wp_of e71 c71_82 (rw_goto (p1 := 34) (by decide) ?_)
            exact wp_lc (ks := [6, 5, 4, 3, 0, 1, 2]) (wl_c rfl (wl_c rfl (wl_c rfl (wl_c rfl (wl_c rfl (wl_c rfl (wl_c rfl wl_n))))))) rfl (by decide) (ih18906 _ (by omega) (v18907 + 1) v18908 ⟨by omega, by omega⟩ ⟨by omega, by omega⟩ rfl)
          · refine wp_of e71 c71_53 (rw_iload (pc' := 55) (z := v18908) rfl rfl ?_)
            refine wp_of e71 c71_55 (rw_iload (pc' := 57) (z := H r18744 ((H r18747 a2.toNat).toNat)) rfl rfl ?_)
            refine wp_of e71 c71_57 (rw_aload_n (pc' := 58) (v := .ref r1) rfl rfl rfl ?_)
            refine wp_of e71 c71_58 (xg_K (pc' := 61) lf_3_42 hW g1 sh_27 (by decide) (by decide) rfl q18737 rfl ?_)
            refine wp_of e71 c71_61 (rw_iload (pc' := 63) (z := v18907) rfl rfl ?_)
            refine wp_of e71 c71_63 (xa_R (pc' := 64) (by decide) hW g18738 sh_28 (by decide) (ty_28 _) (by omega) (by omega) rfl (fun r18923 q18924 g18925 => ?_))
            refine wp_of e71 c71_64 (xg_R (pc' := 67) lf_3_85 hW g18925 sh_35 (by decide) (by decide) ty_35_2 rfl rfl (fun r18926 q18927 g18928 => ?_))
            refine wp_of e71 c71_67 (rw_aload_n (pc' := 68) (v := .ref r0) rfl rfl rfl ?_)
            refine wp_of e71 c71_68 (xg_K (pc' := 71) lf_3_9 hW g0 sh_6 (by decide) (by decide) rfl q18748 rfl ?_)
            refine wp_of e71 c71_71 (rw_iload (pc' := 73) (z := v18907) rfl rfl ?_)
            refine wp_of e71 c71_73 (xa_I (so := 0) (pc' := 74) hW g18749 sh_7 (by decide) (ty_7 _) (by omega) (by omega) rfl (fun b18929 b18930 => ?_))
            refine wp_of e71 c71_74 (xa_I (so := 0) (pc' := 75) hW g18928 sh_38 (by decide) (ty_38 _) (by omega) (by omega) rfl (fun b18931 b18932 => ?_))
            refine wp_of e71 c71_75 (rw_iand (pc' := 76) rfl ?_)
            obtain ⟨v18933, e18934⟩ : ∃ x : Int, x = wq_and (H r18744 ((H r18747 a2.toNat).toNat)) (H r18926 ((H r18747 v18907.toNat).toNat)) := ⟨_, rfl⟩
            rw [← e18934]
            have b18935 : -2147483648 ≤ v18933 ∧ v18933 ≤ 2147483647 := by
              rw [e18934]
              exact wI_and _ _
            refine wp_of e71 c71_76 (rw_ior (pc' := 77) rfl ?_)
            obtain ⟨v18936, e18937⟩ : ∃ x : Int, x = wq_or v18908 v18933 := ⟨_, rfl⟩
            rw [← e18937]
            have b18938 : -2147483648 ≤ v18936 ∧ v18936 ≤ 2147483647 := by
              rw [e18937]
              exact wI_or _ _
            refine wp_of e71 c71_77 (rw_istore (pc' := 79) (z := v18936) (L' := [(5, vI v18936), (6, vI v18907), (4, vI (H r18744 ((H r18747 a2.toNat).toNat))), (3, vI (H r18739 14)), (0, .ref r0), (1, .ref r1), (2, vI a2)]) rfl rfl rfl ?_)
            refine wp_of e71 c71_79 (rw_iinc (pc' := 82) (z := v18907) (L' := [(6, vI (v18907 + 1)), (5, vI v18936), (4, vI (H r18744 ((H r18747 a2.toNat).toNat))), (3, vI (H r18739 14)), (0, .ref r0), (1, .ref r1), (2, vI a2)]) rfl rfl rfl rfl ?_)
            refine wp_of e71 c71_82 (rw_goto (p1 := 34) (by decide) ?_)
            exact wp_lc (ks := [6, 5, 4, 3, 0, 1, 2]) (wl_c rfl (wl_c rfl (wl_c rfl (wl_c rfl (wl_c rfl (wl_c rfl (wl_c rfl wl_n))))))) rfl (by decide) (ih18906 _ (by omega) (v18907 + 1) v18936 ⟨by omega, by omega⟩ ⟨by omega, by omega⟩ rfl)
  exact wp_lc (ks := [6, 5, 4, 3, 0, 1, 2]) (wl_c rfl (wl_c rfl (wl_c rfl (wl_c rfl (wl_c rfl (wl_c rfl (wl_c rfl wl_n))))))) rfl (by decide) (lp18904 _ 0 0 ⟨by omega, by omega⟩ ⟨by omega, by omega⟩ rfl)
/-! StrikeAwake$Walk.countFrom(LStrikeAwake$Parish;I)V -/
theorem e70 : wq_en 70 = some (3, 6, false, none) := rfl
theorem c70_0 : mc_cd 70 0 = some (.iload_n 2, 1) := by decide +kernel
theorem c70_1 : mc_cd 70 1 = some (.istore_n 3, 1) := by decide +kernel
theorem c70_2 : mc_cd 70 2 = some (.iload_n 3, 1) := by decide +kernel
theorem c70_3 : mc_cd 70 3 = some (.aload_n 0, 1) := by decide +kernel
theorem c70_4 : mc_cd 70 4 = some (.getfield 51, 3) := by decide +kernel
theorem c70_7 : mc_cd 70 7 = some (.if_icmp .ge 115, 3) := by decide +kernel
theorem c70_10 : mc_cd 70 10 = some (.aload_n 1, 1) := by decide +kernel
theorem c70_11 : mc_cd 70 11 = some (.getfield 42, 3) := by decide +kernel
theorem c70_14 : mc_cd 70 14 = some (.iload_n 3, 1) := by decide +kernel
theorem c70_15 : mc_cd 70 15 = some (.aaload, 1) := by decide +kernel
theorem c70_16 : mc_cd 70 16 = some (.astore 4, 2) := by decide +kernel
theorem c70_18 : mc_cd 70 18 = some (.aload_n 0, 1) := by decide +kernel
theorem c70_19 : mc_cd 70 19 = some (.getfield 9, 3) := by decide +kernel
theorem c70_22 : mc_cd 70 22 = some (.iload_n 3, 1) := by decide +kernel
theorem c70_23 : mc_cd 70 23 = some (.iaload, 1) := by decide +kernel
theorem c70_24 : mc_cd 70 24 = some (.istore 5, 2) := by decide +kernel
theorem c70_26 : mc_cd 70 26 = some (.aload_n 0, 1) := by decide +kernel
theorem c70_27 : mc_cd 70 27 = some (.getfield 15, 3) := by decide +kernel
theorem c70_30 : mc_cd 70 30 = some (.iload_n 3, 1) := by decide +kernel
theorem c70_31 : mc_cd 70 31 = some (.iconst 1, 1) := by decide +kernel
theorem c70_32 : mc_cd 70 32 = some (.iadd, 1) := by decide +kernel
theorem c70_33 : mc_cd 70 33 = some (.aload_n 0, 1) := by decide +kernel
theorem c70_34 : mc_cd 70 34 = some (.getfield 15, 3) := by decide +kernel
theorem c70_37 : mc_cd 70 37 = some (.iload_n 3, 1) := by decide +kernel
theorem c70_38 : mc_cd 70 38 = some (.laload, 1) := by decide +kernel
theorem c70_39 : mc_cd 70 39 = some (.aload 4, 2) := by decide +kernel
theorem c70_41 : mc_cd 70 41 = some (.getfield 69, 3) := by decide +kernel
theorem c70_44 : mc_cd 70 44 = some (.iload 5, 2) := by decide +kernel
theorem c70_46 : mc_cd 70 46 = some (.laload, 1) := by decide +kernel
theorem c70_47 : mc_cd 70 47 = some (.ladd, 1) := by decide +kernel
theorem c70_48 : mc_cd 70 48 = some (.lastore, 1) := by decide +kernel
theorem c70_49 : mc_cd 70 49 = some (.aload_n 0, 1) := by decide +kernel
theorem c70_50 : mc_cd 70 50 = some (.getfield 19, 3) := by decide +kernel
theorem c70_53 : mc_cd 70 53 = some (.iload_n 3, 1) := by decide +kernel
theorem c70_54 : mc_cd 70 54 = some (.iconst 1, 1) := by decide +kernel
theorem c70_55 : mc_cd 70 55 = some (.iadd, 1) := by decide +kernel
theorem c70_56 : mc_cd 70 56 = some (.aload_n 0, 1) := by decide +kernel
theorem c70_57 : mc_cd 70 57 = some (.getfield 19, 3) := by decide +kernel
theorem c70_60 : mc_cd 70 60 = some (.iload_n 3, 1) := by decide +kernel
theorem c70_61 : mc_cd 70 61 = some (.laload, 1) := by decide +kernel
theorem c70_62 : mc_cd 70 62 = some (.aload 4, 2) := by decide +kernel
theorem c70_64 : mc_cd 70 64 = some (.getfield 72, 3) := by decide +kernel
theorem c70_67 : mc_cd 70 67 = some (.iload 5, 2) := by decide +kernel
theorem c70_69 : mc_cd 70 69 = some (.laload, 1) := by decide +kernel
theorem c70_70 : mc_cd 70 70 = some (.ladd, 1) := by decide +kernel
theorem c70_71 : mc_cd 70 71 = some (.lastore, 1) := by decide +kernel
theorem c70_72 : mc_cd 70 72 = some (.aload_n 0, 1) := by decide +kernel
theorem c70_73 : mc_cd 70 73 = some (.getfield 22, 3) := by decide +kernel
theorem c70_76 : mc_cd 70 76 = some (.iload_n 3, 1) := by decide +kernel
theorem c70_77 : mc_cd 70 77 = some (.iconst 1, 1) := by decide +kernel
theorem c70_78 : mc_cd 70 78 = some (.iadd, 1) := by decide +kernel
theorem c70_79 : mc_cd 70 79 = some (.aload_n 0, 1) := by decide +kernel
theorem c70_80 : mc_cd 70 80 = some (.getfield 22, 3) := by decide +kernel
theorem c70_83 : mc_cd 70 83 = some (.iload_n 3, 1) := by decide +kernel
theorem c70_84 : mc_cd 70 84 = some (.iaload, 1) := by decide +kernel
theorem c70_85 : mc_cd 70 85 = some (.aload 4, 2) := by decide +kernel
theorem c70_87 : mc_cd 70 87 = some (.getfield 75, 3) := by decide +kernel
theorem c70_90 : mc_cd 70 90 = some (.iload 5, 2) := by decide +kernel
theorem c70_92 : mc_cd 70 92 = some (.iaload, 1) := by decide +kernel
theorem c70_93 : mc_cd 70 93 = some (.ior, 1) := by decide +kernel
theorem c70_94 : mc_cd 70 94 = some (.iastore, 1) := by decide +kernel
theorem c70_95 : mc_cd 70 95 = some (.aload_n 0, 1) := by decide +kernel
theorem c70_96 : mc_cd 70 96 = some (.getfield 25, 3) := by decide +kernel
theorem c70_99 : mc_cd 70 99 = some (.iload_n 3, 1) := by decide +kernel
theorem c70_100 : mc_cd 70 100 = some (.iconst 1, 1) := by decide +kernel
theorem c70_101 : mc_cd 70 101 = some (.iadd, 1) := by decide +kernel
theorem c70_102 : mc_cd 70 102 = some (.aload_n 0, 1) := by decide +kernel
theorem c70_103 : mc_cd 70 103 = some (.getfield 25, 3) := by decide +kernel
theorem c70_106 : mc_cd 70 106 = some (.iload_n 3, 1) := by decide +kernel
theorem c70_107 : mc_cd 70 107 = some (.iaload, 1) := by decide +kernel
theorem c70_108 : mc_cd 70 108 = some (.aload_n 0, 1) := by decide +kernel
theorem c70_109 : mc_cd 70 109 = some (.aload_n 1, 1) := by decide +kernel
theorem c70_110 : mc_cd 70 110 = some (.iload_n 3, 1) := by decide +kernel
theorem c70_111 : mc_cd 70 111 = some (.invokevirtual 78, 3) := by decide +kernel
theorem c70_114 : mc_cd 70 114 = some (.ior, 1) := by decide +kernel
theorem c70_115 : mc_cd 70 115 = some (.iastore, 1) := by decide +kernel
theorem c70_116 : mc_cd 70 116 = some (.iinc 3 1, 3) := by decide +kernel
theorem c70_119 : mc_cd 70 119 = some (.goto (-117), 3) := by decide +kernel
theorem c70_122 : mc_cd 70 122 = some (.return_, 1) := by decide +kernel
abbrev q_70 (r0 : Nat) (r1 : Nat) (a2 : Int) (T : wq_T) (H : wq_H) : Option Value → wq_T → wq_H → Prop := fun r T' H' => T = T' ∧ WT T H' ∧ wfr [(8, 999), (10, 999), (9, 999), (11, 999)] T H H' ∧ none = r
set_option maxHeartbeats 4000000 in
theorem s_70 {kt : Nat → Option mc_E} {T : wq_T} {H : wq_H} {r0 : Nat} {r1 : Nat} {a2 : Int} (hW : WT T H) (g0 : T.2.2.2 r0 = some 6) (g1 : T.2.2.2 r1 = some 27) (i2 : 0 ≤ a2 ∧ a2 ≤ 6) : wpc kt 2 70 [.ref r0, .ref r1, vI a2] T H (q_70 r0 r1 a2 T H) := by
  refine wp_enter e70 (Nat.le_of_ble_eq_true rfl) rfl ?_
  have f0 : wfr [(8, 999), (10, 999), (9, 999), (11, 999)] T H H := wfr.rf
  show wp _ _ 70 0 [(0, .ref r0), (1, .ref r1), (2, vI a2)] [] _ H _
  refine wp_of e70 c70_0 (rw_iload_n (pc' := 1) (z := a2) rfl rfl ?_)
  refine wp_of e70 c70_1 (rw_istore_n (pc' := 2) (z := a2) (L' := [(3, vI a2), (0, .ref r0), (1, .ref r1), (2, vI a2)]) rfl rfl rfl ?_)
  have lp19350 : ∀ (n19351 : Nat) (v19353 : Int) (H19354 : wq_H), WT T H19354 → wfr [(8, 999), (10, 999), (9, 999), (11, 999)] T H H19354 → (0 ≤ v19353 ∧ v19353 ≤ 6) → (6 - v19353).toNat = n19351 → wp kt 1 70 2 [(3, vI v19353), (0, .ref r0), (1, .ref r1)] [] T H19354 (q_70 r0 r1 a2 T H) := by
    intro n19351
    induction n19351 using Nat.strongRecOn with
    | _ n19351 ih19352 =>
      intro v19353 H19354 w19355 f19356 b19357 m19358
      have f19359 := f0.tr f19356 rfl
      refine wp_of e70 c70_2 (rw_iload_n (pc' := 3) (z := v19353) rfl rfl ?_)
      refine wp_of e70 c70_3 (rw_aload_n (pc' := 4) (v := .ref r0) rfl rfl rfl ?_)
      refine wp_of e70 c70_4 (xg_I (pc' := 7) lf_3_51 w19355 g0 sh_6 (by decide) (by decide) ty_6_5 rfl rfl (fun b19360 b19361 => ?_))
      refine wp_of e70 c70_7 (rw_icmp_ge (p1 := 122) (p2 := 10) (by decide) rfl ⟨by omega, by omega⟩ ⟨by omega, by omega⟩ (fun c19362 => ?_) (fun c19362 => ?_))
      · exact wp_return e70 c70_122 rfl ⟨rfl, w19355, f19359, rfl⟩
      · refine wp_of e70 c70_10 (rw_aload_n (pc' := 11) (v := .ref r1) rfl rfl rfl ?_)
        refine wp_of e70 c70_11 (xg_R (pc' := 14) lf_3_42 w19355 g1 sh_27 (by decide) (by decide) ty_27_0 rfl rfl (fun r19363 q19364 g19365 => ?_))
        refine wp_of e70 c70_14 (rw_iload_n (pc' := 15) (z := v19353) rfl rfl ?_)
        refine wp_of e70 c70_15 (xa_R (pc' := 16) (by decide) w19355 g19365 sh_28 (by decide) (ty_28 _) (by omega) (by omega) rfl (fun r19366 q19367 g19368 => ?_))
        refine wp_of e70 c70_16 (rw_astore (pc' := 18) (v := .ref r19366) (L' := [(4, .ref r19366), (3, vI v19353), (0, .ref r0), (1, .ref r1)]) rfl rfl rfl rfl ?_)
        refine wp_of e70 c70_18 (rw_aload_n (pc' := 19) (v := .ref r0) rfl rfl rfl ?_)
        refine wp_of e70 c70_19 (xg_R (pc' := 22) lf_3_9 w19355 g0 sh_6 (by decide) (by decide) ty_6_0 rfl rfl (fun r19369 q19370 g19371 => ?_))
        refine wp_of e70 c70_22 (rw_iload_n (pc' := 23) (z := v19353) rfl rfl ?_)
        refine wp_of e70 c70_23 (xa_I (so := 0) (pc' := 24) w19355 g19371 sh_7 (by decide) (ty_7 _) (by omega) (by omega) rfl (fun b19372 b19373 => ?_))
        refine wp_of e70 c70_24 (rw_istore (pc' := 26) (z := H19354 r19369 v19353.toNat) (L' := [(5, vI (H19354 r19369 v19353.toNat)), (4, .ref r19366), (3, vI v19353), (0, .ref r0), (1, .ref r1)]) rfl rfl rfl ?_)
        refine wp_of e70 c70_26 (rw_aload_n (pc' := 27) (v := .ref r0) rfl rfl rfl ?_)
        refine wp_of e70 c70_27 (xg_R (pc' := 30) lf_3_15 w19355 g0 sh_6 (by decide) (by decide) ty_6_1 rfl rfl (fun r19374 q19375 g19376 => ?_))
        refine wp_of e70 c70_30 (rw_iload_n (pc' := 31) (z := v19353) rfl rfl ?_)
        refine wp_of e70 c70_31 (rw_iconst (pc' := 32) rfl ?_)
        refine wp_of e70 c70_32 (rw_iadd (pc' := 33) rfl ?_)
        refine wp_of e70 c70_33 (rw_aload_n (pc' := 34) (v := .ref r0) rfl rfl rfl ?_)
        refine wp_of e70 c70_34 (xg_K (pc' := 37) lf_3_15 w19355 g0 sh_6 (by decide) (by decide) rfl q19375 rfl ?_)
        refine wp_of e70 c70_37 (rw_iload_n (pc' := 38) (z := v19353) rfl rfl ?_)
        refine wp_of e70 c70_38 (xa_L (pc' := 39) w19355 g19376 sh_8 (by decide) (ty_8 _) (by omega) (by omega) rfl (fun b19377 b19378 => ?_))
        refine wp_of e70 c70_39 (rw_aload (pc' := 41) (v := .ref r19366) rfl rfl rfl ?_)
        refine wp_of e70 c70_41 (xg_R (pc' := 44) lf_3_69 w19355 g19368 sh_35 (by decide) (by decide) ty_35_4 rfl rfl (fun r19379 q19380 g19381 => ?_))
        refine wp_of e70 c70_44 (rw_iload (pc' := 46) (z := H19354 r19369 v19353.toNat) rfl rfl ?_)
        refine wp_of e70 c70_46 (xa_L (pc' := 47) w19355 g19381 sh_40 (by decide) (ty_40 _) (by omega) (by omega) rfl (fun b19382 b19383 => ?_))
        refine wp_of e70 c70_47 (rw_laddw (pc' := 48) rfl ?_)
        obtain ⟨v19384, e19385⟩ : ∃ x : Int, x = wl_w ((H19354 r19374 v19353.toNat) + (H19354 r19379 ((H19354 r19369 v19353.toNat).toNat))) := ⟨_, rfl⟩
        rw [← e19385]
        have b19386 : -9223372036854775808 ≤ v19384 ∧ v19384 ≤ 9223372036854775807 := by
          rw [e19385]
          exact wL_w _
        refine wp_of e70 c70_48 (xs_L (pc' := 49) w19355 g19376 (by decide) sh_8 (by decide) (ty_8 _) (by omega) (by omega) ⟨by omega, by omega⟩ (by omega) (by omega) rfl (fun H19387 e19388 w19389 => ?_))
        have f19390 := f19359.put' e19388 g19376 rfl
        have f19391 := f19356.put' e19388 g19376 rfl
        refine wp_of e70 c70_49 (rw_aload_n (pc' := 50) (v := .ref r0) rfl rfl rfl ?_)
        refine wp_of e70 c70_50 (xg_R (pc' := 53) lf_3_19 w19389 g0 sh_6 (by decide) (by decide) ty_6_2 rfl rfl (fun r19392 q19393 g19394 => ?_))
        refine wp_of e70 c70_53 (rw_iload_n (pc' := 54) (z := v19353) rfl rfl ?_)
        refine wp_of e70 c70_54 (rw_iconst (pc' := 55) rfl ?_)
        refine wp_of e70 c70_55 (rw_iadd (pc' := 56) rfl ?_)
        refine wp_of e70 c70_56 (rw_aload_n (pc' := 57) (v := .ref r0) rfl rfl rfl ?_)
        refine wp_of e70 c70_57 (xg_K (pc' := 60) lf_3_19 w19389 g0 sh_6 (by decide) (by decide) rfl q19393 rfl ?_)
        refine wp_of e70 c70_60 (rw_iload_n (pc' := 61) (z := v19353) rfl rfl ?_)
        refine wp_of e70 c70_61 (xa_L (pc' := 62) w19389 g19394 sh_9 (by decide) (ty_9 _) (by omega) (by omega) rfl (fun b19395 b19396 => ?_))
        refine wp_of e70 c70_62 (rw_aload (pc' := 64) (v := .ref r19366) rfl rfl rfl ?_)
        refine wp_of e70 c70_64 (xg_R (pc' := 67) lf_3_72 w19389 g19368 sh_35 (by decide) (by decide) ty_35_5 rfl rfl (fun r19397 q19398 g19399 => ?_))
        refine wp_of e70 c70_67 (rw_iload (pc' := 69) (z := H19354 r19369 v19353.toNat) rfl rfl ?_)
        refine wp_of e70 c70_69 (xa_L (pc' := 70) w19389 g19399 sh_41 (by decide) (ty_41 _) (by omega) (by omega) rfl (fun b19400 b19401 => ?_))
        refine wp_of e70 c70_70 (rw_laddw (pc' := 71) rfl ?_)
        obtain ⟨v19402, e19403⟩ : ∃ x : Int, x = wl_w ((H19387 r19392 v19353.toNat) + (H19387 r19397 ((H19354 r19369 v19353.toNat).toNat))) := ⟨_, rfl⟩
        rw [← e19403]
        have b19404 : -9223372036854775808 ≤ v19402 ∧ v19402 ≤ 9223372036854775807 := by
          rw [e19403]
          exact wL_w _
        refine wp_of e70 c70_71 (xs_L (pc' := 72) w19389 g19394 (by decide) sh_9 (by decide) (ty_9 _) (by omega) (by omega) ⟨by omega, by omega⟩ (by omega) (by omega) rfl (fun H19405 e19406 w19407 => ?_))
        have f19408 := f19390.put' e19406 g19394 rfl
        have f19409 := f19391.put' e19406 g19394 rfl
        refine wp_of e70 c70_72 (rw_aload_n (pc' := 73) (v := .ref r0) rfl rfl rfl ?_)
        refine wp_of e70 c70_73 (xg_R (pc' := 76) lf_3_22 w19407 g0 sh_6 (by decide) (by decide) ty_6_3 rfl rfl (fun r19410 q19411 g19412 => ?_))
        refine wp_of e70 c70_76 (rw_iload_n (pc' := 77) (z := v19353) rfl rfl ?_)
        refine wp_of e70 c70_77 (rw_iconst (pc' := 78) rfl ?_)
        refine wp_of e70 c70_78 (rw_iadd (pc' := 79) rfl ?_)
        refine wp_of e70 c70_79 (rw_aload_n (pc' := 80) (v := .ref r0) rfl rfl rfl ?_)
        refine wp_of e70 c70_80 (xg_K (pc' := 83) lf_3_22 w19407 g0 sh_6 (by decide) (by decide) rfl q19411 rfl ?_)
        refine wp_of e70 c70_83 (rw_iload_n (pc' := 84) (z := v19353) rfl rfl ?_)
        refine wp_of e70 c70_84 (xa_I (so := 0) (pc' := 85) w19407 g19412 sh_10 (by decide) (ty_10 _) (by omega) (by omega) rfl (fun b19413 b19414 => ?_))
        refine wp_of e70 c70_85 (rw_aload (pc' := 87) (v := .ref r19366) rfl rfl rfl ?_)
        refine wp_of e70 c70_87 (xg_R (pc' := 90) lf_3_75 w19407 g19368 sh_35 (by decide) (by decide) ty_35_3 rfl rfl (fun r19415 q19416 g19417 => ?_))
        refine wp_of e70 c70_90 (rw_iload (pc' := 92) (z := H19354 r19369 v19353.toNat) rfl rfl ?_)
        refine wp_of e70 c70_92 (xa_I (so := 0) (pc' := 93) w19407 g19417 sh_39 (by decide) (ty_39 _) (by omega) (by omega) rfl (fun b19418 b19419 => ?_))
        refine wp_of e70 c70_93 (rw_ior (pc' := 94) rfl ?_)
        obtain ⟨v19420, e19421⟩ : ∃ x : Int, x = wq_or (H19405 r19410 v19353.toNat) (H19405 r19415 ((H19354 r19369 v19353.toNat).toNat)) := ⟨_, rfl⟩
        rw [← e19421]
        have b19422 : -2147483648 ≤ v19420 ∧ v19420 ≤ 2147483647 := by
          rw [e19421]
          exact wI_or _ _
        refine wp_of e70 c70_94 (xs_I (pc' := 95) w19407 g19412 (by decide) sh_10 (by decide) (ty_10 _) (by omega) (by omega) ⟨by omega, by omega⟩ (by omega) (by omega) rfl (fun H19423 e19424 w19425 => ?_))
        have f19426 := f19408.put' e19424 g19412 rfl
        have f19427 := f19409.put' e19424 g19412 rfl
        refine wp_of e70 c70_95 (rw_aload_n (pc' := 96) (v := .ref r0) rfl rfl rfl ?_)
        refine wp_of e70 c70_96 (xg_R (pc' := 99) lf_3_25 w19425 g0 sh_6 (by decide) (by decide) ty_6_4 rfl rfl (fun r19428 q19429 g19430 => ?_))
        refine wp_of e70 c70_99 (rw_iload_n (pc' := 100) (z := v19353) rfl rfl ?_)
        refine wp_of e70 c70_100 (rw_iconst (pc' := 101) rfl ?_)
        refine wp_of e70 c70_101 (rw_iadd (pc' := 102) rfl ?_)
        refine wp_of e70 c70_102 (rw_aload_n (pc' := 103) (v := .ref r0) rfl rfl rfl ?_)
        refine wp_of e70 c70_103 (xg_K (pc' := 106) lf_3_25 w19425 g0 sh_6 (by decide) (by decide) rfl q19429 rfl ?_)
        refine wp_of e70 c70_106 (rw_iload_n (pc' := 107) (z := v19353) rfl rfl ?_)
        refine wp_of e70 c70_107 (xa_I (so := 0) (pc' := 108) w19425 g19430 sh_11 (by decide) (ty_11 _) (by omega) (by omega) rfl (fun b19431 b19432 => ?_))
        refine wp_of e70 c70_108 (rw_aload_n (pc' := 109) (v := .ref r0) rfl rfl rfl ?_)
        refine wp_of e70 c70_109 (rw_aload_n (pc' := 110) (v := .ref r1) rfl rfl rfl ?_)
        refine wp_of e70 c70_110 (rw_iload_n (pc' := 111) (z := v19353) rfl rfl ?_)
        refine wp_of e70 c70_111 (xc_V (pc' := 114) (r := r0) (as := [.ref r1, vI v19353]) (st := [vI (H19423 r19428 v19353.toNat), vI (v19353 + 1), .ref r19428]) (lm_3_78) rfl rfl (Nat.le_of_ble_eq_true rfl) w19425 g0 sh_6 (by decide) rfl (by decide) (s_71 w19425 g0 g1 ⟨by omega, by omega⟩) (fun R19433 T19434 H19435 p19436 => ?_))
        obtain ⟨e19437, e19439, z19440, e19438, b19441⟩ := p19436
        subst e19437
        subst e19438
        subst e19439
        show wp _ _ 70 114 [(5, vI (H19354 r19369 v19353.toNat)), (4, .ref r19366), (3, vI v19353), (0, .ref r0), (1, .ref r1)] [vI z19440, vI (H19423 r19428 v19353.toNat), vI (v19353 + 1), .ref r19428] _ H19423 _
        refine wp_of e70 c70_114 (rw_ior (pc' := 115) rfl ?_)
        obtain ⟨v19442, e19443⟩ : ∃ x : Int, x = wq_or (H19423 r19428 v19353.toNat) z19440 := ⟨_, rfl⟩
        rw [← e19443]
        have b19444 : -2147483648 ≤ v19442 ∧ v19442 ≤ 2147483647 := by
          rw [e19443]
          exact wI_or _ _
        refine wp_of e70 c70_115 (xs_I (pc' := 116) w19425 g19430 (by decide) sh_11 (by decide) (ty_11 _) (by omega) (by omega) ⟨by omega, by omega⟩ (by omega) (by omega) rfl (fun H19445 e19446 w19447 => ?_))
        have f19448 := f19426.put' e19446 g19430 rfl
        have f19449 := f19427.put' e19446 g19430 rfl
        refine wp_of e70 c70_116 (rw_iinc (pc' := 119) (z := v19353) (L' := [(3, vI (v19353 + 1)), (5, vI (H19354 r19369 v19353.toNat)), (4, .ref r19366), (0, .ref r0), (1, .ref r1)]) rfl rfl rfl rfl ?_)
        refine wp_of e70 c70_119 (rw_goto (p1 := 2) (by decide) ?_)
        exact wp_lc (ks := [3, 5, 4, 0, 1]) (wl_c rfl (wl_c rfl (wl_c rfl wl_n))) rfl (by decide) (ih19352 _ (by omega) (v19353 + 1) H19445 w19447 f19449 ⟨by omega, by omega⟩ rfl)
  exact wp_lc (ks := [3, 0, 1, 2]) (wl_c rfl (wl_c rfl (wl_c rfl wl_n))) rfl (by decide) (lp19350 _ a2 H hW wfr.rf ⟨by omega, by omega⟩ rfl)
/-! StrikeAwake$Walk.toSaid(LStrikeAwake$Parish;)V -/
theorem e68 : wq_en 68 = some (3, 3, false, none) := rfl
theorem c68_0 : mc_cd 68 0 = some (.iconst 0, 1) := by decide +kernel
theorem c68_1 : mc_cd 68 1 = some (.istore_n 2, 1) := by decide +kernel
theorem c68_2 : mc_cd 68 2 = some (.iload_n 2, 1) := by decide +kernel
theorem c68_3 : mc_cd 68 3 = some (.aload_n 1, 1) := by decide +kernel
theorem c68_4 : mc_cd 68 4 = some (.getfield 36, 3) := by decide +kernel
theorem c68_7 : mc_cd 68 7 = some (.if_icmp .ge 24, 3) := by decide +kernel
theorem c68_10 : mc_cd 68 10 = some (.aload_n 0, 1) := by decide +kernel
theorem c68_11 : mc_cd 68 11 = some (.getfield 9, 3) := by decide +kernel
theorem c68_14 : mc_cd 68 14 = some (.iload_n 2, 1) := by decide +kernel
theorem c68_15 : mc_cd 68 15 = some (.aload_n 1, 1) := by decide +kernel
theorem c68_16 : mc_cd 68 16 = some (.getfield 42, 3) := by decide +kernel
theorem c68_19 : mc_cd 68 19 = some (.iload_n 2, 1) := by decide +kernel
theorem c68_20 : mc_cd 68 20 = some (.aaload, 1) := by decide +kernel
theorem c68_21 : mc_cd 68 21 = some (.getfield 46, 3) := by decide +kernel
theorem c68_24 : mc_cd 68 24 = some (.iastore, 1) := by decide +kernel
theorem c68_25 : mc_cd 68 25 = some (.iinc 2 1, 3) := by decide +kernel
theorem c68_28 : mc_cd 68 28 = some (.goto (-26), 3) := by decide +kernel
theorem c68_31 : mc_cd 68 31 = some (.aload_n 0, 1) := by decide +kernel
theorem c68_32 : mc_cd 68 32 = some (.aload_n 1, 1) := by decide +kernel
theorem c68_33 : mc_cd 68 33 = some (.invokevirtual 28, 3) := by decide +kernel
theorem c68_36 : mc_cd 68 36 = some (.aload_n 0, 1) := by decide +kernel
theorem c68_37 : mc_cd 68 37 = some (.aload_n 1, 1) := by decide +kernel
theorem c68_38 : mc_cd 68 38 = some (.iconst 0, 1) := by decide +kernel
theorem c68_39 : mc_cd 68 39 = some (.invokevirtual 32, 3) := by decide +kernel
theorem c68_42 : mc_cd 68 42 = some (.return_, 1) := by decide +kernel
abbrev q_68 (r0 : Nat) (r1 : Nat) (T : wq_T) (H : wq_H) : Option Value → wq_T → wq_H → Prop := fun r T' H' => T = T' ∧ WT T H' ∧ wfr [(6, 5), (8, 999), (10, 999), (9, 999), (7, 999), (11, 999)] T H H' ∧ none = r
set_option maxHeartbeats 4000000 in
theorem s_68 {kt : Nat → Option mc_E} {T : wq_T} {H : wq_H} {r0 : Nat} {r1 : Nat} (hW : WT T H) (g0 : T.2.2.2 r0 = some 6) (g1 : T.2.2.2 r1 = some 27) : wpc kt 3 68 [.ref r0, .ref r1] T H (q_68 r0 r1 T H) := by
  refine wp_enter e68 (Nat.le_of_ble_eq_true rfl) rfl ?_
  have f0 : wfr [(6, 5), (8, 999), (10, 999), (9, 999), (7, 999), (11, 999)] T H H := wfr.rf
  show wp _ _ 68 0 [(0, .ref r0), (1, .ref r1)] [] _ H _
  refine wp_of e68 c68_0 (rw_iconst (pc' := 1) rfl ?_)
  refine wp_of e68 c68_1 (rw_istore_n (pc' := 2) (z := 0) (L' := [(2, vI 0), (0, .ref r0), (1, .ref r1)]) rfl rfl rfl ?_)
  have lp19739 : ∀ (n19740 : Nat) (v19742 : Int) (H19743 : wq_H), WT T H19743 → wfr [(7, 999)] T H H19743 → (0 ≤ v19742 ∧ v19742 ≤ 6) → (6 - v19742).toNat = n19740 → wp kt 2 68 2 [(2, vI v19742), (0, .ref r0), (1, .ref r1)] [] T H19743 (q_68 r0 r1 T H) := by
    intro n19740
    induction n19740 using Nat.strongRecOn with
    | _ n19740 ih19741 =>
      intro v19742 H19743 w19744 f19745 b19746 m19747
      have f19748 := f0.tr f19745 rfl
      refine wp_of e68 c68_2 (rw_iload_n (pc' := 3) (z := v19742) rfl rfl ?_)
      refine wp_of e68 c68_3 (rw_aload_n (pc' := 4) (v := .ref r1) rfl rfl rfl ?_)
      refine wp_of e68 c68_4 (xg_I (pc' := 7) lf_3_36 w19744 g1 sh_27 (by decide) (by decide) ty_27_10 rfl rfl (fun b19749 b19750 => ?_))
      refine wp_of e68 c68_7 (rw_icmp_ge (p1 := 31) (p2 := 10) (by decide) rfl ⟨by omega, by omega⟩ ⟨by omega, by omega⟩ (fun c19751 => ?_) (fun c19751 => ?_))
      · refine wp_of e68 c68_31 (rw_aload_n (pc' := 32) (v := .ref r0) rfl rfl rfl ?_)
        refine wp_of e68 c68_32 (rw_aload_n (pc' := 33) (v := .ref r1) rfl rfl rfl ?_)
        refine wp_of e68 c68_33 (xc_V (pc' := 36) (r := r0) (as := [.ref r1]) (st := []) (lm_3_28) rfl rfl (Nat.le_of_ble_eq_true rfl) w19744 g0 sh_6 (by decide) rfl (by decide) (s_69 w19744 g0 g1) (fun R19752 T19753 H19754 p19755 => ?_))
        obtain ⟨e19756, w19758, f19759, e19757⟩ := p19755
        subst e19756
        subst e19757
        have f19760 := f19748.tr f19759 rfl
        have f19761 := f19745.tr f19759 rfl
        show wp _ _ 68 36 [(2, vI v19742), (0, .ref r0), (1, .ref r1)] [] _ H19754 _
        refine wp_of e68 c68_36 (rw_aload_n (pc' := 37) (v := .ref r0) rfl rfl rfl ?_)
        refine wp_of e68 c68_37 (rw_aload_n (pc' := 38) (v := .ref r1) rfl rfl rfl ?_)
        refine wp_of e68 c68_38 (rw_iconst (pc' := 39) rfl ?_)
        refine wp_of e68 c68_39 (xc_V (pc' := 42) (r := r0) (as := [.ref r1, vI 0]) (st := []) (lm_3_32) rfl rfl (Nat.le_of_ble_eq_true rfl) w19758 g0 sh_6 (by decide) rfl (by decide) (s_70 w19758 g0 g1 ⟨by omega, by omega⟩) (fun R19762 T19763 H19764 p19765 => ?_))
        obtain ⟨e19766, w19768, f19769, e19767⟩ := p19765
        subst e19766
        subst e19767
        have f19770 := f19760.tr f19769 rfl
        have f19771 := f19761.tr f19769 rfl
        show wp _ _ 68 42 [(2, vI v19742), (0, .ref r0), (1, .ref r1)] [] _ H19764 _
        exact wp_return e68 c68_42 rfl ⟨rfl, w19768, f19770, rfl⟩
      · refine wp_of e68 c68_10 (rw_aload_n (pc' := 11) (v := .ref r0) rfl rfl rfl ?_)
        refine wp_of e68 c68_11 (xg_R (pc' := 14) lf_3_9 w19744 g0 sh_6 (by decide) (by decide) ty_6_0 rfl rfl (fun r19772 q19773 g19774 => ?_))
        refine wp_of e68 c68_14 (rw_iload_n (pc' := 15) (z := v19742) rfl rfl ?_)
        refine wp_of e68 c68_15 (rw_aload_n (pc' := 16) (v := .ref r1) rfl rfl rfl ?_)
        refine wp_of e68 c68_16 (xg_R (pc' := 19) lf_3_42 w19744 g1 sh_27 (by decide) (by decide) ty_27_0 rfl rfl (fun r19775 q19776 g19777 => ?_))
        refine wp_of e68 c68_19 (rw_iload_n (pc' := 20) (z := v19742) rfl rfl ?_)
        refine wp_of e68 c68_20 (xa_R (pc' := 21) (by decide) w19744 g19777 sh_28 (by decide) (ty_28 _) (by omega) (by omega) rfl (fun r19778 q19779 g19780 => ?_))
        refine wp_of e68 c68_21 (xg_I (pc' := 24) lf_3_46 w19744 g19780 sh_35 (by decide) (by decide) ty_35_16 rfl rfl (fun b19781 b19782 => ?_))
        refine wp_of e68 c68_24 (xs_I (pc' := 25) w19744 g19774 (by decide) sh_7 (by decide) (ty_7 _) (by omega) (by omega) ⟨by omega, by omega⟩ (by omega) (by omega) rfl (fun H19783 e19784 w19785 => ?_))
        have f19786 := f19748.put' e19784 g19774 rfl
        have f19787 := f19745.put' e19784 g19774 rfl
        refine wp_of e68 c68_25 (rw_iinc (pc' := 28) (z := v19742) (L' := [(2, vI (v19742 + 1)), (0, .ref r0), (1, .ref r1)]) rfl rfl rfl rfl ?_)
        refine wp_of e68 c68_28 (rw_goto (p1 := 2) (by decide) ?_)
        exact wp_lc (ks := [2, 0, 1]) (wl_c rfl (wl_c rfl (wl_c rfl wl_n))) rfl (by decide) (ih19741 _ (by omega) (v19742 + 1) H19783 w19785 f19787 ⟨by omega, by omega⟩ rfl)
  exact wp_lc (ks := [2, 0, 1]) (wl_c rfl (wl_c rfl (wl_c rfl wl_n))) rfl (by decide) (lp19739 _ 0 H hW wfr.rf ⟨by omega, by omega⟩ rfl)
/-! StrikeAwake.barOfSaid(Z)I -/
theorem e67 : wq_en 67 = some (0, 2, false, some FieldType.int) := rfl
theorem c67_0 : mc_cd 67 0 = some (.iload_n 1, 1) := by decide +kernel
theorem c67_1 : mc_cd 67 1 = some (.ifCond .ne 5, 3) := by decide +kernel
theorem c67_4 : mc_cd 67 4 = some (.iconst 1, 1) := by decide +kernel
theorem c67_5 : mc_cd 67 5 = some (.ireturn, 1) := by decide +kernel
theorem c67_6 : mc_cd 67 6 = some (.aload_n 0, 1) := by decide +kernel
theorem c67_7 : mc_cd 67 7 = some (.getfield 51, 3) := by decide +kernel
theorem c67_10 : mc_cd 67 10 = some (.getfield 141, 3) := by decide +kernel
theorem c67_13 : mc_cd 67 13 = some (.lconst 0, 1) := by decide +kernel
theorem c67_14 : mc_cd 67 14 = some (.lcmp, 1) := by decide +kernel
theorem c67_15 : mc_cd 67 15 = some (.ifCond .ne 5, 3) := by decide +kernel
theorem c67_18 : mc_cd 67 18 = some (.iconst 5, 1) := by decide +kernel
theorem c67_19 : mc_cd 67 19 = some (.ireturn, 1) := by decide +kernel
theorem c67_20 : mc_cd 67 20 = some (.aload_n 0, 1) := by decide +kernel
theorem c67_21 : mc_cd 67 21 = some (.getfield 23, 3) := by decide +kernel
theorem c67_24 : mc_cd 67 24 = some (.aload_n 0, 1) := by decide +kernel
theorem c67_25 : mc_cd 67 25 = some (.getfield 51, 3) := by decide +kernel
theorem c67_28 : mc_cd 67 28 = some (.invokevirtual 345, 3) := by decide +kernel
theorem c67_31 : mc_cd 67 31 = some (.iconst 0, 1) := by decide +kernel
theorem c67_32 : mc_cd 67 32 = some (.ireturn, 1) := by decide +kernel
abbrev q_67 (r0 : Nat) (a1 : Int) (T : wq_T) (H : wq_H) : Option Value → wq_T → wq_H → Prop := fun r T' H' => T = T' ∧ WT T H' ∧ wfr [(6, 5), (8, 999), (10, 999), (9, 999), (7, 999), (11, 999)] T H H' ∧ ∃ z : Int, some (vI z) = r ∧ (0 ≤ z ∧ z ≤ 6) ∧ (z ≠ 0 ∨ a1 = 1)
set_option maxHeartbeats 4000000 in
theorem s_67 {kt : Nat → Option mc_E} {T : wq_T} {H : wq_H} {r0 : Nat} {a1 : Int} (hW : WT T H) (g0 : T.2.2.2 r0 = some 1) (i1 : 0 ≤ a1 ∧ a1 ≤ 1) : wpc kt 4 67 [.ref r0, vI a1] T H (q_67 r0 a1 T H) := by
  refine wp_enter e67 (Nat.le_of_ble_eq_true rfl) rfl ?_
  have f0 : wfr [(6, 5), (8, 999), (10, 999), (9, 999), (7, 999), (11, 999)] T H H := wfr.rf
  show wp _ _ 67 0 [(0, .ref r0), (1, vI a1)] [] _ H _
  refine wp_of e67 c67_0 (rw_iload_n (pc' := 1) (z := a1) rfl rfl ?_)
  refine wp_of e67 c67_1 (rw_if_ne (p1 := 6) (p2 := 4) (by decide) rfl ⟨by omega, by omega⟩ (fun c19808 => ?_) (fun c19808 => ?_))
  · refine wp_of e67 c67_6 (rw_aload_n (pc' := 7) (v := .ref r0) rfl rfl rfl ?_)
    refine wp_of e67 c67_7 (xg_R (pc' := 10) lf_0_51 hW g0 sh_1 (by decide) (by decide) ty_1_6 rfl rfl (fun r19809 q19810 g19811 => ?_))
    refine wp_of e67 c67_10 (xg_L (pc' := 13) lf_0_141 hW g19811 sh_27 (by decide) (by decide) ty_27_18 rfl rfl (fun b19812 b19813 => ?_))
    refine wp_of e67 c67_13 (rw_lconst (pc' := 14) (z := 0) rfl rfl ?_)
    refine wp_of e67 c67_14 (rw_lcmp (pc' := 15) rfl ⟨by omega, by omega⟩ ⟨by omega, by omega⟩ ?_)
    have b19814 := wq_cmp_b (H r19809 18) 0
    refine wp_of e67 c67_15 (rw_if_ne (p1 := 20) (p2 := 18) (by decide) rfl ⟨by omega, by omega⟩ (fun c19815 => ?_) (fun c19815 => ?_))
    · refine wp_of e67 c67_20 (rw_aload_n (pc' := 21) (v := .ref r0) rfl rfl rfl ?_)
      refine wp_of e67 c67_21 (xg_R (pc' := 24) lf_0_23 hW g0 sh_1 (by decide) (by decide) ty_1_2 rfl rfl (fun r19816 q19817 g19818 => ?_))
      refine wp_of e67 c67_24 (rw_aload_n (pc' := 25) (v := .ref r0) rfl rfl rfl ?_)
      refine wp_of e67 c67_25 (xg_K (pc' := 28) lf_0_51 hW g0 sh_1 (by decide) (by decide) rfl q19810 rfl ?_)
      refine wp_of e67 c67_28 (xc_V (pc' := 31) (r := r19816) (as := [.ref r19809]) (st := []) (lm_0_345) rfl rfl (Nat.le_of_ble_eq_true rfl) hW g19818 sh_6 (by decide) rfl (by decide) (s_68 hW g19818 g19811) (fun R19819 T19820 H19821 p19822 => ?_))
      obtain ⟨e19823, w19825, f19826, e19824⟩ := p19822
      subst e19823
      subst e19824
      have f19827 := f0.tr f19826 rfl
      show wp _ _ 67 31 [(0, .ref r0), (1, vI a1)] [] _ H19821 _
      refine wp_of e67 c67_31 (rw_iconst (pc' := 32) rfl ?_)
      exact wp_ireturn e67 c67_32 rfl ⟨rfl, w19825, f19827, 0, rfl, ⟨by omega, by omega⟩, by omega⟩
    · refine wp_of e67 c67_18 (rw_iconst (pc' := 19) rfl ?_)
      exact wp_ireturn e67 c67_19 rfl ⟨rfl, hW, f0, 5, rfl, ⟨by omega, by omega⟩, by omega⟩
  · refine wp_of e67 c67_4 (rw_iconst (pc' := 5) rfl ?_)
    exact wp_ireturn e67 c67_5 rfl ⟨rfl, hW, f0, 1, rfl, ⟨by omega, by omega⟩, by omega⟩
/-! StrikeAwake$Walk.strokesDue(I)I -/
theorem e72 : wq_en 72 = some (3, 6, false, some FieldType.int) := rfl
theorem c72_0 : mc_cd 72 0 = some (.iload_n 1, 1) := by decide +kernel
theorem c72_1 : mc_cd 72 1 = some (.bipush 12, 2) := by decide +kernel
theorem c72_3 : mc_cd 72 3 = some (.if_icmp .ge 7, 3) := by decide +kernel
theorem c72_6 : mc_cd 72 6 = some (.iconst 1, 1) := by decide +kernel
theorem c72_7 : mc_cd 72 7 = some (.goto 4, 3) := by decide +kernel
theorem c72_10 : mc_cd 72 10 = some (.iconst 0, 1) := by decide +kernel
theorem c72_11 : mc_cd 72 11 = some (.istore_n 2, 1) := by decide +kernel
theorem c72_12 : mc_cd 72 12 = some (.iload_n 2, 1) := by decide +kernel
theorem c72_13 : mc_cd 72 13 = some (.ifCond .eq 15, 3) := by decide +kernel
theorem c72_16 : mc_cd 72 16 = some (.aload_n 0, 1) := by decide +kernel
theorem c72_17 : mc_cd 72 17 = some (.getfield 15, 3) := by decide +kernel
theorem c72_20 : mc_cd 72 20 = some (.aload_n 0, 1) := by decide +kernel
theorem c72_21 : mc_cd 72 21 = some (.getfield 51, 3) := by decide +kernel
theorem c72_24 : mc_cd 72 24 = some (.laload, 1) := by decide +kernel
theorem c72_25 : mc_cd 72 25 = some (.goto 12, 3) := by decide +kernel
theorem c72_28 : mc_cd 72 28 = some (.aload_n 0, 1) := by decide +kernel
theorem c72_29 : mc_cd 72 29 = some (.getfield 19, 3) := by decide +kernel
theorem c72_32 : mc_cd 72 32 = some (.aload_n 0, 1) := by decide +kernel
theorem c72_33 : mc_cd 72 33 = some (.getfield 51, 3) := by decide +kernel
theorem c72_36 : mc_cd 72 36 = some (.laload, 1) := by decide +kernel
theorem c72_37 : mc_cd 72 37 = some (.lstore_n 3, 1) := by decide +kernel
theorem c72_38 : mc_cd 72 38 = some (.iload_n 2, 1) := by decide +kernel
theorem c72_39 : mc_cd 72 39 = some (.ifCond .eq 7, 3) := by decide +kernel
theorem c72_42 : mc_cd 72 42 = some (.iload_n 1, 1) := by decide +kernel
theorem c72_43 : mc_cd 72 43 = some (.goto 7, 3) := by decide +kernel
theorem c72_46 : mc_cd 72 46 = some (.iload_n 1, 1) := by decide +kernel
theorem c72_47 : mc_cd 72 47 = some (.bipush 12, 2) := by decide +kernel
theorem c72_49 : mc_cd 72 49 = some (.isub, 1) := by decide +kernel
theorem c72_50 : mc_cd 72 50 = some (.istore 5, 2) := by decide +kernel
theorem c72_52 : mc_cd 72 52 = some (.lload_n 3, 1) := by decide +kernel
theorem c72_53 : mc_cd 72 53 = some (.iload 5, 2) := by decide +kernel
theorem c72_55 : mc_cd 72 55 = some (.iconst 4, 1) := by decide +kernel
theorem c72_56 : mc_cd 72 56 = some (.imul, 1) := by decide +kernel
theorem c72_57 : mc_cd 72 57 = some (.lshr, 1) := by decide +kernel
theorem c72_58 : mc_cd 72 58 = some (.l2i, 1) := by decide +kernel
theorem c72_59 : mc_cd 72 59 = some (.bipush 15, 2) := by decide +kernel
theorem c72_61 : mc_cd 72 61 = some (.iand, 1) := by decide +kernel
theorem c72_62 : mc_cd 72 62 = some (.ireturn, 1) := by decide +kernel
abbrev q_72 (r0 : Nat) (a1 : Int) (T : wq_T) (H : wq_H) : Option Value → wq_T → wq_H → Prop := fun r T' H' => T = T' ∧ H = H' ∧ ∃ z : Int, some (vI z) = r ∧ ((-2147483648) ≤ z ∧ z ≤ 2147483647)
set_option maxHeartbeats 4000000 in
theorem s_72 {kt : Nat → Option mc_E} {T : wq_T} {H : wq_H} {r0 : Nat} {a1 : Int} (hW : WT T H) (g0 : T.2.2.2 r0 = some 6) (i1 : 0 ≤ a1 ∧ a1 ≤ 23) : wpc kt 1 72 [.ref r0, vI a1] T H (q_72 r0 a1 T H) := by
  refine wp_enter e72 (Nat.le_of_ble_eq_true rfl) rfl ?_
  show wp _ _ 72 0 [(0, .ref r0), (1, vI a1)] [] _ H _
  refine wp_of e72 c72_0 (rw_iload_n (pc' := 1) (z := a1) rfl rfl ?_)
  refine wp_of e72 c72_1 (rw_bipush (pc' := 3) (z := 12) rfl (by decide) ?_)
  refine wp_of e72 c72_3 (rw_icmp_ge (p1 := 10) (p2 := 6) (by decide) rfl ⟨by omega, by omega⟩ ⟨by omega, by omega⟩ (fun c19859 => ?_) (fun c19859 => ?_))
  · refine wp_of e72 c72_10 (rw_iconst (pc' := 11) rfl ?_)
    refine wp_of e72 c72_11 (rw_istore_n (pc' := 12) (z := 0) (L' := [(2, vI 0), (0, .ref r0), (1, vI a1)]) rfl rfl rfl ?_)
    refine wp_of e72 c72_12 (rw_iload_n (pc' := 13) (z := 0) rfl rfl ?_)
    refine wp_of e72 c72_13 (rw_if_eq (p1 := 28) (p2 := 16) (by decide) rfl ⟨by omega, by omega⟩ (fun c19860 => ?_) (fun c19860 => ?_))
    · refine wp_of e72 c72_28 (rw_aload_n (pc' := 29) (v := .ref r0) rfl rfl rfl ?_)
      refine wp_of e72 c72_29 (xg_R (pc' := 32) lf_3_19 hW g0 sh_6 (by decide) (by decide) ty_6_2 rfl rfl (fun r19861 q19862 g19863 => ?_))
      refine wp_of e72 c72_32 (rw_aload_n (pc' := 33) (v := .ref r0) rfl rfl rfl ?_)
      refine wp_of e72 c72_33 (xg_I (pc' := 36) lf_3_51 hW g0 sh_6 (by decide) (by decide) ty_6_5 rfl rfl (fun b19864 b19865 => ?_))
      refine wp_of e72 c72_36 (xa_L (pc' := 37) hW g19863 sh_9 (by decide) (ty_9 _) (by omega) (by omega) rfl (fun b19866 b19867 => ?_))
      refine wp_of e72 c72_37 (rw_lstore_n (pc' := 38) (z := H r19861 ((H r0 5).toNat)) (L' := [(3, vL (H r19861 ((H r0 5).toNat))), (2, vI 0), (0, .ref r0), (1, vI a1)]) rfl rfl rfl ?_)
      refine wp_of e72 c72_38 (rw_iload_n (pc' := 39) (z := 0) rfl rfl ?_)
      refine wp_of e72 c72_39 (rw_if_eq (p1 := 46) (p2 := 42) (by decide) rfl ⟨by omega, by omega⟩ (fun c19868 => ?_) (fun c19868 => ?_))
      · refine wp_of e72 c72_46 (rw_iload_n (pc' := 47) (z := a1) rfl rfl ?_)
        refine wp_of e72 c72_47 (rw_bipush (pc' := 49) (z := 12) rfl (by decide) ?_)
        refine wp_of e72 c72_49 (rw_isub (pc' := 50) rfl ?_)
        refine wp_of e72 c72_50 (rw_istore (pc' := 52) (z := a1 - 12) (L' := [(5, vI (a1 - 12)), (3, vL (H r19861 ((H r0 5).toNat))), (2, vI 0), (0, .ref r0), (1, vI a1)]) rfl rfl rfl ?_)
        refine wp_of e72 c72_52 (rw_lload_n (pc' := 53) (z := H r19861 ((H r0 5).toNat)) rfl rfl ?_)
        refine wp_of e72 c72_53 (rw_iload (pc' := 55) (z := a1 - 12) rfl rfl ?_)
        refine wp_of e72 c72_55 (rw_iconst (pc' := 56) rfl ?_)
        refine wp_of e72 c72_56 (rw_imul (pc' := 57) rfl ?_)
        refine wp_of e72 c72_57 (rw_lshr (pc' := 58) rfl ?_)
        obtain ⟨v19869, e19870⟩ : ∃ x : Int, x = wl_shr (H r19861 ((H r0 5).toNat)) ((a1 - 12) * 4) := ⟨_, rfl⟩
        rw [← e19870]
        have b19871 : -9223372036854775808 ≤ v19869 ∧ v19869 ≤ 9223372036854775807 := by
          rw [e19870]
          exact wL_shr _ _
        refine wp_of e72 c72_58 (rw_l2i (pc' := 59) rfl ?_)
        obtain ⟨v19872, e19873⟩ : ∃ x : Int, x = wq_w v19869 := ⟨_, rfl⟩
        rw [← e19873]
        have b19874 : -2147483648 ≤ v19872 ∧ v19872 ≤ 2147483647 := by
          rw [e19873]
          exact wI_w _
        refine wp_of e72 c72_59 (rw_bipush (pc' := 61) (z := 15) rfl (by decide) ?_)
        refine wp_of e72 c72_61 (rw_iand (pc' := 62) rfl ?_)
        obtain ⟨v19875, e19876⟩ : ∃ x : Int, x = wq_and v19872 15 := ⟨_, rfl⟩
        rw [← e19876]
        have b19877 : 0 ≤ v19875 ∧ v19875 ≤ 15 := by
          rw [e19876]
          exact wq_and_b _ (by omega) (by omega)
        exact wp_ireturn e72 c72_62 rfl ⟨rfl, rfl, v19875, rfl, ⟨by omega, by omega⟩⟩
      · exfalso
        omega
    · exfalso
      omega
  · refine wp_of e72 c72_6 (rw_iconst (pc' := 7) rfl ?_)
    refine wp_of e72 c72_7 (rw_goto (p1 := 11) (by decide) ?_)
    refine wp_of e72 c72_11 (rw_istore_n (pc' := 12) (z := 1) (L' := [(2, vI 1), (0, .ref r0), (1, vI a1)]) rfl rfl rfl ?_)
    refine wp_of e72 c72_12 (rw_iload_n (pc' := 13) (z := 1) rfl rfl ?_)
    refine wp_of e72 c72_13 (rw_if_eq (p1 := 28) (p2 := 16) (by decide) rfl ⟨by omega, by omega⟩ (fun c19878 => ?_) (fun c19878 => ?_))
    · exfalso
      omega
    · refine wp_of e72 c72_16 (rw_aload_n (pc' := 17) (v := .ref r0) rfl rfl rfl ?_)
      refine wp_of e72 c72_17 (xg_R (pc' := 20) lf_3_15 hW g0 sh_6 (by decide) (by decide) ty_6_1 rfl rfl (fun r19879 q19880 g19881 => ?_))
      refine wp_of e72 c72_20 (rw_aload_n (pc' := 21) (v := .ref r0) rfl rfl rfl ?_)
      refine wp_of e72 c72_21 (xg_I (pc' := 24) lf_3_51 hW g0 sh_6 (by decide) (by decide) ty_6_5 rfl rfl (fun b19882 b19883 => ?_))
      refine wp_of e72 c72_24 (xa_L (pc' := 25) hW g19881 sh_8 (by decide) (ty_8 _) (by omega) (by omega) rfl (fun b19884 b19885 => ?_))
      refine wp_of e72 c72_25 (rw_goto (p1 := 37) (by decide) ?_)
      refine wp_of e72 c72_37 (rw_lstore_n (pc' := 38) (z := H r19879 ((H r0 5).toNat)) (L' := [(3, vL (H r19879 ((H r0 5).toNat))), (2, vI 1), (0, .ref r0), (1, vI a1)]) rfl rfl rfl ?_)
      refine wp_of e72 c72_38 (rw_iload_n (pc' := 39) (z := 1) rfl rfl ?_)
      refine wp_of e72 c72_39 (rw_if_eq (p1 := 46) (p2 := 42) (by decide) rfl ⟨by omega, by omega⟩ (fun c19886 => ?_) (fun c19886 => ?_))
      · exfalso
        omega
      · refine wp_of e72 c72_42 (rw_iload_n (pc' := 43) (z := a1) rfl rfl ?_)
        refine wp_of e72 c72_43 (rw_goto (p1 := 50) (by decide) ?_)
        refine wp_of e72 c72_50 (rw_istore (pc' := 52) (z := a1) (L' := [(5, vI a1), (3, vL (H r19879 ((H r0 5).toNat))), (2, vI 1), (0, .ref r0), (1, vI a1)]) rfl rfl rfl ?_)
        refine wp_of e72 c72_52 (rw_lload_n (pc' := 53) (z := H r19879 ((H r0 5).toNat)) rfl rfl ?_)
        refine wp_of e72 c72_53 (rw_iload (pc' := 55) (z := a1) rfl rfl ?_)
        refine wp_of e72 c72_55 (rw_iconst (pc' := 56) rfl ?_)
        refine wp_of e72 c72_56 (rw_imul (pc' := 57) rfl ?_)
        refine wp_of e72 c72_57 (rw_lshr (pc' := 58) rfl ?_)
        obtain ⟨v19887, e19888⟩ : ∃ x : Int, x = wl_shr (H r19879 ((H r0 5).toNat)) (a1 * 4) := ⟨_, rfl⟩
        rw [← e19888]
        have b19889 : -9223372036854775808 ≤ v19887 ∧ v19887 ≤ 9223372036854775807 := by
          rw [e19888]
          exact wL_shr _ _
        refine wp_of e72 c72_58 (rw_l2i (pc' := 59) rfl ?_)
        obtain ⟨v19890, e19891⟩ : ∃ x : Int, x = wq_w v19887 := ⟨_, rfl⟩
        rw [← e19891]
        have b19892 : -2147483648 ≤ v19890 ∧ v19890 ≤ 2147483647 := by
          rw [e19891]
          exact wI_w _
        refine wp_of e72 c72_59 (rw_bipush (pc' := 61) (z := 15) rfl (by decide) ?_)
        refine wp_of e72 c72_61 (rw_iand (pc' := 62) rfl ?_)
        obtain ⟨v19893, e19894⟩ : ∃ x : Int, x = wq_and v19890 15 := ⟨_, rfl⟩
        rw [← e19894]
        have b19895 : 0 ≤ v19893 ∧ v19893 ≤ 15 := by
          rw [e19894]
          exact wq_and_b _ (by omega) (by omega)
        exact wp_ireturn e72 c72_62 rfl ⟨rfl, rfl, v19893, rfl, ⟨by omega, by omega⟩⟩
/-! StrikeAwake.strikes(I)I -/
theorem e66 : wq_en 66 = some (0, 3, false, some FieldType.int) := rfl
theorem c66_0 : mc_cd 66 0 = some (.aload_n 0, 1) := by decide +kernel
theorem c66_1 : mc_cd 66 1 = some (.aload_n 0, 1) := by decide +kernel
theorem c66_2 : mc_cd 66 2 = some (.iload_n 1, 1) := by decide +kernel
theorem c66_3 : mc_cd 66 3 = some (.invokevirtual 132, 3) := by decide +kernel
theorem c66_6 : mc_cd 66 6 = some (.invokevirtual 155, 3) := by decide +kernel
theorem c66_9 : mc_cd 66 9 = some (.istore_n 2, 1) := by decide +kernel
theorem c66_10 : mc_cd 66 10 = some (.iload_n 2, 1) := by decide +kernel
theorem c66_11 : mc_cd 66 11 = some (.ifCond .eq 9, 3) := by decide +kernel
theorem c66_14 : mc_cd 66 14 = some (.aload_n 0, 1) := by decide +kernel
theorem c66_15 : mc_cd 66 15 = some (.iload_n 2, 1) := by decide +kernel
theorem c66_16 : mc_cd 66 16 = some (.invokevirtual 70, 3) := by decide +kernel
theorem c66_19 : mc_cd 66 19 = some (.ireturn, 1) := by decide +kernel
theorem c66_20 : mc_cd 66 20 = some (.aload_n 0, 1) := by decide +kernel
theorem c66_21 : mc_cd 66 21 = some (.aload_n 0, 1) := by decide +kernel
theorem c66_22 : mc_cd 66 22 = some (.getfield 23, 3) := by decide +kernel
theorem c66_25 : mc_cd 66 25 = some (.iload_n 1, 1) := by decide +kernel
theorem c66_26 : mc_cd 66 26 = some (.invokevirtual 159, 3) := by decide +kernel
theorem c66_29 : mc_cd 66 29 = some (.invokevirtual 99, 3) := by decide +kernel
theorem c66_32 : mc_cd 66 32 = some (.ireturn, 1) := by decide +kernel
abbrev q_66 (r0 : Nat) (a1 : Int) (T : wq_T) (H : wq_H) : Option Value → wq_T → wq_H → Prop := fun r T' H' => T = T' ∧ WT T H' ∧ wfr [(1, 10), (6, 5), (8, 999), (10, 999), (9, 999), (7, 999), (11, 999)] T H H' ∧ ∃ z : Int, some (vI z) = r ∧ ((-2147483648) ≤ z ∧ z ≤ 2147483647)
set_option maxHeartbeats 4000000 in
theorem s_66 {kt : Nat → Option mc_E} {T : wq_T} {H : wq_H} {r0 : Nat} {a1 : Int} (hW : WT T H) (g0 : T.2.2.2 r0 = some 1) (i1 : (-2147483648) ≤ a1 ∧ a1 ≤ 2147483647) : wpc kt 5 66 [.ref r0, vI a1] T H (q_66 r0 a1 T H) := by
  refine wp_enter e66 (Nat.le_of_ble_eq_true rfl) rfl ?_
  have f0 : wfr [(1, 10), (6, 5), (8, 999), (10, 999), (9, 999), (7, 999), (11, 999)] T H H := wfr.rf
  show wp _ _ 66 0 [(0, .ref r0), (1, vI a1)] [] _ H _
  refine wp_of e66 c66_0 (rw_aload_n (pc' := 1) (v := .ref r0) rfl rfl rfl ?_)
  refine wp_of e66 c66_1 (rw_aload_n (pc' := 2) (v := .ref r0) rfl rfl rfl ?_)
  refine wp_of e66 c66_2 (rw_iload_n (pc' := 3) (z := a1) rfl rfl ?_)
  refine wp_of e66 c66_3 (xc_V (pc' := 6) (r := r0) (as := [vI a1]) (st := [.ref r0]) (lm_0_132) rfl rfl (Nat.le_of_ble_eq_true rfl) hW g0 sh_1 (by decide) rfl (by decide) (s_60 hW g0 ⟨by omega, by omega⟩) (fun R19953 T19954 H19955 p19956 => ?_))
  obtain ⟨e19957, e19959, z19961, e19958, b19962, p19960⟩ := p19956
  subst e19957
  subst e19958
  subst e19959
  show wp _ _ 66 6 [(0, .ref r0), (1, vI a1)] [vI z19961, .ref r0] _ H _
  refine wp_of e66 c66_6 (xc_V (pc' := 9) (r := r0) (as := [vI z19961]) (st := []) (lm_0_155) rfl rfl (Nat.le_of_ble_eq_true rfl) hW g0 sh_1 (by decide) rfl (by decide) (s_67 hW g0 ⟨by omega, by omega⟩) (fun R19963 T19964 H19965 p19966 => ?_))
  obtain ⟨e19967, w19969, f19970, z19972, e19968, b19973, p19971⟩ := p19966
  subst e19967
  subst e19968
  have f19974 := f0.tr f19970 rfl
  show wp _ _ 66 9 [(0, .ref r0), (1, vI a1)] [vI z19972] _ H19965 _
  refine wp_of e66 c66_9 (rw_istore_n (pc' := 10) (z := z19972) (L' := [(2, vI z19972), (0, .ref r0), (1, vI a1)]) rfl rfl rfl ?_)
  refine wp_of e66 c66_10 (rw_iload_n (pc' := 11) (z := z19972) rfl rfl ?_)
  refine wp_of e66 c66_11 (rw_if_eq (p1 := 20) (p2 := 14) (by decide) rfl ⟨by omega, by omega⟩ (fun c19975 => ?_) (fun c19975 => ?_))
  · refine wp_of e66 c66_20 (rw_aload_n (pc' := 21) (v := .ref r0) rfl rfl rfl ?_)
    refine wp_of e66 c66_21 (rw_aload_n (pc' := 22) (v := .ref r0) rfl rfl rfl ?_)
    refine wp_of e66 c66_22 (xg_R (pc' := 25) lf_0_23 w19969 g0 sh_1 (by decide) (by decide) ty_1_2 rfl rfl (fun r19976 q19977 g19978 => ?_))
    refine wp_of e66 c66_25 (rw_iload_n (pc' := 26) (z := a1) rfl rfl ?_)
    refine wp_of e66 c66_26 (xc_V (pc' := 29) (r := r19976) (as := [vI a1]) (st := [.ref r0]) (lm_0_159) rfl rfl (Nat.le_of_ble_eq_true rfl) w19969 g19978 sh_6 (by decide) rfl (by decide) (s_72 w19969 g19978 ⟨by omega, by omega⟩) (fun R19979 T19980 H19981 p19982 => ?_))
    obtain ⟨e19983, e19985, z19986, e19984, b19987⟩ := p19982
    subst e19983
    subst e19984
    subst e19985
    show wp _ _ 66 29 [(2, vI z19972), (0, .ref r0), (1, vI a1)] [vI z19986, .ref r0] _ H19965 _
    refine wp_of e66 c66_29 (xc_V (pc' := 32) (r := r0) (as := [vI z19986]) (st := []) (lm_0_99) rfl rfl (Nat.le_of_ble_eq_true rfl) w19969 g0 sh_1 (by decide) rfl (by decide) (s_51 w19969 g0 ⟨by omega, by omega⟩) (fun R19988 T19989 H19990 p19991 => ?_))
    obtain ⟨e19992, w19994, f19995, z19996, e19993, b19997⟩ := p19991
    subst e19992
    subst e19993
    have f19998 := f19974.tr f19995 rfl
    show wp _ _ 66 32 [(2, vI z19972), (0, .ref r0), (1, vI a1)] [vI z19996] _ H19990 _
    exact wp_ireturn e66 c66_32 rfl ⟨rfl, w19994, f19998, z19996, rfl, ⟨by omega, by omega⟩⟩
  · refine wp_of e66 c66_14 (rw_aload_n (pc' := 15) (v := .ref r0) rfl rfl rfl ?_)
    refine wp_of e66 c66_15 (rw_iload_n (pc' := 16) (z := z19972) rfl rfl ?_)
    refine wp_of e66 c66_16 (xc_V (pc' := 19) (r := r0) (as := [vI z19972]) (st := []) (lm_0_70) rfl rfl (Nat.le_of_ble_eq_true rfl) w19969 g0 sh_1 (by decide) rfl (by decide) (s_12 w19969 g0 ⟨by omega, by omega⟩) (fun R19999 T20000 H20001 p20002 => ?_))
    obtain ⟨e20003, w20005, f20006, z20007, e20004, b20008⟩ := p20002
    subst e20003
    subst e20004
    have f20009 := f19974.tr f20006 rfl
    show wp _ _ 66 19 [(2, vI z19972), (0, .ref r0), (1, vI a1)] [vI z20007] _ H20001 _
    exact wp_ireturn e66 c66_19 rfl ⟨rfl, w20005, f20009, z20007, rfl, ⟨by omega, by omega⟩⟩
/-! StrikeAwake$Parish.verdict(II)I -/
theorem e76 : wq_en 76 = some (7, 4, false, some FieldType.int) := rfl
theorem c76_0 : mc_cd 76 0 = some (.aload_n 0, 1) := by decide +kernel
theorem c76_1 : mc_cd 76 1 = some (.getfield 17, 3) := by decide +kernel
theorem c76_4 : mc_cd 76 4 = some (.iload_n 1, 1) := by decide +kernel
theorem c76_5 : mc_cd 76 5 = some (.iaload, 1) := by decide +kernel
theorem c76_6 : mc_cd 76 6 = some (.istore_n 3, 1) := by decide +kernel
theorem c76_7 : mc_cd 76 7 = some (.iload_n 3, 1) := by decide +kernel
theorem c76_8 : mc_cd 76 8 = some (.ifCond .lt 18, 3) := by decide +kernel
theorem c76_11 : mc_cd 76 11 = some (.iload_n 3, 1) := by decide +kernel
theorem c76_12 : mc_cd 76 12 = some (.iload_n 2, 1) := by decide +kernel
theorem c76_13 : mc_cd 76 13 = some (.if_icmp .lt 15, 3) := by decide +kernel
theorem c76_16 : mc_cd 76 16 = some (.iload_n 3, 1) := by decide +kernel
theorem c76_17 : mc_cd 76 17 = some (.iload_n 2, 1) := by decide +kernel
theorem c76_18 : mc_cd 76 18 = some (.aload_n 0, 1) := by decide +kernel
theorem c76_19 : mc_cd 76 19 = some (.getfield 44, 3) := by decide +kernel
theorem c76_22 : mc_cd 76 22 = some (.iadd, 1) := by decide +kernel
theorem c76_23 : mc_cd 76 23 = some (.if_icmp .gt 5, 3) := by decide +kernel
theorem c76_26 : mc_cd 76 26 = some (.iconst 0, 1) := by decide +kernel
theorem c76_27 : mc_cd 76 27 = some (.ireturn, 1) := by decide +kernel
theorem c76_28 : mc_cd 76 28 = some (.iload_n 3, 1) := by decide +kernel
theorem c76_29 : mc_cd 76 29 = some (.iload_n 2, 1) := by decide +kernel
theorem c76_30 : mc_cd 76 30 = some (.iconst 1, 1) := by decide +kernel
theorem c76_31 : mc_cd 76 31 = some (.isub, 1) := by decide +kernel
theorem c76_32 : mc_cd 76 32 = some (.if_icmp .eq 15, 3) := by decide +kernel
theorem c76_35 : mc_cd 76 35 = some (.iload_n 3, 1) := by decide +kernel
theorem c76_36 : mc_cd 76 36 = some (.iload_n 2, 1) := by decide +kernel
theorem c76_37 : mc_cd 76 37 = some (.aload_n 0, 1) := by decide +kernel
theorem c76_38 : mc_cd 76 38 = some (.getfield 44, 3) := by decide +kernel
theorem c76_41 : mc_cd 76 41 = some (.iadd, 1) := by decide +kernel
theorem c76_42 : mc_cd 76 42 = some (.iconst 1, 1) := by decide +kernel
theorem c76_43 : mc_cd 76 43 = some (.iadd, 1) := by decide +kernel
theorem c76_44 : mc_cd 76 44 = some (.if_icmp .ne 7, 3) := by decide +kernel
theorem c76_47 : mc_cd 76 47 = some (.iconst 1, 1) := by decide +kernel
theorem c76_48 : mc_cd 76 48 = some (.goto 4, 3) := by decide +kernel
theorem c76_51 : mc_cd 76 51 = some (.iconst 2, 1) := by decide +kernel
theorem c76_52 : mc_cd 76 52 = some (.ireturn, 1) := by decide +kernel
abbrev q_76 (r0 : Nat) (a1 : Int) (a2 : Int) (T : wq_T) (H : wq_H) : Option Value → wq_T → wq_H → Prop := fun r T' H' => T = T' ∧ H = H' ∧ ∃ z : Int, some (vI z) = r ∧ (0 ≤ z ∧ z ≤ 2)
set_option maxHeartbeats 4000000 in
theorem s_76 {kt : Nat → Option mc_E} {T : wq_T} {H : wq_H} {r0 : Nat} {a1 : Int} {a2 : Int} (hW : WT T H) (g0 : T.2.2.2 r0 = some 27) (i1 : 0 ≤ a1 ∧ a1 ≤ 23) (i2 : (-2147483648) ≤ a2 ∧ a2 ≤ 2147483647) : wpc kt 1 76 [.ref r0, vI a1, vI a2] T H (q_76 r0 a1 a2 T H) := by
  refine wp_enter e76 (Nat.le_of_ble_eq_true rfl) rfl ?_
  show wp _ _ 76 0 [(0, .ref r0), (1, vI a1), (2, vI a2)] [] _ H _
  refine wp_of e76 c76_0 (rw_aload_n (pc' := 1) (v := .ref r0) rfl rfl rfl ?_)
  refine wp_of e76 c76_1 (xg_R (pc' := 4) lf_7_17 hW g0 sh_27 (by decide) (by decide) ty_27_1 rfl rfl (fun r20040 q20041 g20042 => ?_))
  refine wp_of e76 c76_4 (rw_iload_n (pc' := 5) (z := a1) rfl rfl ?_)
  refine wp_of e76 c76_5 (xa_I (so := 0) (pc' := 6) hW g20042 sh_29 (by decide) (ty_29 _) (by omega) (by omega) rfl (fun b20043 b20044 => ?_))
  refine wp_of e76 c76_6 (rw_istore_n (pc' := 7) (z := H r20040 a1.toNat) (L' := [(3, vI (H r20040 a1.toNat)), (0, .ref r0), (1, vI a1), (2, vI a2)]) rfl rfl rfl ?_)
  refine wp_of e76 c76_7 (rw_iload_n (pc' := 8) (z := H r20040 a1.toNat) rfl rfl ?_)
  refine wp_of e76 c76_8 (rw_if_lt (p1 := 26) (p2 := 11) (by decide) rfl ⟨by omega, by omega⟩ (fun c20045 => ?_) (fun c20045 => ?_))
  · refine wp_of e76 c76_26 (rw_iconst (pc' := 27) rfl ?_)
    exact wp_ireturn e76 c76_27 rfl ⟨rfl, rfl, 0, rfl, ⟨by omega, by omega⟩⟩
  · refine wp_of e76 c76_11 (rw_iload_n (pc' := 12) (z := H r20040 a1.toNat) rfl rfl ?_)
    refine wp_of e76 c76_12 (rw_iload_n (pc' := 13) (z := a2) rfl rfl ?_)
    refine wp_of e76 c76_13 (rw_icmp_lt (p1 := 28) (p2 := 16) (by decide) rfl ⟨by omega, by omega⟩ ⟨by omega, by omega⟩ (fun c20046 => ?_) (fun c20046 => ?_))
    · refine wp_of e76 c76_28 (rw_iload_n (pc' := 29) (z := H r20040 a1.toNat) rfl rfl ?_)
      refine wp_of e76 c76_29 (rw_iload_n (pc' := 30) (z := a2) rfl rfl ?_)
      refine wp_of e76 c76_30 (rw_iconst (pc' := 31) rfl ?_)
      refine wp_of e76 c76_31 (rw_isub (pc' := 32) rfl ?_)
      refine wp_of e76 c76_32 (rw_icmp_eq (p1 := 47) (p2 := 35) (by decide) rfl ⟨by omega, by omega⟩ ⟨by omega, by omega⟩ (fun c20047 => ?_) (fun c20047 => ?_))
      · refine wp_of e76 c76_47 (rw_iconst (pc' := 48) rfl ?_)
        refine wp_of e76 c76_48 (rw_goto (p1 := 52) (by decide) ?_)
        exact wp_ireturn e76 c76_52 rfl ⟨rfl, rfl, 1, rfl, ⟨by omega, by omega⟩⟩
      · refine wp_of e76 c76_35 (rw_iload_n (pc' := 36) (z := H r20040 a1.toNat) rfl rfl ?_)
        refine wp_of e76 c76_36 (rw_iload_n (pc' := 37) (z := a2) rfl rfl ?_)
        refine wp_of e76 c76_37 (rw_aload_n (pc' := 38) (v := .ref r0) rfl rfl rfl ?_)
        refine wp_of e76 c76_38 (xg_I (pc' := 41) lf_7_44 hW g0 sh_27 (by decide) (by decide) ty_27_8 rfl rfl (fun b20048 b20049 => ?_))
        refine wp_of e76 c76_41 (rw_iaddw (pc' := 42) rfl ?_)
        obtain ⟨v20050, e20051⟩ : ∃ x : Int, x = wq_w (a2 + (H r0 8)) := ⟨_, rfl⟩
        rw [← e20051]
        have b20052 : -2147483648 ≤ v20050 ∧ v20050 ≤ 2147483647 := by
          rw [e20051]
          exact wI_w _
        refine wp_of e76 c76_42 (rw_iconst (pc' := 43) rfl ?_)
        refine wp_of e76 c76_43 (rw_iaddw (pc' := 44) rfl ?_)
        obtain ⟨v20053, e20054⟩ : ∃ x : Int, x = wq_w (v20050 + 1) := ⟨_, rfl⟩
        rw [← e20054]
        have b20055 : -2147483648 ≤ v20053 ∧ v20053 ≤ 2147483647 := by
          rw [e20054]
          exact wI_w _
        refine wp_of e76 c76_44 (rw_icmp_ne (p1 := 51) (p2 := 47) (by decide) rfl ⟨by omega, by omega⟩ ⟨by omega, by omega⟩ (fun c20056 => ?_) (fun c20056 => ?_))
        · refine wp_of e76 c76_51 (rw_iconst (pc' := 52) rfl ?_)
          exact wp_ireturn e76 c76_52 rfl ⟨rfl, rfl, 2, rfl, ⟨by omega, by omega⟩⟩
        · refine wp_of e76 c76_47 (rw_iconst (pc' := 48) rfl ?_)
          refine wp_of e76 c76_48 (rw_goto (p1 := 52) (by decide) ?_)
          exact wp_ireturn e76 c76_52 rfl ⟨rfl, rfl, 1, rfl, ⟨by omega, by omega⟩⟩
    · refine wp_of e76 c76_16 (rw_iload_n (pc' := 17) (z := H r20040 a1.toNat) rfl rfl ?_)
      refine wp_of e76 c76_17 (rw_iload_n (pc' := 18) (z := a2) rfl rfl ?_)
      refine wp_of e76 c76_18 (rw_aload_n (pc' := 19) (v := .ref r0) rfl rfl rfl ?_)
      refine wp_of e76 c76_19 (xg_I (pc' := 22) lf_7_44 hW g0 sh_27 (by decide) (by decide) ty_27_8 rfl rfl (fun b20057 b20058 => ?_))
      refine wp_of e76 c76_22 (rw_iaddw (pc' := 23) rfl ?_)
      obtain ⟨v20059, e20060⟩ : ∃ x : Int, x = wq_w (a2 + (H r0 8)) := ⟨_, rfl⟩
      rw [← e20060]
      have b20061 : -2147483648 ≤ v20059 ∧ v20059 ≤ 2147483647 := by
        rw [e20060]
        exact wI_w _
      refine wp_of e76 c76_23 (rw_icmp_gt (p1 := 28) (p2 := 26) (by decide) rfl ⟨by omega, by omega⟩ ⟨by omega, by omega⟩ (fun c20062 => ?_) (fun c20062 => ?_))
      · refine wp_of e76 c76_28 (rw_iload_n (pc' := 29) (z := H r20040 a1.toNat) rfl rfl ?_)
        refine wp_of e76 c76_29 (rw_iload_n (pc' := 30) (z := a2) rfl rfl ?_)
        refine wp_of e76 c76_30 (rw_iconst (pc' := 31) rfl ?_)
        refine wp_of e76 c76_31 (rw_isubw (pc' := 32) rfl ?_)
        obtain ⟨v20063, e20064⟩ : ∃ x : Int, x = wq_w (a2 - 1) := ⟨_, rfl⟩
        rw [← e20064]
        have b20065 : -2147483648 ≤ v20063 ∧ v20063 ≤ 2147483647 := by
          rw [e20064]
          exact wI_w _
        refine wp_of e76 c76_32 (rw_icmp_eq (p1 := 47) (p2 := 35) (by decide) rfl ⟨by omega, by omega⟩ ⟨by omega, by omega⟩ (fun c20066 => ?_) (fun c20066 => ?_))
        · refine wp_of e76 c76_47 (rw_iconst (pc' := 48) rfl ?_)
          refine wp_of e76 c76_48 (rw_goto (p1 := 52) (by decide) ?_)
          exact wp_ireturn e76 c76_52 rfl ⟨rfl, rfl, 1, rfl, ⟨by omega, by omega⟩⟩
        · refine wp_of e76 c76_35 (rw_iload_n (pc' := 36) (z := H r20040 a1.toNat) rfl rfl ?_)
          refine wp_of e76 c76_36 (rw_iload_n (pc' := 37) (z := a2) rfl rfl ?_)
          refine wp_of e76 c76_37 (rw_aload_n (pc' := 38) (v := .ref r0) rfl rfl rfl ?_)
          refine wp_of e76 c76_38 (xg_I (pc' := 41) lf_7_44 hW g0 sh_27 (by decide) (by decide) ty_27_8 rfl rfl (fun b20067 b20068 => ?_))
          refine wp_of e76 c76_41 (rw_iaddw (pc' := 42) rfl ?_)
          obtain ⟨v20069, e20070⟩ : ∃ x : Int, x = wq_w (a2 + (H r0 8)) := ⟨_, rfl⟩
          rw [← e20070]
          have b20071 : -2147483648 ≤ v20069 ∧ v20069 ≤ 2147483647 := by
            rw [e20070]
            exact wI_w _
          refine wp_of e76 c76_42 (rw_iconst (pc' := 43) rfl ?_)
          refine wp_of e76 c76_43 (rw_iaddw (pc' := 44) rfl ?_)
          obtain ⟨v20072, e20073⟩ : ∃ x : Int, x = wq_w (v20069 + 1) := ⟨_, rfl⟩
          rw [← e20073]
          have b20074 : -2147483648 ≤ v20072 ∧ v20072 ≤ 2147483647 := by
            rw [e20073]
            exact wI_w _
          refine wp_of e76 c76_44 (rw_icmp_ne (p1 := 51) (p2 := 47) (by decide) rfl ⟨by omega, by omega⟩ ⟨by omega, by omega⟩ (fun c20075 => ?_) (fun c20075 => ?_))
          · refine wp_of e76 c76_51 (rw_iconst (pc' := 52) rfl ?_)
            exact wp_ireturn e76 c76_52 rfl ⟨rfl, rfl, 2, rfl, ⟨by omega, by omega⟩⟩
          · refine wp_of e76 c76_47 (rw_iconst (pc' := 48) rfl ?_)
            refine wp_of e76 c76_48 (rw_goto (p1 := 52) (by decide) ?_)
            exact wp_ireturn e76 c76_52 rfl ⟨rfl, rfl, 1, rfl, ⟨by omega, by omega⟩⟩
      · refine wp_of e76 c76_26 (rw_iconst (pc' := 27) rfl ?_)
        exact wp_ireturn e76 c76_27 rfl ⟨rfl, rfl, 0, rfl, ⟨by omega, by omega⟩⟩
/-! StrikeAwake$Walk.wrongIn(LStrikeAwake$Parish;I)I -/
theorem e75 : wq_en 75 = some (3, 3, false, some FieldType.int) := rfl
theorem c75_0 : mc_cd 75 0 = some (.aload_n 1, 1) := by decide +kernel
theorem c75_1 : mc_cd 75 1 = some (.iload_n 2, 1) := by decide +kernel
theorem c75_2 : mc_cd 75 2 = some (.aload_n 0, 1) := by decide +kernel
theorem c75_3 : mc_cd 75 3 = some (.iload_n 2, 1) := by decide +kernel
theorem c75_4 : mc_cd 75 4 = some (.invokevirtual 92, 3) := by decide +kernel
theorem c75_7 : mc_cd 75 7 = some (.invokevirtual 96, 3) := by decide +kernel
theorem c75_10 : mc_cd 75 10 = some (.ifCond .eq 5, 3) := by decide +kernel
theorem c75_13 : mc_cd 75 13 = some (.iconst 1, 1) := by decide +kernel
theorem c75_14 : mc_cd 75 14 = some (.ireturn, 1) := by decide +kernel
theorem c75_15 : mc_cd 75 15 = some (.aload_n 0, 1) := by decide +kernel
theorem c75_16 : mc_cd 75 16 = some (.getfield 25, 3) := by decide +kernel
theorem c75_19 : mc_cd 75 19 = some (.aload_n 0, 1) := by decide +kernel
theorem c75_20 : mc_cd 75 20 = some (.getfield 51, 3) := by decide +kernel
theorem c75_23 : mc_cd 75 23 = some (.iaload, 1) := by decide +kernel
theorem c75_24 : mc_cd 75 24 = some (.iload_n 2, 1) := by decide +kernel
theorem c75_25 : mc_cd 75 25 = some (.invokestatic 99, 3) := by decide +kernel
theorem c75_28 : mc_cd 75 28 = some (.ifCond .eq 7, 3) := by decide +kernel
theorem c75_31 : mc_cd 75 31 = some (.iconst 2, 1) := by decide +kernel
theorem c75_32 : mc_cd 75 32 = some (.goto 4, 3) := by decide +kernel
theorem c75_35 : mc_cd 75 35 = some (.iconst 0, 1) := by decide +kernel
theorem c75_36 : mc_cd 75 36 = some (.ireturn, 1) := by decide +kernel
abbrev q_75 (r0 : Nat) (r1 : Nat) (a2 : Int) (T : wq_T) (H : wq_H) : Option Value → wq_T → wq_H → Prop := fun r T' H' => T = T' ∧ H = H' ∧ ∃ z : Int, some (vI z) = r ∧ (0 ≤ z ∧ z ≤ 2)
set_option maxHeartbeats 4000000 in
theorem s_75 {kt : Nat → Option mc_E} {T : wq_T} {H : wq_H} {r0 : Nat} {r1 : Nat} {a2 : Int} (hW : WT T H) (g0 : T.2.2.2 r0 = some 6) (g1 : T.2.2.2 r1 = some 27) (i2 : 0 ≤ a2 ∧ a2 ≤ 23) : wpc kt 2 75 [.ref r0, .ref r1, vI a2] T H (q_75 r0 r1 a2 T H) := by
  refine wp_enter e75 (Nat.le_of_ble_eq_true rfl) rfl ?_
  show wp _ _ 75 0 [(0, .ref r0), (1, .ref r1), (2, vI a2)] [] _ H _
  refine wp_of e75 c75_0 (rw_aload_n (pc' := 1) (v := .ref r1) rfl rfl rfl ?_)
  refine wp_of e75 c75_1 (rw_iload_n (pc' := 2) (z := a2) rfl rfl ?_)
  refine wp_of e75 c75_2 (rw_aload_n (pc' := 3) (v := .ref r0) rfl rfl rfl ?_)
  refine wp_of e75 c75_3 (rw_iload_n (pc' := 4) (z := a2) rfl rfl ?_)
  refine wp_of e75 c75_4 (xc_V (pc' := 7) (r := r0) (as := [vI a2]) (st := [vI a2, .ref r1]) (lm_3_92) rfl rfl (Nat.le_of_ble_eq_true rfl) hW g0 sh_6 (by decide) rfl (by decide) (s_72 hW g0 ⟨by omega, by omega⟩) (fun R20112 T20113 H20114 p20115 => ?_))
  obtain ⟨e20116, e20118, z20119, e20117, b20120⟩ := p20115
  subst e20116
  subst e20117
  subst e20118
  show wp _ _ 75 7 [(0, .ref r0), (1, .ref r1), (2, vI a2)] [vI z20119, vI a2, .ref r1] _ H _
  refine wp_of e75 c75_7 (xc_V (pc' := 10) (r := r1) (as := [vI a2, vI z20119]) (st := []) (lm_3_96) rfl rfl (Nat.le_of_ble_eq_true rfl) hW g1 sh_27 (by decide) rfl (by decide) (s_76 hW g1 ⟨by omega, by omega⟩ ⟨by omega, by omega⟩) (fun R20121 T20122 H20123 p20124 => ?_))
  obtain ⟨e20125, e20127, z20128, e20126, b20129⟩ := p20124
  subst e20125
  subst e20126
  subst e20127
  show wp _ _ 75 10 [(0, .ref r0), (1, .ref r1), (2, vI a2)] [vI z20128] _ H _
  refine wp_of e75 c75_10 (rw_if_eq (p1 := 15) (p2 := 13) (by decide) rfl ⟨by omega, by omega⟩ (fun c20130 => ?_) (fun c20130 => ?_))
  · refine wp_of e75 c75_15 (rw_aload_n (pc' := 16) (v := .ref r0) rfl rfl rfl ?_)
    refine wp_of e75 c75_16 (xg_R (pc' := 19) lf_3_25 hW g0 sh_6 (by decide) (by decide) ty_6_4 rfl rfl (fun r20131 q20132 g20133 => ?_))
    refine wp_of e75 c75_19 (rw_aload_n (pc' := 20) (v := .ref r0) rfl rfl rfl ?_)
    refine wp_of e75 c75_20 (xg_I (pc' := 23) lf_3_51 hW g0 sh_6 (by decide) (by decide) ty_6_5 rfl rfl (fun b20134 b20135 => ?_))
    refine wp_of e75 c75_23 (xa_I (so := 0) (pc' := 24) hW g20133 sh_11 (by decide) (ty_11 _) (by omega) (by omega) rfl (fun b20136 b20137 => ?_))
    refine wp_of e75 c75_24 (rw_iload_n (pc' := 25) (z := a2) rfl rfl ?_)
    refine wp_of e75 c75_25 (xc_S (pc' := 28) (as := [vI (H r20131 ((H r0 5).toNat)), vI a2]) (st := []) (lm_3_99) rfl rfl (Nat.le_of_ble_eq_true rfl) rfl (by decide) (s_36 hW ⟨by omega, by omega⟩ ⟨by omega, by omega⟩) (fun R20138 T20139 H20140 p20141 => ?_))
    obtain ⟨e20142, e20144, z20145, e20143, b20146⟩ := p20141
    subst e20142
    subst e20143
    subst e20144
    show wp _ _ 75 28 [(0, .ref r0), (1, .ref r1), (2, vI a2)] [vI z20145] _ H _
    refine wp_of e75 c75_28 (rw_if_eq (p1 := 35) (p2 := 31) (by decide) rfl ⟨by omega, by omega⟩ (fun c20147 => ?_) (fun c20147 => ?_))
    · refine wp_of e75 c75_35 (rw_iconst (pc' := 36) rfl ?_)
      exact wp_ireturn e75 c75_36 rfl ⟨rfl, rfl, 0, rfl, ⟨by omega, by omega⟩⟩
    · refine wp_of e75 c75_31 (rw_iconst (pc' := 32) rfl ?_)
      refine wp_of e75 c75_32 (rw_goto (p1 := 36) (by decide) ?_)
      exact wp_ireturn e75 c75_36 rfl ⟨rfl, rfl, 2, rfl, ⟨by omega, by omega⟩⟩
  · refine wp_of e75 c75_13 (rw_iconst (pc' := 14) rfl ?_)
    exact wp_ireturn e75 c75_14 rfl ⟨rfl, rfl, 1, rfl, ⟨by omega, by omega⟩⟩
/-! StrikeAwake$Walk.firstWrong(LStrikeAwake$Parish;)I -/
theorem e74 : wq_en 74 = some (3, 3, false, some FieldType.int) := rfl
theorem c74_0 : mc_cd 74 0 = some (.iconst 0, 1) := by decide +kernel
theorem c74_1 : mc_cd 74 1 = some (.istore_n 2, 1) := by decide +kernel
theorem c74_2 : mc_cd 74 2 = some (.iload_n 2, 1) := by decide +kernel
theorem c74_3 : mc_cd 74 3 = some (.aload_n 1, 1) := by decide +kernel
theorem c74_4 : mc_cd 74 4 = some (.getfield 103, 3) := by decide +kernel
theorem c74_7 : mc_cd 74 7 = some (.if_icmp .ge 20, 3) := by decide +kernel
theorem c74_10 : mc_cd 74 10 = some (.aload_n 0, 1) := by decide +kernel
theorem c74_11 : mc_cd 74 11 = some (.aload_n 1, 1) := by decide +kernel
theorem c74_12 : mc_cd 74 12 = some (.iload_n 2, 1) := by decide +kernel
theorem c74_13 : mc_cd 74 13 = some (.invokevirtual 106, 3) := by decide +kernel
theorem c74_16 : mc_cd 74 16 = some (.ifCond .eq 5, 3) := by decide +kernel
theorem c74_19 : mc_cd 74 19 = some (.iload_n 2, 1) := by decide +kernel
theorem c74_20 : mc_cd 74 20 = some (.ireturn, 1) := by decide +kernel
theorem c74_21 : mc_cd 74 21 = some (.iinc 2 1, 3) := by decide +kernel
theorem c74_24 : mc_cd 74 24 = some (.goto (-22), 3) := by decide +kernel
theorem c74_27 : mc_cd 74 27 = some (.bipush (-2), 2) := by decide +kernel
theorem c74_29 : mc_cd 74 29 = some (.ireturn, 1) := by decide +kernel
abbrev q_74 (r0 : Nat) (r1 : Nat) (T : wq_T) (H : wq_H) : Option Value → wq_T → wq_H → Prop := fun r T' H' => T = T' ∧ H = H' ∧ ∃ z : Int, some (vI z) = r ∧ ((-2) ≤ z ∧ z ≤ 23)
set_option maxHeartbeats 4000000 in
theorem s_74 {kt : Nat → Option mc_E} {T : wq_T} {H : wq_H} {r0 : Nat} {r1 : Nat} (hW : WT T H) (g0 : T.2.2.2 r0 = some 6) (g1 : T.2.2.2 r1 = some 27) : wpc kt 3 74 [.ref r0, .ref r1] T H (q_74 r0 r1 T H) := by
  refine wp_enter e74 (Nat.le_of_ble_eq_true rfl) rfl ?_
  show wp _ _ 74 0 [(0, .ref r0), (1, .ref r1)] [] _ H _
  refine wp_of e74 c74_0 (rw_iconst (pc' := 1) rfl ?_)
  refine wp_of e74 c74_1 (rw_istore_n (pc' := 2) (z := 0) (L' := [(2, vI 0), (0, .ref r0), (1, .ref r1)]) rfl rfl rfl ?_)
  have lp20370 : ∀ (n20371 : Nat) (v20373 : Int), (0 ≤ v20373 ∧ v20373 ≤ 24) → (24 - v20373).toNat = n20371 → wp kt 2 74 2 [(2, vI v20373), (0, .ref r0), (1, .ref r1)] [] T H (q_74 r0 r1 T H) := by
    intro n20371
    induction n20371 using Nat.strongRecOn with
    | _ n20371 ih20372 =>
      intro v20373 b20376 m20377
      refine wp_of e74 c74_2 (rw_iload_n (pc' := 3) (z := v20373) rfl rfl ?_)
      refine wp_of e74 c74_3 (rw_aload_n (pc' := 4) (v := .ref r1) rfl rfl rfl ?_)
      refine wp_of e74 c74_4 (xg_I (pc' := 7) lf_3_103 hW g1 sh_27 (by decide) (by decide) ty_27_7 rfl rfl (fun b20378 b20379 => ?_))
      refine wp_of e74 c74_7 (rw_icmp_ge (p1 := 27) (p2 := 10) (by decide) rfl ⟨by omega, by omega⟩ ⟨by omega, by omega⟩ (fun c20380 => ?_) (fun c20380 => ?_))
      · refine wp_of e74 c74_27 (rw_bipush (pc' := 29) (z := -2) rfl (by decide) ?_)
        exact wp_ireturn e74 c74_29 rfl ⟨rfl, rfl, -2, rfl, ⟨by omega, by omega⟩⟩
      · refine wp_of e74 c74_10 (rw_aload_n (pc' := 11) (v := .ref r0) rfl rfl rfl ?_)
        refine wp_of e74 c74_11 (rw_aload_n (pc' := 12) (v := .ref r1) rfl rfl rfl ?_)
        refine wp_of e74 c74_12 (rw_iload_n (pc' := 13) (z := v20373) rfl rfl ?_)
        refine wp_of e74 c74_13 (xc_V (pc' := 16) (r := r0) (as := [.ref r1, vI v20373]) (st := []) (lm_3_106) rfl rfl (Nat.le_of_ble_eq_true rfl) hW g0 sh_6 (by decide) rfl (by decide) (s_75 hW g0 g1 ⟨by omega, by omega⟩) (fun R20381 T20382 H20383 p20384 => ?_))
        obtain ⟨e20385, e20387, z20388, e20386, b20389⟩ := p20384
        subst e20385
        subst e20386
        subst e20387
        show wp _ _ 74 16 [(2, vI v20373), (0, .ref r0), (1, .ref r1)] [vI z20388] _ H _
        refine wp_of e74 c74_16 (rw_if_eq (p1 := 21) (p2 := 19) (by decide) rfl ⟨by omega, by omega⟩ (fun c20390 => ?_) (fun c20390 => ?_))
        · refine wp_of e74 c74_21 (rw_iinc (pc' := 24) (z := v20373) (L' := [(2, vI (v20373 + 1)), (0, .ref r0), (1, .ref r1)]) rfl rfl rfl rfl ?_)
          refine wp_of e74 c74_24 (rw_goto (p1 := 2) (by decide) ?_)
          exact wp_lc (ks := [2, 0, 1]) (wl_c rfl (wl_c rfl (wl_c rfl wl_n))) rfl (by decide) (ih20372 _ (by omega) (v20373 + 1) ⟨by omega, by omega⟩ rfl)
        · refine wp_of e74 c74_19 (rw_iload_n (pc' := 20) (z := v20373) rfl rfl ?_)
          exact wp_ireturn e74 c74_20 rfl ⟨rfl, rfl, v20373, rfl, ⟨by omega, by omega⟩⟩
  exact wp_lc (ks := [2, 0, 1]) (wl_c rfl (wl_c rfl (wl_c rfl wl_n))) rfl (by decide) (lp20370 _ 0 ⟨by omega, by omega⟩ rfl)
/-! StrikeAwake.judge()I -/
theorem e73 : wq_en 73 = some (0, 2, false, some FieldType.int) := rfl
theorem c73_0 : mc_cd 73 0 = some (.aload_n 0, 1) := by decide +kernel
theorem c73_1 : mc_cd 73 1 = some (.aload_n 0, 1) := by decide +kernel
theorem c73_2 : mc_cd 73 2 = some (.getfield 58, 3) := by decide +kernel
theorem c73_5 : mc_cd 73 5 = some (.invokevirtual 155, 3) := by decide +kernel
theorem c73_8 : mc_cd 73 8 = some (.istore_n 1, 1) := by decide +kernel
theorem c73_9 : mc_cd 73 9 = some (.iload_n 1, 1) := by decide +kernel
theorem c73_10 : mc_cd 73 10 = some (.ifCond .eq 9, 3) := by decide +kernel
theorem c73_13 : mc_cd 73 13 = some (.aload_n 0, 1) := by decide +kernel
theorem c73_14 : mc_cd 73 14 = some (.iload_n 1, 1) := by decide +kernel
theorem c73_15 : mc_cd 73 15 = some (.invokevirtual 70, 3) := by decide +kernel
theorem c73_18 : mc_cd 73 18 = some (.ireturn, 1) := by decide +kernel
theorem c73_19 : mc_cd 73 19 = some (.aload_n 0, 1) := by decide +kernel
theorem c73_20 : mc_cd 73 20 = some (.aload_n 0, 1) := by decide +kernel
theorem c73_21 : mc_cd 73 21 = some (.getfield 23, 3) := by decide +kernel
theorem c73_24 : mc_cd 73 24 = some (.aload_n 0, 1) := by decide +kernel
theorem c73_25 : mc_cd 73 25 = some (.getfield 51, 3) := by decide +kernel
theorem c73_28 : mc_cd 73 28 = some (.invokevirtual 162, 3) := by decide +kernel
theorem c73_31 : mc_cd 73 31 = some (.invokevirtual 99, 3) := by decide +kernel
theorem c73_34 : mc_cd 73 34 = some (.ireturn, 1) := by decide +kernel
abbrev q_73 (r0 : Nat) (T : wq_T) (H : wq_H) : Option Value → wq_T → wq_H → Prop := fun r T' H' => T = T' ∧ WT T H' ∧ wfr [(1, 10), (6, 5), (8, 999), (10, 999), (9, 999), (7, 999), (11, 999)] T H H' ∧ ∃ z : Int, some (vI z) = r ∧ ((-2147483648) ≤ z ∧ z ≤ 2147483647)
set_option maxHeartbeats 4000000 in
theorem s_73 {kt : Nat → Option mc_E} {T : wq_T} {H : wq_H} {r0 : Nat} (hW : WT T H) (g0 : T.2.2.2 r0 = some 1) : wpc kt 5 73 [.ref r0] T H (q_73 r0 T H) := by
  refine wp_enter e73 (Nat.le_of_ble_eq_true rfl) rfl ?_
  have f0 : wfr [(1, 10), (6, 5), (8, 999), (10, 999), (9, 999), (7, 999), (11, 999)] T H H := wfr.rf
  show wp _ _ 73 0 [(0, .ref r0)] [] _ H _
  refine wp_of e73 c73_0 (rw_aload_n (pc' := 1) (v := .ref r0) rfl rfl rfl ?_)
  refine wp_of e73 c73_1 (rw_aload_n (pc' := 2) (v := .ref r0) rfl rfl rfl ?_)
  refine wp_of e73 c73_2 (xg_I (pc' := 5) lf_0_58 hW g0 sh_1 (by decide) (by decide) ty_1_8 rfl rfl (fun b20443 b20444 => ?_))
  refine wp_of e73 c73_5 (xc_V (pc' := 8) (r := r0) (as := [vI (H r0 8)]) (st := []) (lm_0_155) rfl rfl (Nat.le_of_ble_eq_true rfl) hW g0 sh_1 (by decide) rfl (by decide) (s_67 hW g0 ⟨by omega, by omega⟩) (fun R20445 T20446 H20447 p20448 => ?_))
  obtain ⟨e20449, w20451, f20452, z20454, e20450, b20455, p20453⟩ := p20448
  subst e20449
  subst e20450
  have f20456 := f0.tr f20452 rfl
  show wp _ _ 73 8 [(0, .ref r0)] [vI z20454] _ H20447 _
  refine wp_of e73 c73_8 (rw_istore_n (pc' := 9) (z := z20454) (L' := [(1, vI z20454), (0, .ref r0)]) rfl rfl rfl ?_)
  refine wp_of e73 c73_9 (rw_iload_n (pc' := 10) (z := z20454) rfl rfl ?_)
  refine wp_of e73 c73_10 (rw_if_eq (p1 := 19) (p2 := 13) (by decide) rfl ⟨by omega, by omega⟩ (fun c20457 => ?_) (fun c20457 => ?_))
  · refine wp_of e73 c73_19 (rw_aload_n (pc' := 20) (v := .ref r0) rfl rfl rfl ?_)
    refine wp_of e73 c73_20 (rw_aload_n (pc' := 21) (v := .ref r0) rfl rfl rfl ?_)
    refine wp_of e73 c73_21 (xg_R (pc' := 24) lf_0_23 w20451 g0 sh_1 (by decide) (by decide) ty_1_2 rfl rfl (fun r20458 q20459 g20460 => ?_))
    refine wp_of e73 c73_24 (rw_aload_n (pc' := 25) (v := .ref r0) rfl rfl rfl ?_)
    refine wp_of e73 c73_25 (xg_R (pc' := 28) lf_0_51 w20451 g0 sh_1 (by decide) (by decide) ty_1_6 rfl rfl (fun r20461 q20462 g20463 => ?_))
    refine wp_of e73 c73_28 (xc_V (pc' := 31) (r := r20458) (as := [.ref r20461]) (st := [.ref r0]) (lm_0_162) rfl rfl (Nat.le_of_ble_eq_true rfl) w20451 g20460 sh_6 (by decide) rfl (by decide) (s_74 w20451 g20460 g20463) (fun R20464 T20465 H20466 p20467 => ?_))
    obtain ⟨e20468, e20470, z20471, e20469, b20472⟩ := p20467
    subst e20468
    subst e20469
    subst e20470
    show wp _ _ 73 31 [(1, vI z20454), (0, .ref r0)] [vI z20471, .ref r0] _ H20447 _
    refine wp_of e73 c73_31 (xc_V (pc' := 34) (r := r0) (as := [vI z20471]) (st := []) (lm_0_99) rfl rfl (Nat.le_of_ble_eq_true rfl) w20451 g0 sh_1 (by decide) rfl (by decide) (s_51 w20451 g0 ⟨by omega, by omega⟩) (fun R20473 T20474 H20475 p20476 => ?_))
    obtain ⟨e20477, w20479, f20480, z20481, e20478, b20482⟩ := p20476
    subst e20477
    subst e20478
    have f20483 := f20456.tr f20480 rfl
    show wp _ _ 73 34 [(1, vI z20454), (0, .ref r0)] [vI z20481] _ H20475 _
    exact wp_ireturn e73 c73_34 rfl ⟨rfl, w20479, f20483, z20481, rfl, ⟨by omega, by omega⟩⟩
  · refine wp_of e73 c73_13 (rw_aload_n (pc' := 14) (v := .ref r0) rfl rfl rfl ?_)
    refine wp_of e73 c73_14 (rw_iload_n (pc' := 15) (z := z20454) rfl rfl ?_)
    refine wp_of e73 c73_15 (xc_V (pc' := 18) (r := r0) (as := [vI z20454]) (st := []) (lm_0_70) rfl rfl (Nat.le_of_ble_eq_true rfl) w20451 g0 sh_1 (by decide) rfl (by decide) (s_12 w20451 g0 ⟨by omega, by omega⟩) (fun R20484 T20485 H20486 p20487 => ?_))
    obtain ⟨e20488, w20490, f20491, z20492, e20489, b20493⟩ := p20487
    subst e20488
    subst e20489
    have f20494 := f20456.tr f20491 rfl
    show wp _ _ 73 18 [(1, vI z20454), (0, .ref r0)] [vI z20492] _ H20486 _
    exact wp_ireturn e73 c73_18 rfl ⟨rfl, w20490, f20494, z20492, rfl, ⟨by omega, by omega⟩⟩
/-! StrikeAwake.why()I -/
theorem e77 : wq_en 77 = some (0, 3, false, some FieldType.int) := rfl
theorem c77_0 : mc_cd 77 0 = some (.aload_n 0, 1) := by decide +kernel
theorem c77_1 : mc_cd 77 1 = some (.aload_n 0, 1) := by decide +kernel
theorem c77_2 : mc_cd 77 2 = some (.getfield 58, 3) := by decide +kernel
theorem c77_5 : mc_cd 77 5 = some (.invokevirtual 155, 3) := by decide +kernel
theorem c77_8 : mc_cd 77 8 = some (.istore_n 1, 1) := by decide +kernel
theorem c77_9 : mc_cd 77 9 = some (.iload_n 1, 1) := by decide +kernel
theorem c77_10 : mc_cd 77 10 = some (.ifCond .eq 9, 3) := by decide +kernel
theorem c77_13 : mc_cd 77 13 = some (.aload_n 0, 1) := by decide +kernel
theorem c77_14 : mc_cd 77 14 = some (.iload_n 1, 1) := by decide +kernel
theorem c77_15 : mc_cd 77 15 = some (.invokevirtual 70, 3) := by decide +kernel
theorem c77_18 : mc_cd 77 18 = some (.ireturn, 1) := by decide +kernel
theorem c77_19 : mc_cd 77 19 = some (.aload_n 0, 1) := by decide +kernel
theorem c77_20 : mc_cd 77 20 = some (.getfield 23, 3) := by decide +kernel
theorem c77_23 : mc_cd 77 23 = some (.aload_n 0, 1) := by decide +kernel
theorem c77_24 : mc_cd 77 24 = some (.getfield 51, 3) := by decide +kernel
theorem c77_27 : mc_cd 77 27 = some (.invokevirtual 162, 3) := by decide +kernel
theorem c77_30 : mc_cd 77 30 = some (.istore_n 2, 1) := by decide +kernel
theorem c77_31 : mc_cd 77 31 = some (.aload_n 0, 1) := by decide +kernel
theorem c77_32 : mc_cd 77 32 = some (.iload_n 2, 1) := by decide +kernel
theorem c77_33 : mc_cd 77 33 = some (.ifCond .ge 7, 3) := by decide +kernel
theorem c77_36 : mc_cd 77 36 = some (.iconst 0, 1) := by decide +kernel
theorem c77_37 : mc_cd 77 37 = some (.goto 15, 3) := by decide +kernel
theorem c77_40 : mc_cd 77 40 = some (.aload_n 0, 1) := by decide +kernel
theorem c77_41 : mc_cd 77 41 = some (.getfield 23, 3) := by decide +kernel
theorem c77_44 : mc_cd 77 44 = some (.aload_n 0, 1) := by decide +kernel
theorem c77_45 : mc_cd 77 45 = some (.getfield 51, 3) := by decide +kernel
theorem c77_48 : mc_cd 77 48 = some (.iload_n 2, 1) := by decide +kernel
theorem c77_49 : mc_cd 77 49 = some (.invokevirtual 166, 3) := by decide +kernel
theorem c77_52 : mc_cd 77 52 = some (.invokevirtual 99, 3) := by decide +kernel
theorem c77_55 : mc_cd 77 55 = some (.ireturn, 1) := by decide +kernel
abbrev q_77 (r0 : Nat) (T : wq_T) (H : wq_H) : Option Value → wq_T → wq_H → Prop := fun r T' H' => T = T' ∧ WT T H' ∧ wfr [(1, 10), (6, 5), (8, 999), (10, 999), (9, 999), (7, 999), (11, 999)] T H H' ∧ ∃ z : Int, some (vI z) = r ∧ ((-2147483648) ≤ z ∧ z ≤ 2147483647)
set_option maxHeartbeats 4000000 in
theorem s_77 {kt : Nat → Option mc_E} {T : wq_T} {H : wq_H} {r0 : Nat} (hW : WT T H) (g0 : T.2.2.2 r0 = some 1) : wpc kt 5 77 [.ref r0] T H (q_77 r0 T H) := by
  refine wp_enter e77 (Nat.le_of_ble_eq_true rfl) rfl ?_
  have f0 : wfr [(1, 10), (6, 5), (8, 999), (10, 999), (9, 999), (7, 999), (11, 999)] T H H := wfr.rf
  show wp _ _ 77 0 [(0, .ref r0)] [] _ H _
  refine wp_of e77 c77_0 (rw_aload_n (pc' := 1) (v := .ref r0) rfl rfl rfl ?_)
  refine wp_of e77 c77_1 (rw_aload_n (pc' := 2) (v := .ref r0) rfl rfl rfl ?_)
  refine wp_of e77 c77_2 (xg_I (pc' := 5) lf_0_58 hW g0 sh_1 (by decide) (by decide) ty_1_8 rfl rfl (fun b20568 b20569 => ?_))
  refine wp_of e77 c77_5 (xc_V (pc' := 8) (r := r0) (as := [vI (H r0 8)]) (st := []) (lm_0_155) rfl rfl (Nat.le_of_ble_eq_true rfl) hW g0 sh_1 (by decide) rfl (by decide) (s_67 hW g0 ⟨by omega, by omega⟩) (fun R20570 T20571 H20572 p20573 => ?_))
  obtain ⟨e20574, w20576, f20577, z20579, e20575, b20580, p20578⟩ := p20573
  subst e20574
  subst e20575
  have f20581 := f0.tr f20577 rfl
  show wp _ _ 77 8 [(0, .ref r0)] [vI z20579] _ H20572 _
  refine wp_of e77 c77_8 (rw_istore_n (pc' := 9) (z := z20579) (L' := [(1, vI z20579), (0, .ref r0)]) rfl rfl rfl ?_)
  refine wp_of e77 c77_9 (rw_iload_n (pc' := 10) (z := z20579) rfl rfl ?_)
  refine wp_of e77 c77_10 (rw_if_eq (p1 := 19) (p2 := 13) (by decide) rfl ⟨by omega, by omega⟩ (fun c20582 => ?_) (fun c20582 => ?_))
  · refine wp_of e77 c77_19 (rw_aload_n (pc' := 20) (v := .ref r0) rfl rfl rfl ?_)
    refine wp_of e77 c77_20 (xg_R (pc' := 23) lf_0_23 w20576 g0 sh_1 (by decide) (by decide) ty_1_2 rfl rfl (fun r20583 q20584 g20585 => ?_))
    refine wp_of e77 c77_23 (rw_aload_n (pc' := 24) (v := .ref r0) rfl rfl rfl ?_)
    refine wp_of e77 c77_24 (xg_R (pc' := 27) lf_0_51 w20576 g0 sh_1 (by decide) (by decide) ty_1_6 rfl rfl (fun r20586 q20587 g20588 => ?_))
    refine wp_of e77 c77_27 (xc_V (pc' := 30) (r := r20583) (as := [.ref r20586]) (st := []) (lm_0_162) rfl rfl (Nat.le_of_ble_eq_true rfl) w20576 g20585 sh_6 (by decide) rfl (by decide) (s_74 w20576 g20585 g20588) (fun R20589 T20590 H20591 p20592 => ?_))
    obtain ⟨e20593, e20595, z20596, e20594, b20597⟩ := p20592
    subst e20593
    subst e20594
    subst e20595
    show wp _ _ 77 30 [(1, vI z20579), (0, .ref r0)] [vI z20596] _ H20572 _
    refine wp_of e77 c77_30 (rw_istore_n (pc' := 31) (z := z20596) (L' := [(2, vI z20596), (1, vI z20579), (0, .ref r0)]) rfl rfl rfl ?_)
    refine wp_of e77 c77_31 (rw_aload_n (pc' := 32) (v := .ref r0) rfl rfl rfl ?_)
    refine wp_of e77 c77_32 (rw_iload_n (pc' := 33) (z := z20596) rfl rfl ?_)
    refine wp_of e77 c77_33 (rw_if_ge (p1 := 40) (p2 := 36) (by decide) rfl ⟨by omega, by omega⟩ (fun c20598 => ?_) (fun c20598 => ?_))
    · refine wp_of e77 c77_40 (rw_aload_n (pc' := 41) (v := .ref r0) rfl rfl rfl ?_)
      refine wp_of e77 c77_41 (xg_K (pc' := 44) lf_0_23 w20576 g0 sh_1 (by decide) (by decide) rfl q20584 rfl ?_)
      refine wp_of e77 c77_44 (rw_aload_n (pc' := 45) (v := .ref r0) rfl rfl rfl ?_)
      refine wp_of e77 c77_45 (xg_K (pc' := 48) lf_0_51 w20576 g0 sh_1 (by decide) (by decide) rfl q20587 rfl ?_)
      refine wp_of e77 c77_48 (rw_iload_n (pc' := 49) (z := z20596) rfl rfl ?_)
      refine wp_of e77 c77_49 (xc_V (pc' := 52) (r := r20583) (as := [.ref r20586, vI z20596]) (st := [.ref r0]) (lm_0_166) rfl rfl (Nat.le_of_ble_eq_true rfl) w20576 g20585 sh_6 (by decide) rfl (by decide) (s_75 w20576 g20585 g20588 ⟨by omega, by omega⟩) (fun R20599 T20600 H20601 p20602 => ?_))
      obtain ⟨e20603, e20605, z20606, e20604, b20607⟩ := p20602
      subst e20603
      subst e20604
      subst e20605
      show wp _ _ 77 52 [(2, vI z20596), (1, vI z20579), (0, .ref r0)] [vI z20606, .ref r0] _ H20572 _
      refine wp_of e77 c77_52 (xc_V (pc' := 55) (r := r0) (as := [vI z20606]) (st := []) (lm_0_99) rfl rfl (Nat.le_of_ble_eq_true rfl) w20576 g0 sh_1 (by decide) rfl (by decide) (s_51 w20576 g0 ⟨by omega, by omega⟩) (fun R20608 T20609 H20610 p20611 => ?_))
      obtain ⟨e20612, w20614, f20615, z20616, e20613, b20617⟩ := p20611
      subst e20612
      subst e20613
      have f20618 := f20581.tr f20615 rfl
      show wp _ _ 77 55 [(2, vI z20596), (1, vI z20579), (0, .ref r0)] [vI z20616] _ H20610 _
      exact wp_ireturn e77 c77_55 rfl ⟨rfl, w20614, f20618, z20616, rfl, ⟨by omega, by omega⟩⟩
    · refine wp_of e77 c77_36 (rw_iconst (pc' := 37) rfl ?_)
      refine wp_of e77 c77_37 (rw_goto (p1 := 52) (by decide) ?_)
      refine wp_of e77 c77_52 (xc_V (pc' := 55) (r := r0) (as := [vI 0]) (st := []) (lm_0_99) rfl rfl (Nat.le_of_ble_eq_true rfl) w20576 g0 sh_1 (by decide) rfl (by decide) (s_51 w20576 g0 ⟨by omega, by omega⟩) (fun R20619 T20620 H20621 p20622 => ?_))
      obtain ⟨e20623, w20625, f20626, z20627, e20624, b20628⟩ := p20622
      subst e20623
      subst e20624
      have f20629 := f20581.tr f20626 rfl
      show wp _ _ 77 55 [(2, vI z20596), (1, vI z20579), (0, .ref r0)] [vI z20627] _ H20621 _
      exact wp_ireturn e77 c77_55 rfl ⟨rfl, w20625, f20629, z20627, rfl, ⟨by omega, by omega⟩⟩
  · refine wp_of e77 c77_13 (rw_aload_n (pc' := 14) (v := .ref r0) rfl rfl rfl ?_)
    refine wp_of e77 c77_14 (rw_iload_n (pc' := 15) (z := z20579) rfl rfl ?_)
    refine wp_of e77 c77_15 (xc_V (pc' := 18) (r := r0) (as := [vI z20579]) (st := []) (lm_0_70) rfl rfl (Nat.le_of_ble_eq_true rfl) w20576 g0 sh_1 (by decide) rfl (by decide) (s_12 w20576 g0 ⟨by omega, by omega⟩) (fun R20630 T20631 H20632 p20633 => ?_))
    obtain ⟨e20634, w20636, f20637, z20638, e20635, b20639⟩ := p20633
    subst e20634
    subst e20635
    have f20640 := f20581.tr f20637 rfl
    show wp _ _ 77 18 [(1, vI z20579), (0, .ref r0)] [vI z20638] _ H20632 _
    exact wp_ireturn e77 c77_18 rfl ⟨rfl, w20636, f20640, z20638, rfl, ⟨by omega, by omega⟩⟩
/-! StrikeAwake$Walk.isQuarrel()Z -/
theorem e80 : wq_en 80 = some (3, 1, false, some FieldType.boolean) := rfl
theorem c80_0 : mc_cd 80 0 = some (.aload_n 0, 1) := by decide +kernel
theorem c80_1 : mc_cd 80 1 = some (.getfield 25, 3) := by decide +kernel
theorem c80_4 : mc_cd 80 4 = some (.aload_n 0, 1) := by decide +kernel
theorem c80_5 : mc_cd 80 5 = some (.getfield 51, 3) := by decide +kernel
theorem c80_8 : mc_cd 80 8 = some (.iaload, 1) := by decide +kernel
theorem c80_9 : mc_cd 80 9 = some (.ifCond .eq 7, 3) := by decide +kernel
theorem c80_12 : mc_cd 80 12 = some (.iconst 1, 1) := by decide +kernel
theorem c80_13 : mc_cd 80 13 = some (.goto 4, 3) := by decide +kernel
theorem c80_16 : mc_cd 80 16 = some (.iconst 0, 1) := by decide +kernel
theorem c80_17 : mc_cd 80 17 = some (.ireturn, 1) := by decide +kernel
abbrev q_80 (r0 : Nat) (T : wq_T) (H : wq_H) : Option Value → wq_T → wq_H → Prop := fun r T' H' => T = T' ∧ H = H' ∧ ∃ z : Int, some (vI z) = r ∧ (0 ≤ z ∧ z ≤ 1)
set_option maxHeartbeats 4000000 in
theorem s_80 {kt : Nat → Option mc_E} {T : wq_T} {H : wq_H} {r0 : Nat} (hW : WT T H) (g0 : T.2.2.2 r0 = some 6) : wpc kt 1 80 [.ref r0] T H (q_80 r0 T H) := by
  refine wp_enter e80 (Nat.le_of_ble_eq_true rfl) rfl ?_
  show wp _ _ 80 0 [(0, .ref r0)] [] _ H _
  refine wp_of e80 c80_0 (rw_aload_n (pc' := 1) (v := .ref r0) rfl rfl rfl ?_)
  refine wp_of e80 c80_1 (xg_R (pc' := 4) lf_3_25 hW g0 sh_6 (by decide) (by decide) ty_6_4 rfl rfl (fun r20649 q20650 g20651 => ?_))
  refine wp_of e80 c80_4 (rw_aload_n (pc' := 5) (v := .ref r0) rfl rfl rfl ?_)
  refine wp_of e80 c80_5 (xg_I (pc' := 8) lf_3_51 hW g0 sh_6 (by decide) (by decide) ty_6_5 rfl rfl (fun b20652 b20653 => ?_))
  refine wp_of e80 c80_8 (xa_I (so := 0) (pc' := 9) hW g20651 sh_11 (by decide) (ty_11 _) (by omega) (by omega) rfl (fun b20654 b20655 => ?_))
  refine wp_of e80 c80_9 (rw_if_eq (p1 := 16) (p2 := 12) (by decide) rfl ⟨by omega, by omega⟩ (fun c20656 => ?_) (fun c20656 => ?_))
  · refine wp_of e80 c80_16 (rw_iconst (pc' := 17) rfl ?_)
    exact wp_zreturn e80 c80_17 rfl (by omega) ⟨rfl, rfl, 0, rfl, ⟨by omega, by omega⟩⟩
  · refine wp_of e80 c80_12 (rw_iconst (pc' := 13) rfl ?_)
    refine wp_of e80 c80_13 (rw_goto (p1 := 17) (by decide) ?_)
    exact wp_zreturn e80 c80_17 rfl (by omega) ⟨rfl, rfl, 1, rfl, ⟨by omega, by omega⟩⟩
/-! StrikeAwake$Walk.failsIn(LStrikeAwake$Parish;)I -/
theorem e81 : wq_en 81 = some (3, 6, false, some FieldType.int) := rfl
theorem c81_0 : mc_cd 81 0 = some (.iconst 0, 1) := by decide +kernel
theorem c81_1 : mc_cd 81 1 = some (.istore_n 2, 1) := by decide +kernel
theorem c81_2 : mc_cd 81 2 = some (.iconst 0, 1) := by decide +kernel
theorem c81_3 : mc_cd 81 3 = some (.istore_n 3, 1) := by decide +kernel
theorem c81_4 : mc_cd 81 4 = some (.iload_n 3, 1) := by decide +kernel
theorem c81_5 : mc_cd 81 5 = some (.aload_n 1, 1) := by decide +kernel
theorem c81_6 : mc_cd 81 6 = some (.getfield 109, 3) := by decide +kernel
theorem c81_9 : mc_cd 81 9 = some (.if_icmp .ge 57, 3) := by decide +kernel
theorem c81_12 : mc_cd 81 12 = some (.aload_n 1, 1) := by decide +kernel
theorem c81_13 : mc_cd 81 13 = some (.getfield 112, 3) := by decide +kernel
theorem c81_16 : mc_cd 81 16 = some (.iload_n 3, 1) := by decide +kernel
theorem c81_17 : mc_cd 81 17 = some (.iaload, 1) := by decide +kernel
theorem c81_18 : mc_cd 81 18 = some (.istore 4, 2) := by decide +kernel
theorem c81_20 : mc_cd 81 20 = some (.aload_n 1, 1) := by decide +kernel
theorem c81_21 : mc_cd 81 21 = some (.iload 4, 2) := by decide +kernel
theorem c81_23 : mc_cd 81 23 = some (.aload_n 0, 1) := by decide +kernel
theorem c81_24 : mc_cd 81 24 = some (.iload 4, 2) := by decide +kernel
theorem c81_26 : mc_cd 81 26 = some (.invokevirtual 92, 3) := by decide +kernel
theorem c81_29 : mc_cd 81 29 = some (.invokevirtual 96, 3) := by decide +kernel
theorem c81_32 : mc_cd 81 32 = some (.istore 5, 2) := by decide +kernel
theorem c81_34 : mc_cd 81 34 = some (.iload 5, 2) := by decide +kernel
theorem c81_36 : mc_cd 81 36 = some (.iconst 1, 1) := by decide +kernel
theorem c81_37 : mc_cd 81 37 = some (.if_icmp .ne 6, 3) := by decide +kernel
theorem c81_40 : mc_cd 81 40 = some (.iinc 2 1, 3) := by decide +kernel
theorem c81_43 : mc_cd 81 43 = some (.iload 5, 2) := by decide +kernel
theorem c81_45 : mc_cd 81 45 = some (.iconst 2, 1) := by decide +kernel
theorem c81_46 : mc_cd 81 46 = some (.if_icmp .eq 11, 3) := by decide +kernel
theorem c81_49 : mc_cd 81 49 = some (.iload_n 2, 1) := by decide +kernel
theorem c81_50 : mc_cd 81 50 = some (.aload_n 1, 1) := by decide +kernel
theorem c81_51 : mc_cd 81 51 = some (.getfield 115, 3) := by decide +kernel
theorem c81_54 : mc_cd 81 54 = some (.if_icmp .le 6, 3) := by decide +kernel
theorem c81_57 : mc_cd 81 57 = some (.iload 4, 2) := by decide +kernel
theorem c81_59 : mc_cd 81 59 = some (.ireturn, 1) := by decide +kernel
theorem c81_60 : mc_cd 81 60 = some (.iinc 3 1, 3) := by decide +kernel
theorem c81_63 : mc_cd 81 63 = some (.goto (-59), 3) := by decide +kernel
theorem c81_66 : mc_cd 81 66 = some (.bipush 24, 2) := by decide +kernel
theorem c81_68 : mc_cd 81 68 = some (.ireturn, 1) := by decide +kernel
abbrev q_81 (r0 : Nat) (r1 : Nat) (T : wq_T) (H : wq_H) : Option Value → wq_T → wq_H → Prop := fun r T' H' => T = T' ∧ H = H' ∧ ∃ z : Int, some (vI z) = r ∧ (0 ≤ z ∧ z ≤ 24)
set_option maxHeartbeats 4000000 in
theorem s_81 {kt : Nat → Option mc_E} {T : wq_T} {H : wq_H} {r0 : Nat} {r1 : Nat} (hW : WT T H) (g0 : T.2.2.2 r0 = some 6) (g1 : T.2.2.2 r1 = some 27) : wpc kt 2 81 [.ref r0, .ref r1] T H (q_81 r0 r1 T H) := by
  refine wp_enter e81 (Nat.le_of_ble_eq_true rfl) rfl ?_
  show wp _ _ 81 0 [(0, .ref r0), (1, .ref r1)] [] _ H _
  refine wp_of e81 c81_0 (rw_iconst (pc' := 1) rfl ?_)
  refine wp_of e81 c81_1 (rw_istore_n (pc' := 2) (z := 0) (L' := [(2, vI 0), (0, .ref r0), (1, .ref r1)]) rfl rfl rfl ?_)
  refine wp_of e81 c81_2 (rw_iconst (pc' := 3) rfl ?_)
  refine wp_of e81 c81_3 (rw_istore_n (pc' := 4) (z := 0) (L' := [(3, vI 0), (2, vI 0), (0, .ref r0), (1, .ref r1)]) rfl rfl rfl ?_)
  have lp21253 : ∀ (n21254 : Nat) (v21256 : Int) (v21257 : Int), (0 ≤ v21256 ∧ v21256 ≤ 24) → (0 ≤ v21257 ∧ v21257 ≤ 24) → (v21257 ≤ v21256) → (24 - v21256).toNat = n21254 → wp kt 1 81 4 [(3, vI v21256), (2, vI v21257), (0, .ref r0), (1, .ref r1)] [] T H (q_81 r0 r1 T H) := by
    intro n21254
    induction n21254 using Nat.strongRecOn with
    | _ n21254 ih21255 =>
      intro v21256 v21257 b21260 b21261 x21262 m21263
      refine wp_of e81 c81_4 (rw_iload_n (pc' := 5) (z := v21256) rfl rfl ?_)
      refine wp_of e81 c81_5 (rw_aload_n (pc' := 6) (v := .ref r1) rfl rfl rfl ?_)
      refine wp_of e81 c81_6 (xg_I (pc' := 9) lf_3_109 hW g1 sh_27 (by decide) (by decide) ty_27_16 rfl rfl (fun b21264 b21265 => ?_))
      refine wp_of e81 c81_9 (rw_icmp_ge (p1 := 66) (p2 := 12) (by decide) rfl ⟨by omega, by omega⟩ ⟨by omega, by omega⟩ (fun c21266 => ?_) (fun c21266 => ?_))
      · refine wp_of e81 c81_66 (rw_bipush (pc' := 68) (z := 24) rfl (by decide) ?_)
        exact wp_ireturn e81 c81_68 rfl ⟨rfl, rfl, 24, rfl, ⟨by omega, by omega⟩⟩
      · refine wp_of e81 c81_12 (rw_aload_n (pc' := 13) (v := .ref r1) rfl rfl rfl ?_)
        refine wp_of e81 c81_13 (xg_R (pc' := 16) lf_3_112 hW g1 sh_27 (by decide) (by decide) ty_27_2 rfl rfl (fun r21267 q21268 g21269 => ?_))
        refine wp_of e81 c81_16 (rw_iload_n (pc' := 17) (z := v21256) rfl rfl ?_)
        refine wp_of e81 c81_17 (xa_I (so := 0) (pc' := 18) hW g21269 sh_30 (by decide) (ty_30 _) (by omega) (by omega) rfl (fun b21270 b21271 => ?_))
        refine wp_of e81 c81_18 (rw_istore (pc' := 20) (z := H r21267 v21256.toNat) (L' := [(4, vI (H r21267 v21256.toNat)), (3, vI v21256), (2, vI v21257), (0, .ref r0), (1, .ref r1)]) rfl rfl rfl ?_)
        refine wp_of e81 c81_20 (rw_aload_n (pc' := 21) (v := .ref r1) rfl rfl rfl ?_)
        refine wp_of e81 c81_21 (rw_iload (pc' := 23) (z := H r21267 v21256.toNat) rfl rfl ?_)
        refine wp_of e81 c81_23 (rw_aload_n (pc' := 24) (v := .ref r0) rfl rfl rfl ?_)
        refine wp_of e81 c81_24 (rw_iload (pc' := 26) (z := H r21267 v21256.toNat) rfl rfl ?_)
        refine wp_of e81 c81_26 (xc_V (pc' := 29) (r := r0) (as := [vI (H r21267 v21256.toNat)]) (st := [vI (H r21267 v21256.toNat), .ref r1]) (lm_3_92) rfl rfl (Nat.le_of_ble_eq_true rfl) hW g0 sh_6 (by decide) rfl (by decide) (s_72 hW g0 ⟨by omega, by omega⟩) (fun R21272 T21273 H21274 p21275 => ?_))
        obtain ⟨e21276, e21278, z21279, e21277, b21280⟩ := p21275
        subst e21276
        subst e21277
        subst e21278
        show wp _ _ 81 29 [(4, vI (H r21267 v21256.toNat)), (3, vI v21256), (2, vI v21257), (0, .ref r0), (1, .ref r1)] [vI z21279, vI (H r21267 v21256.toNat), .ref r1] _ H _
        refine wp_of e81 c81_29 (xc_V (pc' := 32) (r := r1) (as := [vI (H r21267 v21256.toNat), vI z21279]) (st := []) (lm_3_96) rfl rfl (Nat.le_of_ble_eq_true rfl) hW g1 sh_27 (by decide) rfl (by decide) (s_76 hW g1 ⟨by omega, by omega⟩ ⟨by omega, by omega⟩) (fun R21281 T21282 H21283 p21284 => ?_))
        obtain ⟨e21285, e21287, z21288, e21286, b21289⟩ := p21284
        subst e21285
        subst e21286
        subst e21287
        show wp _ _ 81 32 [(4, vI (H r21267 v21256.toNat)), (3, vI v21256), (2, vI v21257), (0, .ref r0), (1, .ref r1)] [vI z21288] _ H _
        refine wp_of e81 c81_32 (rw_istore (pc' := 34) (z := z21288) (L' := [(5, vI z21288), (4, vI (H r21267 v21256.toNat)), (3, vI v21256), (2, vI v21257), (0, .ref r0), (1, .ref r1)]) rfl rfl rfl ?_)
        refine wp_of e81 c81_34 (rw_iload (pc' := 36) (z := z21288) rfl rfl ?_)
        refine wp_of e81 c81_36 (rw_iconst (pc' := 37) rfl ?_)
        refine wp_of e81 c81_37 (rw_icmp_ne (p1 := 43) (p2 := 40) (by decide) rfl ⟨by omega, by omega⟩ ⟨by omega, by omega⟩ (fun c21290 => ?_) (fun c21290 => ?_))
        · refine wp_of e81 c81_43 (rw_iload (pc' := 45) (z := z21288) rfl rfl ?_)
          refine wp_of e81 c81_45 (rw_iconst (pc' := 46) rfl ?_)
          refine wp_of e81 c81_46 (rw_icmp_eq (p1 := 57) (p2 := 49) (by decide) rfl ⟨by omega, by omega⟩ ⟨by omega, by omega⟩ (fun c21291 => ?_) (fun c21291 => ?_))
          · refine wp_of e81 c81_57 (rw_iload (pc' := 59) (z := H r21267 v21256.toNat) rfl rfl ?_)
            exact wp_ireturn e81 c81_59 rfl ⟨rfl, rfl, H r21267 v21256.toNat, rfl, ⟨by omega, by omega⟩⟩
          · refine wp_of e81 c81_49 (rw_iload_n (pc' := 50) (z := v21257) rfl rfl ?_)
            refine wp_of e81 c81_50 (rw_aload_n (pc' := 51) (v := .ref r1) rfl rfl rfl ?_)
            refine wp_of e81 c81_51 (xg_I (pc' := 54) lf_3_115 hW g1 sh_27 (by decide) (by decide) ty_27_9 rfl rfl (fun b21292 b21293 => ?_))
            refine wp_of e81 c81_54 (rw_icmp_le (p1 := 60) (p2 := 57) (by decide) rfl ⟨by omega, by omega⟩ ⟨by omega, by omega⟩ (fun c21294 => ?_) (fun c21294 => ?_))
            · refine wp_of e81 c81_60 (rw_iinc (pc' := 63) (z := v21256) (L' := [(3, vI (v21256 + 1)), (5, vI z21288), (4, vI (H r21267 v21256.toNat)), (2, vI v21257), (0, .ref r0), (1, .ref r1)]) rfl rfl rfl rfl ?_)
              refine wp_of e81 c81_63 (rw_goto (p1 := 4) (by decide) ?_)
              exact wp_lc (ks := [3, 5, 4, 2, 0, 1]) (wl_c rfl (wl_c rfl (wl_c rfl (wl_c rfl wl_n)))) rfl (by decide) (ih21255 _ (by omega) (v21256 + 1) v21257 ⟨by omega, by omega⟩ ⟨by omega, by omega⟩ (by omega) rfl)
            · refine wp_of e81 c81_57 (rw_iload (pc' := 59) (z := H r21267 v21256.toNat) rfl rfl ?_)
              exact wp_ireturn e81 c81_59 rfl ⟨rfl, rfl, H r21267 v21256.toNat, rfl, ⟨by omega, by omega⟩⟩
        · refine wp_of e81 c81_40 (rw_iinc (pc' := 43) (z := v21257) (L' := [(2, vI (v21257 + 1)), (5, vI z21288), (4, vI (H r21267 v21256.toNat)), (3, vI v21256), (0, .ref r0), (1, .ref r1)]) rfl rfl rfl rfl ?_)
          refine wp_of e81 c81_43 (rw_iload (pc' := 45) (z := z21288) rfl rfl ?_)
          refine wp_of e81 c81_45 (rw_iconst (pc' := 46) rfl ?_)
          refine wp_of e81 c81_46 (rw_icmp_eq (p1 := 57) (p2 := 49) (by decide) rfl ⟨by omega, by omega⟩ ⟨by omega, by omega⟩ (fun c21295 => ?_) (fun c21295 => ?_))
          · exfalso
            omega
          · refine wp_of e81 c81_49 (rw_iload_n (pc' := 50) (z := v21257 + 1) rfl rfl ?_)
            refine wp_of e81 c81_50 (rw_aload_n (pc' := 51) (v := .ref r1) rfl rfl rfl ?_)
            refine wp_of e81 c81_51 (xg_I (pc' := 54) lf_3_115 hW g1 sh_27 (by decide) (by decide) ty_27_9 rfl rfl (fun b21296 b21297 => ?_))
            refine wp_of e81 c81_54 (rw_icmp_le (p1 := 60) (p2 := 57) (by decide) rfl ⟨by omega, by omega⟩ ⟨by omega, by omega⟩ (fun c21298 => ?_) (fun c21298 => ?_))
            · refine wp_of e81 c81_60 (rw_iinc (pc' := 63) (z := v21256) (L' := [(3, vI (v21256 + 1)), (2, vI (v21257 + 1)), (5, vI z21288), (4, vI (H r21267 v21256.toNat)), (0, .ref r0), (1, .ref r1)]) rfl rfl rfl rfl ?_)
              refine wp_of e81 c81_63 (rw_goto (p1 := 4) (by decide) ?_)
              exact wp_lc (ks := [3, 2, 5, 4, 0, 1]) (wl_c rfl (wl_c rfl (wl_c rfl (wl_c rfl wl_n)))) rfl (by decide) (ih21255 _ (by omega) (v21256 + 1) (v21257 + 1) ⟨by omega, by omega⟩ ⟨by omega, by omega⟩ (by omega) rfl)
            · refine wp_of e81 c81_57 (rw_iload (pc' := 59) (z := H r21267 v21256.toNat) rfl rfl ?_)
              exact wp_ireturn e81 c81_59 rfl ⟨rfl, rfl, H r21267 v21256.toNat, rfl, ⟨by omega, by omega⟩⟩
  exact wp_lc (ks := [3, 2, 0, 1]) (wl_c rfl (wl_c rfl (wl_c rfl (wl_c rfl wl_n)))) rfl (by decide) (lp21253 _ 0 0 ⟨by omega, by omega⟩ ⟨by omega, by omega⟩ (by omega) rfl)
