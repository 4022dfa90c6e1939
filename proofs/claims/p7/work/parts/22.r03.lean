/-! methods of the reference (own work, written by wip/gen2/sx.py) -/
/-! StrikeAwakeModel.readHours()I -/
theorem e201 : wq_en 201 = some (9, 2, false, some FieldType.int) := rfl
theorem c201_0 : mc_cd 201 0 = some (.aload_n 0, 1) := by decide +kernel
theorem c201_1 : mc_cd 201 1 = some (.invokevirtual 273, 3) := by decide +kernel
theorem c201_4 : mc_cd 201 4 = some (.istore_n 1, 1) := by decide +kernel
theorem c201_5 : mc_cd 201 5 = some (.aload_n 0, 1) := by decide +kernel
theorem c201_6 : mc_cd 201 6 = some (.aload_n 0, 1) := by decide +kernel
theorem c201_7 : mc_cd 201 7 = some (.iconst 0, 1) := by decide +kernel
theorem c201_8 : mc_cd 201 8 = some (.bipush 23, 2) := by decide +kernel
theorem c201_10 : mc_cd 201 10 = some (.invokevirtual 137, 3) := by decide +kernel
theorem c201_13 : mc_cd 201 13 = some (.putfield 300, 3) := by decide +kernel
theorem c201_16 : mc_cd 201 16 = some (.aload_n 0, 1) := by decide +kernel
theorem c201_17 : mc_cd 201 17 = some (.aload_n 0, 1) := by decide +kernel
theorem c201_18 : mc_cd 201 18 = some (.ldc 233, 2) := by decide +kernel
theorem c201_20 : mc_cd 201 20 = some (.aload_n 0, 1) := by decide +kernel
theorem c201_21 : mc_cd 201 21 = some (.getfield 300, 3) := by decide +kernel
theorem c201_24 : mc_cd 201 24 = some (.iconst 1, 1) := by decide +kernel
theorem c201_25 : mc_cd 201 25 = some (.iadd, 1) := by decide +kernel
theorem c201_26 : mc_cd 201 26 = some (.bipush 24, 2) := by decide +kernel
theorem c201_28 : mc_cd 201 28 = some (.invokevirtual 216, 3) := by decide +kernel
theorem c201_31 : mc_cd 201 31 = some (.putfield 303, 3) := by decide +kernel
theorem c201_34 : mc_cd 201 34 = some (.iload_n 1, 1) := by decide +kernel
theorem c201_35 : mc_cd 201 35 = some (.ireturn, 1) := by decide +kernel
abbrev q_201 (r0 : Nat) (rp : Nat) (T : wq_T) (H : wq_H) : Option Value → wq_T → wq_H → Prop := fun r T' H' => T = T' ∧ WT T H' ∧ wfr [(42, 8), (42, 9), (42, 10), (42, 11), (42, 12), (42, 13), (42, 14), (42, 15), (42, 17), (42, 18)] T H H' ∧ ∃ z : Int, some (vI z) = r ∧ (0 ≤ z ∧ z ≤ 5) ∧ (wJ H' r0 = 1) ∧ (H r0 10 ≤ H' r0 10) ∧ (wOV H r0 ≤ wOV H' r0) ∧ (wOV H' r0 ≤ 1)
set_option maxHeartbeats 4000000 in
theorem s_201 {kt : Nat → Option mc_E} {T : wq_T} {H : wq_H} {r0 : Nat} {rp : Nat} (hW : WT T H) (g0 : T.2.2.2 r0 = some 42) (qrp : H r0 4 = (rp : Int)) (grp : T.2.2.2 rp = some 54) (p0 : wJ H r0 = 1) : wpc kt 6 201 [.ref r0] T H (q_201 r0 rp T H) := by
  refine wp_enter e201 (Nat.le_of_ble_eq_true rfl) rfl ?_
  have f0 : wfr [(42, 8), (42, 9), (42, 10), (42, 11), (42, 12), (42, 13), (42, 14), (42, 15), (42, 17), (42, 18)] T H H := wfr.rf
  show wp _ _ 201 0 [(0, .ref r0)] [] _ H _
  have b92467 : (-2147483648) ≤ H r0 10 ∧ H r0 10 ≤ 2147483647 := hW.box g0 (n := 33) rfl (by decide) rfl
  have b92468 : 0 ≤ H r0 9 ∧ H r0 9 ≤ 5 := hW.box g0 (n := 33) rfl (by decide) rfl
  have b92469 : 0 ≤ H r0 8 ∧ H r0 8 ≤ 900 := hW.box g0 (n := 33) rfl (by decide) rfl
  have hb0 := wOV_b (H := H) (m := r0)
  refine wp_of e201 c201_0 (rw_aload_n (pc' := 1) (v := .ref r0) rfl rfl rfl ?_)
  refine wp_of e201 c201_1 (xc_V (pc' := 4) (r := r0) (as := []) (st := []) (lm_9_273) rfl rfl (Nat.le_of_ble_eq_true rfl) hW g0 sh_42 (by decide) rfl (by decide) (s_194 hW g0 qrp grp (by omega)) (fun R92470 T92471 H92472 p92473 => ?_))
  obtain ⟨e92474, w92476, f92477, z92482, e92475, b92483, p92478, p92479, p92480, p92481⟩ := p92473
  subst e92474
  subst e92475
  have f92484 := f0.tr f92477 rfl
  show wp _ _ 201 4 [(0, .ref r0)] [vI z92482] _ H92472 _
  refine wp_of e201 c201_4 (rw_istore_n (pc' := 5) (z := z92482) (L' := [(1, vI z92482), (0, .ref r0)]) rfl rfl rfl ?_)
  refine wp_of e201 c201_5 (rw_aload_n (pc' := 6) (v := .ref r0) rfl rfl rfl ?_)
  refine wp_of e201 c201_6 (rw_aload_n (pc' := 7) (v := .ref r0) rfl rfl rfl ?_)
  refine wp_of e201 c201_7 (rw_iconst (pc' := 8) rfl ?_)
  refine wp_of e201 c201_8 (rw_bipush (pc' := 10) (z := 23) rfl (by decide) ?_)
  refine wp_of e201 c201_10 (xc_V (pc' := 13) (r := r0) (as := [vI 0, vI 23]) (st := [.ref r0]) (lm_9_137) rfl rfl (Nat.le_of_ble_eq_true rfl) w92476 g0 sh_42 (by decide) rfl (by decide) (s_184 w92476 g0 ⟨by omega, by omega⟩ ⟨by omega, by omega⟩ (by omega)) (fun R92485 T92486 H92487 p92488 => ?_))
  obtain ⟨e92489, w92491, f92492, z92498, e92490, b92499, p92493, p92494, p92495, p92496, p92497⟩ := p92488
  subst e92489
  subst e92490
  have f92500 := f92484.tr f92492 rfl
  show wp _ _ 201 13 [(1, vI z92482), (0, .ref r0)] [vI z92498, .ref r0] _ H92487 _
  refine wp_of e201 c201_13 (xp_I (pc' := 16) lf_9_300 w92491 g0 sh_42 (by decide) (by decide) ty_42_17 rfl rfl (by omega) (by omega) ⟨by omega, by omega⟩ rfl (fun H92501 e92502 w92503 => ?_))
  have f92504 := f92500.put' e92502 g0 rfl
  have k92505 : H92501 r0 17 = z92498 := wq_u_s e92502
  refine wp_of e201 c201_16 (rw_aload_n (pc' := 17) (v := .ref r0) rfl rfl rfl ?_)
  refine wp_of e201 c201_17 (rw_aload_n (pc' := 18) (v := .ref r0) rfl rfl rfl ?_)
  refine wp_of e201 c201_18 (rw_ldcS (pc' := 20) (k := 87) rfl rfl rfl rfl ?_)
  refine wp_of e201 c201_20 (rw_aload_n (pc' := 21) (v := .ref r0) rfl rfl rfl ?_)
  refine wp_of e201 c201_21 (xg_I (pc' := 24) lf_9_300 w92503 g0 sh_42 (by decide) (by decide) ty_42_17 rfl rfl (fun b92506 b92507 => ?_))
  refine wp_of e201 c201_24 (rw_iconst (pc' := 25) rfl ?_)
  refine wp_of e201 c201_25 (rw_iadd (pc' := 26) rfl ?_)
  refine wp_of e201 c201_26 (rw_bipush (pc' := 28) (z := 24) rfl (by decide) ?_)
  have k92508 : wJ H92501 r0 = wJ H92487 r0 := (wJ_fr w92491 g0 ((wfr.rf (l := [(42, 17)])).put' e92502 g0 rfl) rfl)
  have k92509 : wOV H92501 r0 = wOV H92487 r0 := (wOV_fr w92491 g0 ((wfr.rf (l := [(42, 17)])).put' e92502 g0 rfl) rfl)
  have k92510 : H92501 r0 10 = H92487 r0 10 := (wq_u_j e92502 rfl)
  refine wp_of e201 c201_28 (xc_V (pc' := 31) (r := r0) (as := [.ref 87, vI ((H92501 r0 17) + 1), vI 24]) (st := [.ref r0]) (lm_9_216) rfl rfl (Nat.le_of_ble_eq_true rfl) w92503 g0 sh_42 (by decide) rfl (by decide) (s_182 w92503 g0 rfl ⟨by omega, by omega⟩ ⟨by omega, by omega⟩ (by omega)) (fun R92511 T92512 H92513 p92514 => ?_))
  obtain ⟨e92515, w92517, f92518, z92524, e92516, b92525, p92519, p92520, p92521, p92522, p92523⟩ := p92514
  subst e92515
  subst e92516
  have f92526 := f92504.tr f92518 rfl
  show wp _ _ 201 31 [(1, vI z92482), (0, .ref r0)] [vI z92524, .ref r0] _ H92513 _
  refine wp_of e201 c201_31 (xp_I (pc' := 34) lf_9_303 w92517 g0 sh_42 (by decide) (by decide) ty_42_18 rfl rfl (by omega) (by omega) ⟨by omega, by omega⟩ rfl (fun H92527 e92528 w92529 => ?_))
  have f92530 := f92526.put' e92528 g0 rfl
  have k92531 : H92527 r0 18 = z92524 := wq_u_s e92528
  refine wp_of e201 c201_34 (rw_iload_n (pc' := 35) (z := z92482) rfl rfl ?_)
  have k92532 : H92527 r0 10 = H92513 r0 10 := (wq_u_j e92528 rfl)
  have k92533 : wOV H92527 r0 = wOV H92513 r0 := (wOV_fr w92517 g0 ((wfr.rf (l := [(42, 18)])).put' e92528 g0 rfl) rfl)
  have k92534 : wJ H92527 r0 = wJ H92513 r0 := (wJ_fr w92517 g0 ((wfr.rf (l := [(42, 18)])).put' e92528 g0 rfl) rfl)
  exact wp_ireturn e201 c201_35 rfl ⟨rfl, w92529, f92530, z92482, rfl, ⟨by omega, by omega⟩, by omega, by omega, by omega, by omega⟩
/-! StrikeAwakeModel.hoursFrom(II)I -/
theorem e202 : wq_en 202 = some (9, 4, false, some FieldType.int) := rfl
theorem c202_0 : mc_cd 202 0 = some (.iconst 0, 1) := by decide +kernel
theorem c202_1 : mc_cd 202 1 = some (.istore_n 2, 1) := by decide +kernel
theorem c202_2 : mc_cd 202 2 = some (.iload_n 0, 1) := by decide +kernel
theorem c202_3 : mc_cd 202 3 = some (.istore_n 3, 1) := by decide +kernel
theorem c202_4 : mc_cd 202 4 = some (.iload_n 3, 1) := by decide +kernel
theorem c202_5 : mc_cd 202 5 = some (.iload_n 1, 1) := by decide +kernel
theorem c202_6 : mc_cd 202 6 = some (.if_icmp .ge 21, 3) := by decide +kernel
theorem c202_9 : mc_cd 202 9 = some (.iload_n 3, 1) := by decide +kernel
theorem c202_10 : mc_cd 202 10 = some (.bipush 24, 2) := by decide +kernel
theorem c202_12 : mc_cd 202 12 = some (.if_icmp .ge 15, 3) := by decide +kernel
theorem c202_15 : mc_cd 202 15 = some (.iload_n 2, 1) := by decide +kernel
theorem c202_16 : mc_cd 202 16 = some (.iconst 1, 1) := by decide +kernel
theorem c202_17 : mc_cd 202 17 = some (.iload_n 3, 1) := by decide +kernel
theorem c202_18 : mc_cd 202 18 = some (.ishl, 1) := by decide +kernel
theorem c202_19 : mc_cd 202 19 = some (.ior, 1) := by decide +kernel
theorem c202_20 : mc_cd 202 20 = some (.istore_n 2, 1) := by decide +kernel
theorem c202_21 : mc_cd 202 21 = some (.iinc 3 1, 3) := by decide +kernel
theorem c202_24 : mc_cd 202 24 = some (.goto (-20), 3) := by decide +kernel
theorem c202_27 : mc_cd 202 27 = some (.iload_n 2, 1) := by decide +kernel
theorem c202_28 : mc_cd 202 28 = some (.ireturn, 1) := by decide +kernel
abbrev q_202 (a0 : Int) (a1 : Int) (T : wq_T) (H : wq_H) : Option Value → wq_T → wq_H → Prop := fun r T' H' => T = T' ∧ H = H' ∧ ∃ z : Int, some (vI z) = r ∧ ((-2147483648) ≤ z ∧ z ≤ 2147483647)
set_option maxHeartbeats 4000000 in
theorem s_202 {kt : Nat → Option mc_E} {T : wq_T} {H : wq_H} {a0 : Int} {a1 : Int} (hW : WT T H) (i0 : (-2147483648) ≤ a0 ∧ a0 ≤ 2147483647) (i1 : (-2147483648) ≤ a1 ∧ a1 ≤ 2147483647) : wpc kt 1 202 [vI a0, vI a1] T H (q_202 a0 a1 T H) := by
  refine wp_enter e202 (Nat.le_of_ble_eq_true rfl) rfl ?_
  show wp _ _ 202 0 [(0, vI a0), (1, vI a1)] [] _ H _
  refine wp_of e202 c202_0 (rw_iconst (pc' := 1) rfl ?_)
  refine wp_of e202 c202_1 (rw_istore_n (pc' := 2) (z := 0) (L' := [(2, vI 0), (0, vI a0), (1, vI a1)]) rfl rfl rfl ?_)
  refine wp_of e202 c202_2 (rw_iload_n (pc' := 3) (z := a0) rfl rfl ?_)
  refine wp_of e202 c202_3 (rw_istore_n (pc' := 4) (z := a0) (L' := [(3, vI a0), (2, vI 0), (0, vI a0), (1, vI a1)]) rfl rfl rfl ?_)
  have lp92566 : ∀ (n92567 : Nat) (v92569 : Int) (v92570 : Int), ((-2147483648) ≤ v92569 ∧ v92569 ≤ 2147483647) → ((-2147483648) ≤ v92570 ∧ v92570 ≤ 2147483647) → (2147483647 - v92569).toNat = n92567 → wp kt 0 202 4 [(3, vI v92569), (2, vI v92570), (1, vI a1)] [] T H (q_202 a0 a1 T H) := by
    intro n92567
    induction n92567 using Nat.strongRecOn with
    | _ n92567 ih92568 =>
      intro v92569 v92570 b92573 b92574 m92575
      refine wp_of e202 c202_4 (rw_iload_n (pc' := 5) (z := v92569) rfl rfl ?_)
      refine wp_of e202 c202_5 (rw_iload_n (pc' := 6) (z := a1) rfl rfl ?_)
      refine wp_of e202 c202_6 (rw_icmp_ge (p1 := 27) (p2 := 9) (by decide) rfl ⟨by omega, by omega⟩ ⟨by omega, by omega⟩ (fun c92576 => ?_) (fun c92576 => ?_))
      · refine wp_of e202 c202_27 (rw_iload_n (pc' := 28) (z := v92570) rfl rfl ?_)
        exact wp_ireturn e202 c202_28 rfl ⟨rfl, rfl, v92570, rfl, ⟨by omega, by omega⟩⟩
      · refine wp_of e202 c202_9 (rw_iload_n (pc' := 10) (z := v92569) rfl rfl ?_)
        refine wp_of e202 c202_10 (rw_bipush (pc' := 12) (z := 24) rfl (by decide) ?_)
        refine wp_of e202 c202_12 (rw_icmp_ge (p1 := 27) (p2 := 15) (by decide) rfl ⟨by omega, by omega⟩ ⟨by omega, by omega⟩ (fun c92577 => ?_) (fun c92577 => ?_))
        · refine wp_of e202 c202_27 (rw_iload_n (pc' := 28) (z := v92570) rfl rfl ?_)
          exact wp_ireturn e202 c202_28 rfl ⟨rfl, rfl, v92570, rfl, ⟨by omega, by omega⟩⟩
        · refine wp_of e202 c202_15 (rw_iload_n (pc' := 16) (z := v92570) rfl rfl ?_)
          refine wp_of e202 c202_16 (rw_iconst (pc' := 17) rfl ?_)
          refine wp_of e202 c202_17 (rw_iload_n (pc' := 18) (z := v92569) rfl rfl ?_)
          refine wp_of e202 c202_18 (rw_ishl (pc' := 19) rfl ?_)
          obtain ⟨v92578, e92579⟩ : ∃ x : Int, x = wq_shl 1 v92569 := ⟨_, rfl⟩
          rw [← e92579]
          have b92580 : -2147483648 ≤ v92578 ∧ v92578 ≤ 2147483647 := by
            rw [e92579]
            exact wI_shl _ _
          refine wp_of e202 c202_19 (rw_ior (pc' := 20) rfl ?_)
          obtain ⟨v92581, e92582⟩ : ∃ x : Int, x = wq_or v92570 v92578 := ⟨_, rfl⟩
          rw [← e92582]
          have b92583 : -2147483648 ≤ v92581 ∧ v92581 ≤ 2147483647 := by
            rw [e92582]
            exact wI_or _ _
          refine wp_of e202 c202_20 (rw_istore_n (pc' := 21) (z := v92581) (L' := [(2, vI v92581), (3, vI v92569), (1, vI a1)]) rfl rfl rfl ?_)
          refine wp_of e202 c202_21 (rw_iinc (pc' := 24) (z := v92569) (L' := [(3, vI (v92569 + 1)), (2, vI v92581), (1, vI a1)]) rfl rfl rfl rfl ?_)
          refine wp_of e202 c202_24 (rw_goto (p1 := 4) (by decide) ?_)
          exact wp_lc (ks := [3, 2, 1]) (wl_c rfl (wl_c rfl (wl_c rfl wl_n))) rfl (by decide) (ih92568 _ (by omega) (v92569 + 1) v92581 ⟨by omega, by omega⟩ ⟨by omega, by omega⟩ rfl)
  exact wp_lc (ks := [3, 2, 0, 1]) (wl_c rfl (wl_c rfl (wl_c rfl wl_n))) rfl (by decide) (lp92566 _ a0 0 ⟨by omega, by omega⟩ ⟨by omega, by omega⟩ rfl)
/-! StrikeAwakeModel.readTold()V -/
theorem e200 : wq_en 200 = some (9, 2, false, none) := rfl
theorem c200_0 : mc_cd 200 0 = some (.aload_n 0, 1) := by decide +kernel
theorem c200_1 : mc_cd 200 1 = some (.aload_n 0, 1) := by decide +kernel
theorem c200_2 : mc_cd 200 2 = some (.getfield 166, 3) := by decide +kernel
theorem c200_5 : mc_cd 200 5 = some (.getfield 306, 3) := by decide +kernel
theorem c200_8 : mc_cd 200 8 = some (.iconst 4, 1) := by decide +kernel
theorem c200_9 : mc_cd 200 9 = some (.invokevirtual 228, 3) := by decide +kernel
theorem c200_12 : mc_cd 200 12 = some (.aload_n 0, 1) := by decide +kernel
theorem c200_13 : mc_cd 200 13 = some (.invokevirtual 309, 3) := by decide +kernel
theorem c200_16 : mc_cd 200 16 = some (.istore_n 1, 1) := by decide +kernel
theorem c200_17 : mc_cd 200 17 = some (.aload_n 0, 1) := by decide +kernel
theorem c200_18 : mc_cd 200 18 = some (.getfield 75, 3) := by decide +kernel
theorem c200_21 : mc_cd 200 21 = some (.iconst 5, 1) := by decide +kernel
theorem c200_22 : mc_cd 200 22 = some (.if_icmp .ne 4, 3) := by decide +kernel
theorem c200_25 : mc_cd 200 25 = some (.return_, 1) := by decide +kernel
theorem c200_26 : mc_cd 200 26 = some (.aload_n 0, 1) := by decide +kernel
theorem c200_27 : mc_cd 200 27 = some (.getfield 166, 3) := by decide +kernel
theorem c200_30 : mc_cd 200 30 = some (.getfield 312, 3) := by decide +kernel
theorem c200_33 : mc_cd 200 33 = some (.aload_n 0, 1) := by decide +kernel
theorem c200_34 : mc_cd 200 34 = some (.getfield 166, 3) := by decide +kernel
theorem c200_37 : mc_cd 200 37 = some (.getfield 306, 3) := by decide +kernel
theorem c200_40 : mc_cd 200 40 = some (.iload_n 1, 1) := by decide +kernel
theorem c200_41 : mc_cd 200 41 = some (.iastore, 1) := by decide +kernel
theorem c200_42 : mc_cd 200 42 = some (.aload_n 0, 1) := by decide +kernel
theorem c200_43 : mc_cd 200 43 = some (.getfield 166, 3) := by decide +kernel
theorem c200_46 : mc_cd 200 46 = some (.getfield 315, 3) := by decide +kernel
theorem c200_49 : mc_cd 200 49 = some (.aload_n 0, 1) := by decide +kernel
theorem c200_50 : mc_cd 200 50 = some (.getfield 166, 3) := by decide +kernel
theorem c200_53 : mc_cd 200 53 = some (.getfield 306, 3) := by decide +kernel
theorem c200_56 : mc_cd 200 56 = some (.aload_n 0, 1) := by decide +kernel
theorem c200_57 : mc_cd 200 57 = some (.getfield 300, 3) := by decide +kernel
theorem c200_60 : mc_cd 200 60 = some (.aload_n 0, 1) := by decide +kernel
theorem c200_61 : mc_cd 200 61 = some (.getfield 303, 3) := by decide +kernel
theorem c200_64 : mc_cd 200 64 = some (.invokestatic 318, 3) := by decide +kernel
theorem c200_67 : mc_cd 200 67 = some (.iastore, 1) := by decide +kernel
theorem c200_68 : mc_cd 200 68 = some (.aload_n 0, 1) := by decide +kernel
theorem c200_69 : mc_cd 200 69 = some (.getfield 166, 3) := by decide +kernel
theorem c200_72 : mc_cd 200 72 = some (.dup, 1) := by decide +kernel
theorem c200_73 : mc_cd 200 73 = some (.getfield 306, 3) := by decide +kernel
theorem c200_76 : mc_cd 200 76 = some (.iconst 1, 1) := by decide +kernel
theorem c200_77 : mc_cd 200 77 = some (.iadd, 1) := by decide +kernel
theorem c200_78 : mc_cd 200 78 = some (.putfield 306, 3) := by decide +kernel
theorem c200_81 : mc_cd 200 81 = some (.return_, 1) := by decide +kernel
abbrev q_200 (r0 : Nat) (rp : Nat) (T : wq_T) (H : wq_H) : Option Value → wq_T → wq_H → Prop := fun r T' H' => T = T' ∧ WT T H' ∧ wfr [(54, 6), (42, 8), (42, 9), (42, 10), (42, 11), (42, 12), (42, 13), (42, 14), (42, 15), (42, 17), (42, 18), (68, 999), (69, 999)] T H H' ∧ none = r ∧ (wJ H' r0 = 1) ∧ (H r0 10 ≤ H' r0 10) ∧ (wOV H r0 ≤ wOV H' r0) ∧ (wOV H' r0 ≤ 1)
set_option maxHeartbeats 4000000 in
theorem s_200 {kt : Nat → Option mc_E} {T : wq_T} {H : wq_H} {r0 : Nat} {rp : Nat} (hW : WT T H) (g0 : T.2.2.2 r0 = some 42) (qrp : H r0 4 = (rp : Int)) (grp : T.2.2.2 rp = some 54) (p0 : wJ H r0 = 1) : wpc kt 7 200 [.ref r0] T H (q_200 r0 rp T H) := by
  refine wp_enter e200 (Nat.le_of_ble_eq_true rfl) rfl ?_
  have f0 : wfr [(54, 6), (42, 8), (42, 9), (42, 10), (42, 11), (42, 12), (42, 13), (42, 14), (42, 15), (42, 17), (42, 18), (68, 999), (69, 999)] T H H := wfr.rf
  show wp _ _ 200 0 [(0, .ref r0)] [] _ H _
  have b92672 : (-2147483648) ≤ H r0 10 ∧ H r0 10 ≤ 2147483647 := hW.box g0 (n := 33) rfl (by decide) rfl
  have b92673 : 0 ≤ H r0 9 ∧ H r0 9 ≤ 5 := hW.box g0 (n := 33) rfl (by decide) rfl
  have b92674 : 0 ≤ H r0 8 ∧ H r0 8 ≤ 900 := hW.box g0 (n := 33) rfl (by decide) rfl
  have hb0 := wOV_b (H := H) (m := r0)
  refine wp_of e200 c200_0 (rw_aload_n (pc' := 1) (v := .ref r0) rfl rfl rfl ?_)
  refine wp_of e200 c200_1 (rw_aload_n (pc' := 2) (v := .ref r0) rfl rfl rfl ?_)
  refine wp_of e200 c200_2 (xg_K (pc' := 5) lf_9_166 hW g0 sh_42 (by decide) (by decide) rfl qrp rfl ?_)
  refine wp_of e200 c200_5 (xg_I (pc' := 8) lf_9_306 hW grp sh_54 (by decide) (by decide) ty_54_6 rfl rfl (fun b92675 b92676 => ?_))
  refine wp_of e200 c200_8 (rw_iconst (pc' := 9) rfl ?_)
  refine wp_of e200 c200_9 (xc_V (pc' := 12) (r := r0) (as := [vI (H rp 6), vI 4]) (st := []) (lm_9_228) rfl rfl (Nat.le_of_ble_eq_true rfl) hW g0 sh_42 (by decide) rfl (by decide) (s_188 hW g0 ⟨by omega, by omega⟩ ⟨by omega, by omega⟩ (by omega)) (fun R92677 T92678 H92679 p92680 => ?_))
  obtain ⟨e92681, w92683, f92684, e92682, p92685, p92686, p92687, p92688, p92689⟩ := p92680
  subst e92681
  subst e92682
  have f92690 := f0.tr f92684 rfl
  show wp _ _ 200 12 [(0, .ref r0)] [] _ H92679 _
  refine wp_of e200 c200_12 (rw_aload_n (pc' := 13) (v := .ref r0) rfl rfl rfl ?_)
  have k92691 : H92679 r0 4 = H r0 4 := (f92684 r0 4 _ g0 rfl)
  have q92692 : H92679 r0 4 = (rp : Int) := k92691.trans qrp
  refine wp_of e200 c200_13 (xc_V (pc' := 16) (r := r0) (as := []) (st := []) (lm_9_309) rfl rfl (Nat.le_of_ble_eq_true rfl) w92683 g0 sh_42 (by decide) rfl (by decide) (s_201 w92683 g0 q92692 grp (by omega)) (fun R92693 T92694 H92695 p92696 => ?_))
  obtain ⟨e92697, w92699, f92700, z92705, e92698, b92706, p92701, p92702, p92703, p92704⟩ := p92696
  subst e92697
  subst e92698
  have f92707 := f92690.tr f92700 rfl
  show wp _ _ 200 16 [(0, .ref r0)] [vI z92705] _ H92695 _
  refine wp_of e200 c200_16 (rw_istore_n (pc' := 17) (z := z92705) (L' := [(1, vI z92705), (0, .ref r0)]) rfl rfl rfl ?_)
  refine wp_of e200 c200_17 (rw_aload_n (pc' := 18) (v := .ref r0) rfl rfl rfl ?_)
  refine wp_of e200 c200_18 (xg_I (pc' := 21) lf_9_75 w92699 g0 sh_42 (by decide) (by decide) ty_42_9 rfl rfl (fun b92708 b92709 => ?_))
  have k92710 := wOV_e (H := H92695) (m := r0)
  refine wp_of e200 c200_21 (rw_iconst (pc' := 22) rfl ?_)
  refine wp_of e200 c200_22 (rw_icmp_ne (p1 := 26) (p2 := 25) (by decide) rfl ⟨by omega, by omega⟩ ⟨by omega, by omega⟩ (fun c92711 => ?_) (fun c92711 => ?_))
  · refine wp_of e200 c200_26 (rw_aload_n (pc' := 27) (v := .ref r0) rfl rfl rfl ?_)
    have k92712 : H92695 r0 4 = H92679 r0 4 := (f92700 r0 4 _ g0 rfl)
    have q92713 : H92695 r0 4 = (rp : Int) := k92712.trans q92692
    refine wp_of e200 c200_27 (xg_K (pc' := 30) lf_9_166 w92699 g0 sh_42 (by decide) (by decide) rfl q92713 rfl ?_)
    refine wp_of e200 c200_30 (xg_R (pc' := 33) lf_9_312 w92699 grp sh_54 (by decide) (by decide) ty_54_22 rfl rfl (fun r92714 q92715 g92716 => ?_))
    refine wp_of e200 c200_33 (rw_aload_n (pc' := 34) (v := .ref r0) rfl rfl rfl ?_)
    refine wp_of e200 c200_34 (xg_K (pc' := 37) lf_9_166 w92699 g0 sh_42 (by decide) (by decide) rfl q92713 rfl ?_)
    have k92717 : H92695 rp 6 = H rp 6 := ((f92700 rp 6 _ grp rfl).trans (f92684 rp 6 _ grp rfl))
    refine wp_of e200 c200_37 (xg_I (pc' := 40) lf_9_306 w92699 grp sh_54 (by decide) (by decide) ty_54_6 rfl rfl (fun b92718 b92719 => ?_))
    refine wp_of e200 c200_40 (rw_iload_n (pc' := 41) (z := z92705) rfl rfl ?_)
    refine wp_of e200 c200_41 (xs_I (pc' := 42) w92699 g92716 (by decide) sh_68 (by decide) (ty_68 _) (by omega) (by omega) ⟨by omega, by omega⟩ (by omega) (by omega) rfl (fun H92720 e92721 w92722 => ?_))
    have f92723 := f92707.put' e92721 g92716 rfl
    refine wp_of e200 c200_42 (rw_aload_n (pc' := 43) (v := .ref r0) rfl rfl rfl ?_)
    have k92724 : H92720 r0 4 = H92695 r0 4 := (wq_u_t e92721 g92716 g0 rfl 4)
    have q92725 : H92720 r0 4 = (rp : Int) := k92724.trans q92713
    refine wp_of e200 c200_43 (xg_K (pc' := 46) lf_9_166 w92722 g0 sh_42 (by decide) (by decide) rfl q92725 rfl ?_)
    refine wp_of e200 c200_46 (xg_R (pc' := 49) lf_9_315 w92722 grp sh_54 (by decide) (by decide) ty_54_23 rfl rfl (fun r92726 q92727 g92728 => ?_))
    refine wp_of e200 c200_49 (rw_aload_n (pc' := 50) (v := .ref r0) rfl rfl rfl ?_)
    refine wp_of e200 c200_50 (xg_K (pc' := 53) lf_9_166 w92722 g0 sh_42 (by decide) (by decide) rfl q92725 rfl ?_)
    have k92729 : H92720 rp 6 = H92695 rp 6 := (wq_u_t e92721 g92716 grp rfl 6)
    refine wp_of e200 c200_53 (xg_I (pc' := 56) lf_9_306 w92722 grp sh_54 (by decide) (by decide) ty_54_6 rfl rfl (fun b92730 b92731 => ?_))
    refine wp_of e200 c200_56 (rw_aload_n (pc' := 57) (v := .ref r0) rfl rfl rfl ?_)
    refine wp_of e200 c200_57 (xg_I (pc' := 60) lf_9_300 w92722 g0 sh_42 (by decide) (by decide) ty_42_17 rfl rfl (fun b92732 b92733 => ?_))
    refine wp_of e200 c200_60 (rw_aload_n (pc' := 61) (v := .ref r0) rfl rfl rfl ?_)
    refine wp_of e200 c200_61 (xg_I (pc' := 64) lf_9_303 w92722 g0 sh_42 (by decide) (by decide) ty_42_18 rfl rfl (fun b92734 b92735 => ?_))
    refine wp_of e200 c200_64 (xc_S (pc' := 67) (as := [vI (H92720 r0 17), vI (H92720 r0 18)]) (st := [vI (H92720 rp 6), .ref r92726]) (lm_9_318) rfl rfl (Nat.le_of_ble_eq_true rfl) rfl (by decide) (s_202 w92722 ⟨by omega, by omega⟩ ⟨by omega, by omega⟩) (fun R92736 T92737 H92738 p92739 => ?_))
    obtain ⟨e92740, e92742, z92743, e92741, b92744⟩ := p92739
    subst e92740
    subst e92741
    subst e92742
    show wp _ _ 200 67 [(1, vI z92705), (0, .ref r0)] [vI z92743, vI (H92720 rp 6), .ref r92726] _ H92720 _
    refine wp_of e200 c200_67 (xs_I (pc' := 68) w92722 g92728 (by decide) sh_69 (by decide) (ty_69 _) (by omega) (by omega) ⟨by omega, by omega⟩ (by omega) (by omega) rfl (fun H92745 e92746 w92747 => ?_))
    have f92748 := f92723.put' e92746 g92728 rfl
    refine wp_of e200 c200_68 (rw_aload_n (pc' := 69) (v := .ref r0) rfl rfl rfl ?_)
    have k92749 : H92745 r0 4 = H92720 r0 4 := (wq_u_t e92746 g92728 g0 rfl 4)
    have q92750 : H92745 r0 4 = (rp : Int) := k92749.trans q92725
    refine wp_of e200 c200_69 (xg_K (pc' := 72) lf_9_166 w92747 g0 sh_42 (by decide) (by decide) rfl q92750 rfl ?_)
    refine wp_of e200 c200_72 (rw_dup (pc' := 73) rfl rfl ?_)
    have k92751 : H92745 rp 6 = H92720 rp 6 := (wq_u_t e92746 g92728 grp rfl 6)
    refine wp_of e200 c200_73 (xg_I (pc' := 76) lf_9_306 w92747 grp sh_54 (by decide) (by decide) ty_54_6 rfl rfl (fun b92752 b92753 => ?_))
    refine wp_of e200 c200_76 (rw_iconst (pc' := 77) rfl ?_)
    refine wp_of e200 c200_77 (rw_iadd (pc' := 78) rfl ?_)
    refine wp_of e200 c200_78 (xp_I (pc' := 81) lf_9_306 w92747 grp sh_54 (by decide) (by decide) ty_54_6 rfl rfl (by omega) (by omega) ⟨by omega, by omega⟩ rfl (fun H92754 e92755 w92756 => ?_))
    have f92757 := f92748.put' e92755 grp rfl
    have k92758 : H92754 rp 6 = (H92745 rp 6) + 1 := wq_u_s e92755
    have k92759 : H92754 r0 9 = H92695 r0 9 := ((wq_u_t e92755 grp g0 rfl 9).trans ((wq_u_t e92746 g92728 g0 rfl 9).trans (wq_u_t e92721 g92716 g0 rfl 9)))
    have k92760 : H92754 r0 10 = H92695 r0 10 := ((wq_u_t e92755 grp g0 rfl 10).trans ((wq_u_t e92746 g92728 g0 rfl 10).trans (wq_u_t e92721 g92716 g0 rfl 10)))
    have k92761 : wOV H92754 r0 = wOV H92695 r0 := ((wOV_fr w92747 g0 ((wfr.rf (l := [(54, 6)])).put' e92755 grp rfl) rfl).trans ((wOV_fr w92722 g0 ((wfr.rf (l := [(69, 999)])).put' e92746 g92728 rfl) rfl).trans (wOV_fr w92699 g0 ((wfr.rf (l := [(68, 999)])).put' e92721 g92716 rfl) rfl)))
    have k92762 : wJ H92754 r0 = wJ H92695 r0 := ((wJ_fr w92747 g0 ((wfr.rf (l := [(54, 6)])).put' e92755 grp rfl) rfl).trans ((wJ_fr w92722 g0 ((wfr.rf (l := [(69, 999)])).put' e92746 g92728 rfl) rfl).trans (wJ_fr w92699 g0 ((wfr.rf (l := [(68, 999)])).put' e92721 g92716 rfl) rfl)))
    exact wp_return e200 c200_81 rfl ⟨rfl, w92756, f92757, rfl, by omega, by omega, by omega, by omega⟩
  · exact wp_return e200 c200_25 rfl ⟨rfl, w92699, f92707, rfl, by omega, by omega, by omega, by omega⟩
/-! StrikeAwakeModel.readOffer()V -/
theorem e203 : wq_en 203 = some (9, 2, false, none) := rfl
theorem c203_0 : mc_cd 203 0 = some (.aload_n 0, 1) := by decide +kernel
theorem c203_1 : mc_cd 203 1 = some (.aload_n 0, 1) := by decide +kernel
theorem c203_2 : mc_cd 203 2 = some (.getfield 166, 3) := by decide +kernel
theorem c203_5 : mc_cd 203 5 = some (.getfield 321, 3) := by decide +kernel
theorem c203_8 : mc_cd 203 8 = some (.bipush 6, 2) := by decide +kernel
theorem c203_10 : mc_cd 203 10 = some (.invokevirtual 228, 3) := by decide +kernel
theorem c203_13 : mc_cd 203 13 = some (.aload_n 0, 1) := by decide +kernel
theorem c203_14 : mc_cd 203 14 = some (.invokevirtual 309, 3) := by decide +kernel
theorem c203_17 : mc_cd 203 17 = some (.istore_n 1, 1) := by decide +kernel
theorem c203_18 : mc_cd 203 18 = some (.aload_n 0, 1) := by decide +kernel
theorem c203_19 : mc_cd 203 19 = some (.getfield 75, 3) := by decide +kernel
theorem c203_22 : mc_cd 203 22 = some (.iconst 5, 1) := by decide +kernel
theorem c203_23 : mc_cd 203 23 = some (.if_icmp .ne 4, 3) := by decide +kernel
theorem c203_26 : mc_cd 203 26 = some (.return_, 1) := by decide +kernel
theorem c203_27 : mc_cd 203 27 = some (.aload_n 0, 1) := by decide +kernel
theorem c203_28 : mc_cd 203 28 = some (.getfield 166, 3) := by decide +kernel
theorem c203_31 : mc_cd 203 31 = some (.getfield 324, 3) := by decide +kernel
theorem c203_34 : mc_cd 203 34 = some (.aload_n 0, 1) := by decide +kernel
theorem c203_35 : mc_cd 203 35 = some (.getfield 166, 3) := by decide +kernel
theorem c203_38 : mc_cd 203 38 = some (.getfield 321, 3) := by decide +kernel
theorem c203_41 : mc_cd 203 41 = some (.iload_n 1, 1) := by decide +kernel
theorem c203_42 : mc_cd 203 42 = some (.iastore, 1) := by decide +kernel
theorem c203_43 : mc_cd 203 43 = some (.aload_n 0, 1) := by decide +kernel
theorem c203_44 : mc_cd 203 44 = some (.getfield 166, 3) := by decide +kernel
theorem c203_47 : mc_cd 203 47 = some (.getfield 327, 3) := by decide +kernel
theorem c203_50 : mc_cd 203 50 = some (.aload_n 0, 1) := by decide +kernel
theorem c203_51 : mc_cd 203 51 = some (.getfield 166, 3) := by decide +kernel
theorem c203_54 : mc_cd 203 54 = some (.getfield 321, 3) := by decide +kernel
theorem c203_57 : mc_cd 203 57 = some (.aload_n 0, 1) := by decide +kernel
theorem c203_58 : mc_cd 203 58 = some (.getfield 300, 3) := by decide +kernel
theorem c203_61 : mc_cd 203 61 = some (.aload_n 0, 1) := by decide +kernel
theorem c203_62 : mc_cd 203 62 = some (.getfield 303, 3) := by decide +kernel
theorem c203_65 : mc_cd 203 65 = some (.invokestatic 318, 3) := by decide +kernel
theorem c203_68 : mc_cd 203 68 = some (.iastore, 1) := by decide +kernel
theorem c203_69 : mc_cd 203 69 = some (.aload_n 0, 1) := by decide +kernel
theorem c203_70 : mc_cd 203 70 = some (.getfield 166, 3) := by decide +kernel
theorem c203_73 : mc_cd 203 73 = some (.dup, 1) := by decide +kernel
theorem c203_74 : mc_cd 203 74 = some (.getfield 321, 3) := by decide +kernel
theorem c203_77 : mc_cd 203 77 = some (.iconst 1, 1) := by decide +kernel
theorem c203_78 : mc_cd 203 78 = some (.iadd, 1) := by decide +kernel
theorem c203_79 : mc_cd 203 79 = some (.putfield 321, 3) := by decide +kernel
theorem c203_82 : mc_cd 203 82 = some (.return_, 1) := by decide +kernel
abbrev q_203 (r0 : Nat) (rp : Nat) (T : wq_T) (H : wq_H) : Option Value → wq_T → wq_H → Prop := fun r T' H' => T = T' ∧ WT T H' ∧ wfr [(54, 7), (42, 8), (42, 9), (42, 10), (42, 11), (42, 12), (42, 13), (42, 14), (42, 15), (42, 17), (42, 18), (72, 999), (71, 999)] T H H' ∧ none = r ∧ (wJ H' r0 = 1) ∧ (H r0 10 ≤ H' r0 10) ∧ (wOV H r0 ≤ wOV H' r0) ∧ (wOV H' r0 ≤ 1)
set_option maxHeartbeats 4000000 in
theorem s_203 {kt : Nat → Option mc_E} {T : wq_T} {H : wq_H} {r0 : Nat} {rp : Nat} (hW : WT T H) (g0 : T.2.2.2 r0 = some 42) (qrp : H r0 4 = (rp : Int)) (grp : T.2.2.2 rp = some 54) (p0 : wJ H r0 = 1) : wpc kt 7 203 [.ref r0] T H (q_203 r0 rp T H) := by
  refine wp_enter e203 (Nat.le_of_ble_eq_true rfl) rfl ?_
  have f0 : wfr [(54, 7), (42, 8), (42, 9), (42, 10), (42, 11), (42, 12), (42, 13), (42, 14), (42, 15), (42, 17), (42, 18), (72, 999), (71, 999)] T H H := wfr.rf
  show wp _ _ 203 0 [(0, .ref r0)] [] _ H _
  have b92851 : (-2147483648) ≤ H r0 10 ∧ H r0 10 ≤ 2147483647 := hW.box g0 (n := 33) rfl (by decide) rfl
  have b92852 : 0 ≤ H r0 9 ∧ H r0 9 ≤ 5 := hW.box g0 (n := 33) rfl (by decide) rfl
  have b92853 : 0 ≤ H r0 8 ∧ H r0 8 ≤ 900 := hW.box g0 (n := 33) rfl (by decide) rfl
  have hb0 := wOV_b (H := H) (m := r0)
  refine wp_of e203 c203_0 (rw_aload_n (pc' := 1) (v := .ref r0) rfl rfl rfl ?_)
  refine wp_of e203 c203_1 (rw_aload_n (pc' := 2) (v := .ref r0) rfl rfl rfl ?_)
  refine wp_of e203 c203_2 (xg_K (pc' := 5) lf_9_166 hW g0 sh_42 (by decide) (by decide) rfl qrp rfl ?_)
  refine wp_of e203 c203_5 (xg_I (pc' := 8) lf_9_321 hW grp sh_54 (by decide) (by decide) ty_54_7 rfl rfl (fun b92854 b92855 => ?_))
  refine wp_of e203 c203_8 (rw_bipush (pc' := 10) (z := 6) rfl (by decide) ?_)
  refine wp_of e203 c203_10 (xc_V (pc' := 13) (r := r0) (as := [vI (H rp 7), vI 6]) (st := []) (lm_9_228) rfl rfl (Nat.le_of_ble_eq_true rfl) hW g0 sh_42 (by decide) rfl (by decide) (s_188 hW g0 ⟨by omega, by omega⟩ ⟨by omega, by omega⟩ (by omega)) (fun R92856 T92857 H92858 p92859 => ?_))
  obtain ⟨e92860, w92862, f92863, e92861, p92864, p92865, p92866, p92867, p92868⟩ := p92859
  subst e92860
  subst e92861
  have f92869 := f0.tr f92863 rfl
  show wp _ _ 203 13 [(0, .ref r0)] [] _ H92858 _
  refine wp_of e203 c203_13 (rw_aload_n (pc' := 14) (v := .ref r0) rfl rfl rfl ?_)
  have k92870 : H92858 r0 4 = H r0 4 := (f92863 r0 4 _ g0 rfl)
  have q92871 : H92858 r0 4 = (rp : Int) := k92870.trans qrp
  refine wp_of e203 c203_14 (xc_V (pc' := 17) (r := r0) (as := []) (st := []) (lm_9_309) rfl rfl (Nat.le_of_ble_eq_true rfl) w92862 g0 sh_42 (by decide) rfl (by decide) (s_201 w92862 g0 q92871 grp (by omega)) (fun R92872 T92873 H92874 p92875 => ?_))
  obtain ⟨e92876, w92878, f92879, z92884, e92877, b92885, p92880, p92881, p92882, p92883⟩ := p92875
  subst e92876
  subst e92877
  have f92886 := f92869.tr f92879 rfl
  show wp _ _ 203 17 [(0, .ref r0)] [vI z92884] _ H92874 _
  refine wp_of e203 c203_17 (rw_istore_n (pc' := 18) (z := z92884) (L' := [(1, vI z92884), (0, .ref r0)]) rfl rfl rfl ?_)
  refine wp_of e203 c203_18 (rw_aload_n (pc' := 19) (v := .ref r0) rfl rfl rfl ?_)
  refine wp_of e203 c203_19 (xg_I (pc' := 22) lf_9_75 w92878 g0 sh_42 (by decide) (by decide) ty_42_9 rfl rfl (fun b92887 b92888 => ?_))
  have k92889 := wOV_e (H := H92874) (m := r0)
  refine wp_of e203 c203_22 (rw_iconst (pc' := 23) rfl ?_)
  refine wp_of e203 c203_23 (rw_icmp_ne (p1 := 27) (p2 := 26) (by decide) rfl ⟨by omega, by omega⟩ ⟨by omega, by omega⟩ (fun c92890 => ?_) (fun c92890 => ?_))
  · refine wp_of e203 c203_27 (rw_aload_n (pc' := 28) (v := .ref r0) rfl rfl rfl ?_)
    have k92891 : H92874 r0 4 = H92858 r0 4 := (f92879 r0 4 _ g0 rfl)
    have q92892 : H92874 r0 4 = (rp : Int) := k92891.trans q92871
    refine wp_of e203 c203_28 (xg_K (pc' := 31) lf_9_166 w92878 g0 sh_42 (by decide) (by decide) rfl q92892 rfl ?_)
    refine wp_of e203 c203_31 (xg_R (pc' := 34) lf_9_324 w92878 grp sh_54 (by decide) (by decide) ty_54_25 rfl rfl (fun r92893 q92894 g92895 => ?_))
    refine wp_of e203 c203_34 (rw_aload_n (pc' := 35) (v := .ref r0) rfl rfl rfl ?_)
    refine wp_of e203 c203_35 (xg_K (pc' := 38) lf_9_166 w92878 g0 sh_42 (by decide) (by decide) rfl q92892 rfl ?_)
    have k92896 : H92874 rp 7 = H rp 7 := ((f92879 rp 7 _ grp rfl).trans (f92863 rp 7 _ grp rfl))
    refine wp_of e203 c203_38 (xg_I (pc' := 41) lf_9_321 w92878 grp sh_54 (by decide) (by decide) ty_54_7 rfl rfl (fun b92897 b92898 => ?_))
    refine wp_of e203 c203_41 (rw_iload_n (pc' := 42) (z := z92884) rfl rfl ?_)
    refine wp_of e203 c203_42 (xs_I (pc' := 43) w92878 g92895 (by decide) sh_71 (by decide) (ty_71 _) (by omega) (by omega) ⟨by omega, by omega⟩ (by omega) (by omega) rfl (fun H92899 e92900 w92901 => ?_))
    have f92902 := f92886.put' e92900 g92895 rfl
    refine wp_of e203 c203_43 (rw_aload_n (pc' := 44) (v := .ref r0) rfl rfl rfl ?_)
    have k92903 : H92899 r0 4 = H92874 r0 4 := (wq_u_t e92900 g92895 g0 rfl 4)
    have q92904 : H92899 r0 4 = (rp : Int) := k92903.trans q92892
    refine wp_of e203 c203_44 (xg_K (pc' := 47) lf_9_166 w92901 g0 sh_42 (by decide) (by decide) rfl q92904 rfl ?_)
    refine wp_of e203 c203_47 (xg_R (pc' := 50) lf_9_327 w92901 grp sh_54 (by decide) (by decide) ty_54_26 rfl rfl (fun r92905 q92906 g92907 => ?_))
    refine wp_of e203 c203_50 (rw_aload_n (pc' := 51) (v := .ref r0) rfl rfl rfl ?_)
    refine wp_of e203 c203_51 (xg_K (pc' := 54) lf_9_166 w92901 g0 sh_42 (by decide) (by decide) rfl q92904 rfl ?_)
    have k92908 : H92899 rp 7 = H92874 rp 7 := (wq_u_t e92900 g92895 grp rfl 7)
    refine wp_of e203 c203_54 (xg_I (pc' := 57) lf_9_321 w92901 grp sh_54 (by decide) (by decide) ty_54_7 rfl rfl (fun b92909 b92910 => ?_))
    refine wp_of e203 c203_57 (rw_aload_n (pc' := 58) (v := .ref r0) rfl rfl rfl ?_)
    refine wp_of e203 c203_58 (xg_I (pc' := 61) lf_9_300 w92901 g0 sh_42 (by decide) (by decide) ty_42_17 rfl rfl (fun b92911 b92912 => ?_))
    refine wp_of e203 c203_61 (rw_aload_n (pc' := 62) (v := .ref r0) rfl rfl rfl ?_)
    refine wp_of e203 c203_62 (xg_I (pc' := 65) lf_9_303 w92901 g0 sh_42 (by decide) (by decide) ty_42_18 rfl rfl (fun b92913 b92914 => ?_))
    refine wp_of e203 c203_65 (xc_S (pc' := 68) (as := [vI (H92899 r0 17), vI (H92899 r0 18)]) (st := [vI (H92899 rp 7), .ref r92905]) (lm_9_318) rfl rfl (Nat.le_of_ble_eq_true rfl) rfl (by decide) (s_202 w92901 ⟨by omega, by omega⟩ ⟨by omega, by omega⟩) (fun R92915 T92916 H92917 p92918 => ?_))
    obtain ⟨e92919, e92921, z92922, e92920, b92923⟩ := p92918
    subst e92919
    subst e92920
    subst e92921
    show wp _ _ 203 68 [(1, vI z92884), (0, .ref r0)] [vI z92922, vI (H92899 rp 7), .ref r92905] _ H92899 _
    refine wp_of e203 c203_68 (xs_I (pc' := 69) w92901 g92907 (by decide) sh_72 (by decide) (ty_72 _) (by omega) (by omega) ⟨by omega, by omega⟩ (by omega) (by omega) rfl (fun H92924 e92925 w92926 => ?_))
    have f92927 := f92902.put' e92925 g92907 rfl
    refine wp_of e203 c203_69 (rw_aload_n (pc' := 70) (v := .ref r0) rfl rfl rfl ?_)
    have k92928 : H92924 r0 4 = H92899 r0 4 := (wq_u_t e92925 g92907 g0 rfl 4)
    have q92929 : H92924 r0 4 = (rp : Int) := k92928.trans q92904
    refine wp_of e203 c203_70 (xg_K (pc' := 73) lf_9_166 w92926 g0 sh_42 (by decide) (by decide) rfl q92929 rfl ?_)
    refine wp_of e203 c203_73 (rw_dup (pc' := 74) rfl rfl ?_)
    have k92930 : H92924 rp 7 = H92899 rp 7 := (wq_u_t e92925 g92907 grp rfl 7)
    refine wp_of e203 c203_74 (xg_I (pc' := 77) lf_9_321 w92926 grp sh_54 (by decide) (by decide) ty_54_7 rfl rfl (fun b92931 b92932 => ?_))
    refine wp_of e203 c203_77 (rw_iconst (pc' := 78) rfl ?_)
    refine wp_of e203 c203_78 (rw_iadd (pc' := 79) rfl ?_)
    refine wp_of e203 c203_79 (xp_I (pc' := 82) lf_9_321 w92926 grp sh_54 (by decide) (by decide) ty_54_7 rfl rfl (by omega) (by omega) ⟨by omega, by omega⟩ rfl (fun H92933 e92934 w92935 => ?_))
    have f92936 := f92927.put' e92934 grp rfl
    have k92937 : H92933 rp 7 = (H92924 rp 7) + 1 := wq_u_s e92934
    have k92938 : H92933 r0 9 = H92874 r0 9 := ((wq_u_t e92934 grp g0 rfl 9).trans ((wq_u_t e92925 g92907 g0 rfl 9).trans (wq_u_t e92900 g92895 g0 rfl 9)))
    have k92939 : H92933 r0 10 = H92874 r0 10 := ((wq_u_t e92934 grp g0 rfl 10).trans ((wq_u_t e92925 g92907 g0 rfl 10).trans (wq_u_t e92900 g92895 g0 rfl 10)))
    have k92940 : wOV H92933 r0 = wOV H92874 r0 := ((wOV_fr w92926 g0 ((wfr.rf (l := [(54, 7)])).put' e92934 grp rfl) rfl).trans ((wOV_fr w92901 g0 ((wfr.rf (l := [(72, 999)])).put' e92925 g92907 rfl) rfl).trans (wOV_fr w92878 g0 ((wfr.rf (l := [(71, 999)])).put' e92900 g92895 rfl) rfl)))
    have k92941 : wJ H92933 r0 = wJ H92874 r0 := ((wJ_fr w92926 g0 ((wfr.rf (l := [(54, 7)])).put' e92934 grp rfl) rfl).trans ((wJ_fr w92901 g0 ((wfr.rf (l := [(72, 999)])).put' e92925 g92907 rfl) rfl).trans (wJ_fr w92878 g0 ((wfr.rf (l := [(71, 999)])).put' e92900 g92895 rfl) rfl)))
    exact wp_return e203 c203_82 rfl ⟨rfl, w92935, f92936, rfl, by omega, by omega, by omega, by omega⟩
  · exact wp_return e203 c203_26 rfl ⟨rfl, w92878, f92886, rfl, by omega, by omega, by omega, by omega⟩
/-! StrikeAwakeModel.readLine()V -/
theorem e177 : wq_en 177 = some (9, 1, false, none) := rfl
theorem c177_0 : mc_cd 177 0 = some (.aload_n 0, 1) := by decide +kernel
theorem c177_1 : mc_cd 177 1 = some (.ldc 140, 2) := by decide +kernel
theorem c177_3 : mc_cd 177 3 = some (.invokevirtual 114, 3) := by decide +kernel
theorem c177_6 : mc_cd 177 6 = some (.ifCond .eq 10, 3) := by decide +kernel
theorem c177_9 : mc_cd 177 9 = some (.aload_n 0, 1) := by decide +kernel
theorem c177_10 : mc_cd 177 10 = some (.invokevirtual 191, 3) := by decide +kernel
theorem c177_13 : mc_cd 177 13 = some (.goto 120, 3) := by decide +kernel
theorem c177_16 : mc_cd 177 16 = some (.aload_n 0, 1) := by decide +kernel
theorem c177_17 : mc_cd 177 17 = some (.ldc 142, 2) := by decide +kernel
theorem c177_19 : mc_cd 177 19 = some (.invokevirtual 114, 3) := by decide +kernel
theorem c177_22 : mc_cd 177 22 = some (.ifCond .eq 10, 3) := by decide +kernel
theorem c177_25 : mc_cd 177 25 = some (.aload_n 0, 1) := by decide +kernel
theorem c177_26 : mc_cd 177 26 = some (.invokevirtual 194, 3) := by decide +kernel
theorem c177_29 : mc_cd 177 29 = some (.goto 104, 3) := by decide +kernel
theorem c177_32 : mc_cd 177 32 = some (.aload_n 0, 1) := by decide +kernel
theorem c177_33 : mc_cd 177 33 = some (.ldc 144, 2) := by decide +kernel
theorem c177_35 : mc_cd 177 35 = some (.invokevirtual 114, 3) := by decide +kernel
theorem c177_38 : mc_cd 177 38 = some (.ifCond .eq 10, 3) := by decide +kernel
theorem c177_41 : mc_cd 177 41 = some (.aload_n 0, 1) := by decide +kernel
theorem c177_42 : mc_cd 177 42 = some (.invokevirtual 197, 3) := by decide +kernel
theorem c177_45 : mc_cd 177 45 = some (.goto 88, 3) := by decide +kernel
theorem c177_48 : mc_cd 177 48 = some (.aload_n 0, 1) := by decide +kernel
theorem c177_49 : mc_cd 177 49 = some (.ldc 146, 2) := by decide +kernel
theorem c177_51 : mc_cd 177 51 = some (.invokevirtual 114, 3) := by decide +kernel
theorem c177_54 : mc_cd 177 54 = some (.ifCond .eq 10, 3) := by decide +kernel
theorem c177_57 : mc_cd 177 57 = some (.aload_n 0, 1) := by decide +kernel
theorem c177_58 : mc_cd 177 58 = some (.invokevirtual 200, 3) := by decide +kernel
theorem c177_61 : mc_cd 177 61 = some (.goto 72, 3) := by decide +kernel
theorem c177_64 : mc_cd 177 64 = some (.aload_n 0, 1) := by decide +kernel
theorem c177_65 : mc_cd 177 65 = some (.ldc 148, 2) := by decide +kernel
theorem c177_67 : mc_cd 177 67 = some (.invokevirtual 114, 3) := by decide +kernel
theorem c177_70 : mc_cd 177 70 = some (.ifCond .eq 10, 3) := by decide +kernel
theorem c177_73 : mc_cd 177 73 = some (.aload_n 0, 1) := by decide +kernel
theorem c177_74 : mc_cd 177 74 = some (.invokevirtual 203, 3) := by decide +kernel
theorem c177_77 : mc_cd 177 77 = some (.goto 56, 3) := by decide +kernel
theorem c177_80 : mc_cd 177 80 = some (.aload_n 0, 1) := by decide +kernel
theorem c177_81 : mc_cd 177 81 = some (.ldc 150, 2) := by decide +kernel
theorem c177_83 : mc_cd 177 83 = some (.invokevirtual 114, 3) := by decide +kernel
theorem c177_86 : mc_cd 177 86 = some (.ifCond .eq 10, 3) := by decide +kernel
theorem c177_89 : mc_cd 177 89 = some (.aload_n 0, 1) := by decide +kernel
theorem c177_90 : mc_cd 177 90 = some (.invokevirtual 206, 3) := by decide +kernel
theorem c177_93 : mc_cd 177 93 = some (.goto 40, 3) := by decide +kernel
theorem c177_96 : mc_cd 177 96 = some (.aload_n 0, 1) := by decide +kernel
theorem c177_97 : mc_cd 177 97 = some (.ldc 152, 2) := by decide +kernel
theorem c177_99 : mc_cd 177 99 = some (.invokevirtual 114, 3) := by decide +kernel
theorem c177_102 : mc_cd 177 102 = some (.ifCond .eq 10, 3) := by decide +kernel
theorem c177_105 : mc_cd 177 105 = some (.aload_n 0, 1) := by decide +kernel
theorem c177_106 : mc_cd 177 106 = some (.invokevirtual 209, 3) := by decide +kernel
theorem c177_109 : mc_cd 177 109 = some (.goto 24, 3) := by decide +kernel
theorem c177_112 : mc_cd 177 112 = some (.aload_n 0, 1) := by decide +kernel
theorem c177_113 : mc_cd 177 113 = some (.ldc 154, 2) := by decide +kernel
theorem c177_115 : mc_cd 177 115 = some (.invokevirtual 114, 3) := by decide +kernel
theorem c177_118 : mc_cd 177 118 = some (.ifCond .eq 10, 3) := by decide +kernel
theorem c177_121 : mc_cd 177 121 = some (.aload_n 0, 1) := by decide +kernel
theorem c177_122 : mc_cd 177 122 = some (.invokevirtual 212, 3) := by decide +kernel
theorem c177_125 : mc_cd 177 125 = some (.goto 8, 3) := by decide +kernel
theorem c177_128 : mc_cd 177 128 = some (.aload_n 0, 1) := by decide +kernel
theorem c177_129 : mc_cd 177 129 = some (.iconst 1, 1) := by decide +kernel
theorem c177_130 : mc_cd 177 130 = some (.invokevirtual 121, 3) := by decide +kernel
theorem c177_133 : mc_cd 177 133 = some (.return_, 1) := by decide +kernel
abbrev q_177 (r0 : Nat) (rp : Nat) (T : wq_T) (H : wq_H) : Option Value → wq_T → wq_H → Prop := fun r T' H' => T = T' ∧ WT T H' ∧ wfr [(54, 0), (54, 1), (54, 2), (54, 3), (54, 4), (54, 5), (54, 6), (54, 7), (54, 8), (42, 8), (42, 9), (42, 10), (42, 11), (42, 12), (42, 13), (42, 14), (42, 15), (42, 16), (42, 17), (42, 18), (64, 999), (65, 999), (56, 999), (57, 999), (66, 999), (60, 999), (63, 999), (58, 999), (59, 999), (55, 999), (61, 999), (62, 999), (72, 999), (71, 999), (67, 999), (68, 999), (69, 999)] T H H' ∧ none = r ∧ (wJ H' r0 = 1) ∧ (H r0 10 ≤ H' r0 10) ∧ (wOV H r0 ≤ wOV H' r0) ∧ (wOV H' r0 ≤ 1) ∧ (wPI H' rp = 1) ∧ (∀ a, a ≠ rp → T.2.2.2 a = some 54 → H' a 3 = H a 3)
set_option maxHeartbeats 4000000 in
theorem s_177 {kt : Nat → Option mc_E} {T : wq_T} {H : wq_H} {r0 : Nat} {rp : Nat} (hW : WT T H) (g0 : T.2.2.2 r0 = some 42) (qrp : H r0 4 = (rp : Int)) (grp : T.2.2.2 rp = some 54) (p0 : wJ H r0 = 1) (p1 : wPI H rp = 1) : wpc kt 8 177 [.ref r0] T H (q_177 r0 rp T H) := by
  refine wp_enter e177 (Nat.le_of_ble_eq_true rfl) rfl ?_
  have f0 : wfr [(54, 0), (54, 1), (54, 2), (54, 3), (54, 4), (54, 5), (54, 6), (54, 7), (54, 8), (42, 8), (42, 9), (42, 10), (42, 11), (42, 12), (42, 13), (42, 14), (42, 15), (42, 16), (42, 17), (42, 18), (64, 999), (65, 999), (56, 999), (57, 999), (66, 999), (60, 999), (63, 999), (58, 999), (59, 999), (55, 999), (61, 999), (62, 999), (72, 999), (71, 999), (67, 999), (68, 999), (69, 999)] T H H := wfr.rf
  show wp _ _ 177 0 [(0, .ref r0)] [] _ H _
  have b93152 : (-2147483648) ≤ H r0 10 ∧ H r0 10 ≤ 2147483647 := hW.box g0 (n := 33) rfl (by decide) rfl
  have b93153 : 0 ≤ H r0 9 ∧ H r0 9 ≤ 5 := hW.box g0 (n := 33) rfl (by decide) rfl
  have b93154 : 0 ≤ H r0 8 ∧ H r0 8 ≤ 900 := hW.box g0 (n := 33) rfl (by decide) rfl
  have hb0 := wOV_b (H := H) (m := r0)
  refine wp_of e177 c177_0 (rw_aload_n (pc' := 1) (v := .ref r0) rfl rfl rfl ?_)
  refine wp_of e177 c177_1 (rw_ldcS (pc' := 3) (k := 72) rfl rfl rfl rfl ?_)
  refine wp_of e177 c177_3 (xc_V (pc' := 6) (r := r0) (as := [.ref 72]) (st := []) (lm_9_114) rfl rfl (Nat.le_of_ble_eq_true rfl) hW g0 sh_42 (by decide) rfl (by decide) (s_178 hW g0 rfl) (fun R93155 T93156 H93157 p93158 => ?_))
  obtain ⟨e93159, e93161, z93162, e93160, b93163⟩ := p93158
  subst e93159
  subst e93160
  subst e93161
  show wp _ _ 177 6 [(0, .ref r0)] [vI z93162] _ H _
  refine wp_of e177 c177_6 (rw_if_eq (p1 := 16) (p2 := 9) (by decide) rfl ⟨by omega, by omega⟩ (fun c93164 => ?_) (fun c93164 => ?_))
  · refine wp_of e177 c177_16 (rw_aload_n (pc' := 17) (v := .ref r0) rfl rfl rfl ?_)
    refine wp_of e177 c177_17 (rw_ldcS (pc' := 19) (k := 76) rfl rfl rfl rfl ?_)
    refine wp_of e177 c177_19 (xc_V (pc' := 22) (r := r0) (as := [.ref 76]) (st := []) (lm_9_114) rfl rfl (Nat.le_of_ble_eq_true rfl) hW g0 sh_42 (by decide) rfl (by decide) (s_178 hW g0 rfl) (fun R93165 T93166 H93167 p93168 => ?_))
    obtain ⟨e93169, e93171, z93172, e93170, b93173⟩ := p93168
    subst e93169
    subst e93170
    subst e93171
    show wp _ _ 177 22 [(0, .ref r0)] [vI z93172] _ H _
    refine wp_of e177 c177_22 (rw_if_eq (p1 := 32) (p2 := 25) (by decide) rfl ⟨by omega, by omega⟩ (fun c93174 => ?_) (fun c93174 => ?_))
    · refine wp_of e177 c177_32 (rw_aload_n (pc' := 33) (v := .ref r0) rfl rfl rfl ?_)
      refine wp_of e177 c177_33 (rw_ldcS (pc' := 35) (k := 77) rfl rfl rfl rfl ?_)
      refine wp_of e177 c177_35 (xc_V (pc' := 38) (r := r0) (as := [.ref 77]) (st := []) (lm_9_114) rfl rfl (Nat.le_of_ble_eq_true rfl) hW g0 sh_42 (by decide) rfl (by decide) (s_178 hW g0 rfl) (fun R93175 T93176 H93177 p93178 => ?_))
      obtain ⟨e93179, e93181, z93182, e93180, b93183⟩ := p93178
      subst e93179
      subst e93180
      subst e93181
      show wp _ _ 177 38 [(0, .ref r0)] [vI z93182] _ H _
      refine wp_of e177 c177_38 (rw_if_eq (p1 := 48) (p2 := 41) (by decide) rfl ⟨by omega, by omega⟩ (fun c93184 => ?_) (fun c93184 => ?_))
      · refine wp_of e177 c177_48 (rw_aload_n (pc' := 49) (v := .ref r0) rfl rfl rfl ?_)
        refine wp_of e177 c177_49 (rw_ldcS (pc' := 51) (k := 78) rfl rfl rfl rfl ?_)
        refine wp_of e177 c177_51 (xc_V (pc' := 54) (r := r0) (as := [.ref 78]) (st := []) (lm_9_114) rfl rfl (Nat.le_of_ble_eq_true rfl) hW g0 sh_42 (by decide) rfl (by decide) (s_178 hW g0 rfl) (fun R93185 T93186 H93187 p93188 => ?_))
        obtain ⟨e93189, e93191, z93192, e93190, b93193⟩ := p93188
        subst e93189
        subst e93190
        subst e93191
        show wp _ _ 177 54 [(0, .ref r0)] [vI z93192] _ H _
        refine wp_of e177 c177_54 (rw_if_eq (p1 := 64) (p2 := 57) (by decide) rfl ⟨by omega, by omega⟩ (fun c93194 => ?_) (fun c93194 => ?_))
        · refine wp_of e177 c177_64 (rw_aload_n (pc' := 65) (v := .ref r0) rfl rfl rfl ?_)
          refine wp_of e177 c177_65 (rw_ldcS (pc' := 67) (k := 79) rfl rfl rfl rfl ?_)
          refine wp_of e177 c177_67 (xc_V (pc' := 70) (r := r0) (as := [.ref 79]) (st := []) (lm_9_114) rfl rfl (Nat.le_of_ble_eq_true rfl) hW g0 sh_42 (by decide) rfl (by decide) (s_178 hW g0 rfl) (fun R93195 T93196 H93197 p93198 => ?_))
          obtain ⟨e93199, e93201, z93202, e93200, b93203⟩ := p93198
          subst e93199
          subst e93200
          subst e93201
          show wp _ _ 177 70 [(0, .ref r0)] [vI z93202] _ H _
          refine wp_of e177 c177_70 (rw_if_eq (p1 := 80) (p2 := 73) (by decide) rfl ⟨by omega, by omega⟩ (fun c93204 => ?_) (fun c93204 => ?_))
          · refine wp_of e177 c177_80 (rw_aload_n (pc' := 81) (v := .ref r0) rfl rfl rfl ?_)
            refine wp_of e177 c177_81 (rw_ldcS (pc' := 83) (k := 80) rfl rfl rfl rfl ?_)
            refine wp_of e177 c177_83 (xc_V (pc' := 86) (r := r0) (as := [.ref 80]) (st := []) (lm_9_114) rfl rfl (Nat.le_of_ble_eq_true rfl) hW g0 sh_42 (by decide) rfl (by decide) (s_178 hW g0 rfl) (fun R93205 T93206 H93207 p93208 => ?_))
            obtain ⟨e93209, e93211, z93212, e93210, b93213⟩ := p93208
            subst e93209
            subst e93210
            subst e93211
            show wp _ _ 177 86 [(0, .ref r0)] [vI z93212] _ H _
            refine wp_of e177 c177_86 (rw_if_eq (p1 := 96) (p2 := 89) (by decide) rfl ⟨by omega, by omega⟩ (fun c93214 => ?_) (fun c93214 => ?_))
            · refine wp_of e177 c177_96 (rw_aload_n (pc' := 97) (v := .ref r0) rfl rfl rfl ?_)
              refine wp_of e177 c177_97 (rw_ldcS (pc' := 99) (k := 81) rfl rfl rfl rfl ?_)
              refine wp_of e177 c177_99 (xc_V (pc' := 102) (r := r0) (as := [.ref 81]) (st := []) (lm_9_114) rfl rfl (Nat.le_of_ble_eq_true rfl) hW g0 sh_42 (by decide) rfl (by decide) (s_178 hW g0 rfl) (fun R93215 T93216 H93217 p93218 => ?_))
              obtain ⟨e93219, e93221, z93222, e93220, b93223⟩ := p93218
              subst e93219
              subst e93220
              subst e93221
              show wp _ _ 177 102 [(0, .ref r0)] [vI z93222] _ H _
              refine wp_of e177 c177_102 (rw_if_eq (p1 := 112) (p2 := 105) (by decide) rfl ⟨by omega, by omega⟩ (fun c93224 => ?_) (fun c93224 => ?_))
              · refine wp_of e177 c177_112 (rw_aload_n (pc' := 113) (v := .ref r0) rfl rfl rfl ?_)
                refine wp_of e177 c177_113 (rw_ldcS (pc' := 115) (k := 82) rfl rfl rfl rfl ?_)
                refine wp_of e177 c177_115 (xc_V (pc' := 118) (r := r0) (as := [.ref 82]) (st := []) (lm_9_114) rfl rfl (Nat.le_of_ble_eq_true rfl) hW g0 sh_42 (by decide) rfl (by decide) (s_178 hW g0 rfl) (fun R93225 T93226 H93227 p93228 => ?_))
                obtain ⟨e93229, e93231, z93232, e93230, b93233⟩ := p93228
                subst e93229
                subst e93230
                subst e93231
                show wp _ _ 177 118 [(0, .ref r0)] [vI z93232] _ H _
                refine wp_of e177 c177_118 (rw_if_eq (p1 := 128) (p2 := 121) (by decide) rfl ⟨by omega, by omega⟩ (fun c93234 => ?_) (fun c93234 => ?_))
                · refine wp_of e177 c177_128 (rw_aload_n (pc' := 129) (v := .ref r0) rfl rfl rfl ?_)
                  refine wp_of e177 c177_129 (rw_iconst (pc' := 130) rfl ?_)
                  refine wp_of e177 c177_130 (xc_V (pc' := 133) (r := r0) (as := [vI 1]) (st := []) (lm_9_121) rfl rfl (Nat.le_of_ble_eq_true rfl) hW g0 sh_42 (by decide) rfl (by decide) (s_181 hW g0 ⟨by omega, by omega⟩ (by omega)) (fun R93235 T93236 H93237 p93238 => ?_))
                  obtain ⟨e93239, w93241, f93242, e93240, p93243, p93244, p93245, p93246, p93247, p93248⟩ := p93238
                  subst e93239
                  subst e93240
                  have f93249 := f0.tr f93242 rfl
                  show wp _ _ 177 133 [(0, .ref r0)] [] _ H93237 _
                  have k93250 : H93237 r0 8 = H r0 8 := (f93242 r0 8 _ g0 rfl)
                  have k93251 : wPI H93237 rp = wPI H rp := (wPI_fr hW grp f93242 rfl)
                  exact wp_return e177 c177_133 rfl ⟨rfl, w93241, f93249, rfl, by omega, by omega, by omega, by omega, by omega, fun a ha ga => (f93242 a 3 _ ga rfl)⟩
                · refine wp_of e177 c177_121 (rw_aload_n (pc' := 122) (v := .ref r0) rfl rfl rfl ?_)
                  refine wp_of e177 c177_122 (xc_V (pc' := 125) (r := r0) (as := []) (st := []) (lm_9_212) rfl rfl (Nat.le_of_ble_eq_true rfl) hW g0 sh_42 (by decide) rfl (by decide) (s_203 hW g0 qrp grp (by omega)) (fun R93252 T93253 H93254 p93255 => ?_))
                  obtain ⟨e93256, w93258, f93259, e93257, p93260, p93261, p93262, p93263⟩ := p93255
                  subst e93256
                  subst e93257
                  have f93264 := f0.tr f93259 rfl
                  show wp _ _ 177 125 [(0, .ref r0)] [] _ H93254 _
                  refine wp_of e177 c177_125 (rw_goto (p1 := 133) (by decide) ?_)
                  have k93265 : wPI H93254 rp = wPI H rp := (wPI_fr hW grp f93259 rfl)
                  exact wp_return e177 c177_133 rfl ⟨rfl, w93258, f93264, rfl, by omega, by omega, by omega, by omega, by omega, fun a ha ga => (f93259 a 3 _ ga rfl)⟩
              · refine wp_of e177 c177_105 (rw_aload_n (pc' := 106) (v := .ref r0) rfl rfl rfl ?_)
                refine wp_of e177 c177_106 (xc_V (pc' := 109) (r := r0) (as := []) (st := []) (lm_9_209) rfl rfl (Nat.le_of_ble_eq_true rfl) hW g0 sh_42 (by decide) rfl (by decide) (s_200 hW g0 qrp grp (by omega)) (fun R93266 T93267 H93268 p93269 => ?_))
                obtain ⟨e93270, w93272, f93273, e93271, p93274, p93275, p93276, p93277⟩ := p93269
                subst e93270
                subst e93271
                have f93278 := f0.tr f93273 rfl
                show wp _ _ 177 109 [(0, .ref r0)] [] _ H93268 _
                refine wp_of e177 c177_109 (rw_goto (p1 := 133) (by decide) ?_)
                have k93279 : wPI H93268 rp = wPI H rp := (wPI_fr hW grp f93273 rfl)
                exact wp_return e177 c177_133 rfl ⟨rfl, w93272, f93278, rfl, by omega, by omega, by omega, by omega, by omega, fun a ha ga => (f93273 a 3 _ ga rfl)⟩
            · refine wp_of e177 c177_89 (rw_aload_n (pc' := 90) (v := .ref r0) rfl rfl rfl ?_)
              refine wp_of e177 c177_90 (xc_V (pc' := 93) (r := r0) (as := []) (st := []) (lm_9_206) rfl rfl (Nat.le_of_ble_eq_true rfl) hW g0 sh_42 (by decide) rfl (by decide) (s_199 hW g0 qrp grp (by omega)) (fun R93280 T93281 H93282 p93283 => ?_))
              obtain ⟨e93284, w93286, f93287, e93285, p93288, p93289, p93290, p93291⟩ := p93283
              subst e93284
              subst e93285
              have f93292 := f0.tr f93287 rfl
              show wp _ _ 177 93 [(0, .ref r0)] [] _ H93282 _
              refine wp_of e177 c177_93 (rw_goto (p1 := 133) (by decide) ?_)
              have k93293 : wPI H93282 rp = wPI H rp := (wPI_fr hW grp f93287 rfl)
              exact wp_return e177 c177_133 rfl ⟨rfl, w93286, f93292, rfl, by omega, by omega, by omega, by omega, by omega, fun a ha ga => (f93287 a 3 _ ga rfl)⟩
          · refine wp_of e177 c177_73 (rw_aload_n (pc' := 74) (v := .ref r0) rfl rfl rfl ?_)
            refine wp_of e177 c177_74 (xc_V (pc' := 77) (r := r0) (as := []) (st := []) (lm_9_203) rfl rfl (Nat.le_of_ble_eq_true rfl) hW g0 sh_42 (by decide) rfl (by decide) (s_198 hW g0 qrp grp (by omega)) (fun R93294 T93295 H93296 p93297 => ?_))
            obtain ⟨e93298, w93300, f93301, e93299, p93302, p93303, p93304, p93305⟩ := p93297
            subst e93298
            subst e93299
            have f93306 := f0.tr f93301 rfl
            show wp _ _ 177 77 [(0, .ref r0)] [] _ H93296 _
            refine wp_of e177 c177_77 (rw_goto (p1 := 133) (by decide) ?_)
            have k93307 : wPI H93296 rp = wPI H rp := (wPI_fr hW grp f93301 rfl)
            exact wp_return e177 c177_133 rfl ⟨rfl, w93300, f93306, rfl, by omega, by omega, by omega, by omega, by omega, fun a ha ga => (f93301 a 3 _ ga rfl)⟩
        · refine wp_of e177 c177_57 (rw_aload_n (pc' := 58) (v := .ref r0) rfl rfl rfl ?_)
          refine wp_of e177 c177_58 (xc_V (pc' := 61) (r := r0) (as := []) (st := []) (lm_9_200) rfl rfl (Nat.le_of_ble_eq_true rfl) hW g0 sh_42 (by decide) rfl (by decide) (s_196 hW g0 qrp grp (by omega)) (fun R93308 T93309 H93310 p93311 => ?_))
          obtain ⟨e93312, w93314, f93315, e93313, p93316, p93317, p93318, p93319⟩ := p93311
          subst e93312
          subst e93313
          have f93320 := f0.tr f93315 rfl
          show wp _ _ 177 61 [(0, .ref r0)] [] _ H93310 _
          refine wp_of e177 c177_61 (rw_goto (p1 := 133) (by decide) ?_)
          have k93321 : wPI H93310 rp = wPI H rp := (wPI_fr hW grp f93315 rfl)
          exact wp_return e177 c177_133 rfl ⟨rfl, w93314, f93320, rfl, by omega, by omega, by omega, by omega, by omega, fun a ha ga => (f93315 a 3 _ ga rfl)⟩
      · refine wp_of e177 c177_41 (rw_aload_n (pc' := 42) (v := .ref r0) rfl rfl rfl ?_)
        refine wp_of e177 c177_42 (xc_V (pc' := 45) (r := r0) (as := []) (st := []) (lm_9_197) rfl rfl (Nat.le_of_ble_eq_true rfl) hW g0 sh_42 (by decide) rfl (by decide) (s_193 hW g0 qrp grp (by omega)) (fun R93322 T93323 H93324 p93325 => ?_))
        obtain ⟨e93326, w93328, f93329, e93327, p93330, p93331, p93332, p93333⟩ := p93325
        subst e93326
        subst e93327
        have f93334 := f0.tr f93329 rfl
        show wp _ _ 177 45 [(0, .ref r0)] [] _ H93324 _
        refine wp_of e177 c177_45 (rw_goto (p1 := 133) (by decide) ?_)
        have k93335 : wPI H93324 rp = wPI H rp := (wPI_fr hW grp f93329 rfl)
        exact wp_return e177 c177_133 rfl ⟨rfl, w93328, f93334, rfl, by omega, by omega, by omega, by omega, by omega, fun a ha ga => (f93329 a 3 _ ga rfl)⟩
    · refine wp_of e177 c177_25 (rw_aload_n (pc' := 26) (v := .ref r0) rfl rfl rfl ?_)
      refine wp_of e177 c177_26 (xc_V (pc' := 29) (r := r0) (as := []) (st := []) (lm_9_194) rfl rfl (Nat.le_of_ble_eq_true rfl) hW g0 sh_42 (by decide) rfl (by decide) (s_187 hW g0 qrp grp (by omega) (by omega)) (fun R93336 T93337 H93338 p93339 => ?_))
      obtain ⟨e93340, w93342, f93343, e93341, p93344, p93345, p93346, p93347, p93348, p93349⟩ := p93339
      subst e93340
      subst e93341
      have f93350 := f0.tr f93343 rfl
      show wp _ _ 177 29 [(0, .ref r0)] [] _ H93338 _
      refine wp_of e177 c177_29 (rw_goto (p1 := 133) (by decide) ?_)
      exact wp_return e177 c177_133 rfl ⟨rfl, w93342, f93350, rfl, by omega, by omega, by omega, by omega, by omega, fun a ha ga => (p93349 a ha ga)⟩
  · refine wp_of e177 c177_9 (rw_aload_n (pc' := 10) (v := .ref r0) rfl rfl rfl ?_)
    refine wp_of e177 c177_10 (xc_V (pc' := 13) (r := r0) (as := []) (st := []) (lm_9_191) rfl rfl (Nat.le_of_ble_eq_true rfl) hW g0 sh_42 (by decide) rfl (by decide) (s_180 hW g0 qrp grp (by omega)) (fun R93351 T93352 H93353 p93354 => ?_))
    obtain ⟨e93355, w93357, f93358, e93356, p93359, p93360, p93361, p93362⟩ := p93354
    subst e93355
    subst e93356
    have f93363 := f0.tr f93358 rfl
    show wp _ _ 177 13 [(0, .ref r0)] [] _ H93353 _
    refine wp_of e177 c177_13 (rw_goto (p1 := 133) (by decide) ?_)
    have k93364 : wPI H93353 rp = wPI H rp := (wPI_fr hW grp f93358 rfl)
    exact wp_return e177 c177_133 rfl ⟨rfl, w93357, f93363, rfl, by omega, by omega, by omega, by omega, by omega, fun a ha ga => (f93358 a 3 _ ga rfl)⟩
/-! StrikeAwakeModel.eatsSign(I)Z -/
theorem e204 : wq_en 204 = some (9, 3, false, some FieldType.boolean) := rfl
theorem c204_0 : mc_cd 204 0 = some (.aload_n 0, 1) := by decide +kernel
theorem c204_1 : mc_cd 204 1 = some (.getfield 75, 3) := by decide +kernel
theorem c204_4 : mc_cd 204 4 = some (.iconst 4, 1) := by decide +kernel
theorem c204_5 : mc_cd 204 5 = some (.if_icmp .ne 15, 3) := by decide +kernel
theorem c204_8 : mc_cd 204 8 = some (.aload_n 0, 1) := by decide +kernel
theorem c204_9 : mc_cd 204 9 = some (.getfield 87, 3) := by decide +kernel
theorem c204_12 : mc_cd 204 12 = some (.iload_n 1, 1) := by decide +kernel
theorem c204_13 : mc_cd 204 13 = some (.if_icmp .ne 7, 3) := by decide +kernel
theorem c204_16 : mc_cd 204 16 = some (.iconst 1, 1) := by decide +kernel
theorem c204_17 : mc_cd 204 17 = some (.goto 4, 3) := by decide +kernel
theorem c204_20 : mc_cd 204 20 = some (.iconst 0, 1) := by decide +kernel
theorem c204_21 : mc_cd 204 21 = some (.istore_n 2, 1) := by decide +kernel
theorem c204_22 : mc_cd 204 22 = some (.iload_n 2, 1) := by decide +kernel
theorem c204_23 : mc_cd 204 23 = some (.ifCond .eq 7, 3) := by decide +kernel
theorem c204_26 : mc_cd 204 26 = some (.aload_n 0, 1) := by decide +kernel
theorem c204_27 : mc_cd 204 27 = some (.invokevirtual 118, 3) := by decide +kernel
theorem c204_30 : mc_cd 204 30 = some (.iload_n 2, 1) := by decide +kernel
theorem c204_31 : mc_cd 204 31 = some (.ireturn, 1) := by decide +kernel
abbrev q_204 (r0 : Nat) (a1 : Int) (T : wq_T) (H : wq_H) : Option Value → wq_T → wq_H → Prop := fun r T' H' => T = T' ∧ WT T H' ∧ wfr [(42, 8), (42, 9), (42, 10), (42, 11), (42, 12), (42, 15)] T H H' ∧ ∃ z : Int, some (vI z) = r ∧ (0 ≤ z ∧ z ≤ 1) ∧ (wJ H' r0 = 1) ∧ (H r0 10 ≤ H' r0 10) ∧ (wOV H r0 ≤ wOV H' r0) ∧ (wOV H' r0 ≤ 1) ∧ (z = 0 ∨ (H r0 10 < H' r0 10 ∧ H' r0 10 ≤ 900))
set_option maxHeartbeats 4000000 in
theorem s_204 {kt : Nat → Option mc_E} {T : wq_T} {H : wq_H} {r0 : Nat} {a1 : Int} (hW : WT T H) (g0 : T.2.2.2 r0 = some 42) (i1 : (-2147483648) ≤ a1 ∧ a1 ≤ 2147483647) (p0 : wJ H r0 = 1) : wpc kt 3 204 [.ref r0, vI a1] T H (q_204 r0 a1 T H) := by
  refine wp_enter e204 (Nat.le_of_ble_eq_true rfl) rfl ?_
  have f0 : wfr [(42, 8), (42, 9), (42, 10), (42, 11), (42, 12), (42, 15)] T H H := wfr.rf
  show wp _ _ 204 0 [(0, .ref r0), (1, vI a1)] [] _ H _
  have b93390 : (-2147483648) ≤ H r0 10 ∧ H r0 10 ≤ 2147483647 := hW.box g0 (n := 33) rfl (by decide) rfl
  have b93391 : 0 ≤ H r0 9 ∧ H r0 9 ≤ 5 := hW.box g0 (n := 33) rfl (by decide) rfl
  have b93392 : 0 ≤ H r0 8 ∧ H r0 8 ≤ 900 := hW.box g0 (n := 33) rfl (by decide) rfl
  have hb0 := wOV_b (H := H) (m := r0)
  have hj := wJ_1.mp p0
  have ho := wOV_e (H := H) (m := r0)
  refine wp_of e204 c204_0 (rw_aload_n (pc' := 1) (v := .ref r0) rfl rfl rfl ?_)
  refine wp_of e204 c204_1 (xg_I (pc' := 4) lf_9_75 hW g0 sh_42 (by decide) (by decide) ty_42_9 rfl rfl (fun b93393 b93394 => ?_))
  have k93395 := wOV_e (H := H) (m := r0)
  refine wp_of e204 c204_4 (rw_iconst (pc' := 5) rfl ?_)
  refine wp_of e204 c204_5 (rw_icmp_ne (p1 := 20) (p2 := 8) (by decide) rfl ⟨by omega, by omega⟩ ⟨by omega, by omega⟩ (fun c93396 => ?_) (fun c93396 => ?_))
  · refine wp_of e204 c204_20 (rw_iconst (pc' := 21) rfl ?_)
    refine wp_of e204 c204_21 (rw_istore_n (pc' := 22) (z := 0) (L' := [(2, vI 0), (0, .ref r0), (1, vI a1)]) rfl rfl rfl ?_)
    refine wp_of e204 c204_22 (rw_iload_n (pc' := 23) (z := 0) rfl rfl ?_)
    refine wp_of e204 c204_23 (rw_if_eq (p1 := 30) (p2 := 26) (by decide) rfl ⟨by omega, by omega⟩ (fun c93397 => ?_) (fun c93397 => ?_))
    · refine wp_of e204 c204_30 (rw_iload_n (pc' := 31) (z := 0) rfl rfl ?_)
      exact wp_zreturn e204 c204_31 rfl (by omega) ⟨rfl, hW, f0, 0, rfl, ⟨by omega, by omega⟩, by omega, by omega, by omega, by omega, by omega⟩
    · exfalso
      omega
  · refine wp_of e204 c204_8 (rw_aload_n (pc' := 9) (v := .ref r0) rfl rfl rfl ?_)
    refine wp_of e204 c204_9 (xg_I (pc' := 12) lf_9_87 hW g0 sh_42 (by decide) (by decide) ty_42_11 rfl rfl (fun b93398 b93399 => ?_))
    refine wp_of e204 c204_12 (rw_iload_n (pc' := 13) (z := a1) rfl rfl ?_)
    refine wp_of e204 c204_13 (rw_icmp_ne (p1 := 20) (p2 := 16) (by decide) rfl ⟨by omega, by omega⟩ ⟨by omega, by omega⟩ (fun c93400 => ?_) (fun c93400 => ?_))
    · refine wp_of e204 c204_20 (rw_iconst (pc' := 21) rfl ?_)
      refine wp_of e204 c204_21 (rw_istore_n (pc' := 22) (z := 0) (L' := [(2, vI 0), (0, .ref r0), (1, vI a1)]) rfl rfl rfl ?_)
      refine wp_of e204 c204_22 (rw_iload_n (pc' := 23) (z := 0) rfl rfl ?_)
      refine wp_of e204 c204_23 (rw_if_eq (p1 := 30) (p2 := 26) (by decide) rfl ⟨by omega, by omega⟩ (fun c93401 => ?_) (fun c93401 => ?_))
      · refine wp_of e204 c204_30 (rw_iload_n (pc' := 31) (z := 0) rfl rfl ?_)
        exact wp_zreturn e204 c204_31 rfl (by omega) ⟨rfl, hW, f0, 0, rfl, ⟨by omega, by omega⟩, by omega, by omega, by omega, by omega, by omega⟩
      · exfalso
        omega
    · refine wp_of e204 c204_16 (rw_iconst (pc' := 17) rfl ?_)
      refine wp_of e204 c204_17 (rw_goto (p1 := 21) (by decide) ?_)
      refine wp_of e204 c204_21 (rw_istore_n (pc' := 22) (z := 1) (L' := [(2, vI 1), (0, .ref r0), (1, vI a1)]) rfl rfl rfl ?_)
      refine wp_of e204 c204_22 (rw_iload_n (pc' := 23) (z := 1) rfl rfl ?_)
      refine wp_of e204 c204_23 (rw_if_eq (p1 := 30) (p2 := 26) (by decide) rfl ⟨by omega, by omega⟩ (fun c93402 => ?_) (fun c93402 => ?_))
      · exfalso
        omega
      · refine wp_of e204 c204_26 (rw_aload_n (pc' := 27) (v := .ref r0) rfl rfl rfl ?_)
        refine wp_of e204 c204_27 (xc_V (pc' := 30) (r := r0) (as := []) (st := []) (lm_9_118) rfl rfl (Nat.le_of_ble_eq_true rfl) hW g0 sh_42 (by decide) rfl (by decide) (s_172 hW g0 (by omega)) (fun R93403 T93404 H93405 p93406 => ?_))
        obtain ⟨e93407, w93409, f93410, e93408, p93411, p93412, p93413, p93414, p93415, p93416⟩ := p93406
        subst e93407
        subst e93408
        have f93417 := f0.tr f93410 rfl
        show wp _ _ 204 30 [(2, vI 1), (0, .ref r0), (1, vI a1)] [] _ H93405 _
        refine wp_of e204 c204_30 (rw_iload_n (pc' := 31) (z := 1) rfl rfl ?_)
        exact wp_zreturn e204 c204_31 rfl (by omega) ⟨rfl, w93409, f93417, 1, rfl, ⟨by omega, by omega⟩, by omega, by omega, by omega, by omega, by omega⟩
/-! StrikeAwakeModel.readParish()V -/
theorem e176 : wq_en 176 = some (9, 2, false, none) := rfl
theorem c176_0 : mc_cd 176 0 = some (.iconst 1, 1) := by decide +kernel
theorem c176_1 : mc_cd 176 1 = some (.istore_n 1, 1) := by decide +kernel
theorem c176_2 : mc_cd 176 2 = some (.iload_n 1, 1) := by decide +kernel
theorem c176_3 : mc_cd 176 3 = some (.ifCond .eq 17, 3) := by decide +kernel
theorem c176_6 : mc_cd 176 6 = some (.aload_n 0, 1) := by decide +kernel
theorem c176_7 : mc_cd 176 7 = some (.invokevirtual 179, 3) := by decide +kernel
theorem c176_10 : mc_cd 176 10 = some (.aload_n 0, 1) := by decide +kernel
theorem c176_11 : mc_cd 176 11 = some (.bipush 59, 2) := by decide +kernel
theorem c176_13 : mc_cd 176 13 = some (.invokevirtual 182, 3) := by decide +kernel
theorem c176_16 : mc_cd 176 16 = some (.istore_n 1, 1) := by decide +kernel
theorem c176_17 : mc_cd 176 17 = some (.goto (-15), 3) := by decide +kernel
theorem c176_20 : mc_cd 176 20 = some (.aload_n 0, 1) := by decide +kernel
theorem c176_21 : mc_cd 176 21 = some (.getfield 75, 3) := by decide +kernel
theorem c176_24 : mc_cd 176 24 = some (.iconst 1, 1) := by decide +kernel
theorem c176_25 : mc_cd 176 25 = some (.if_icmp .eq 8, 3) := by decide +kernel
theorem c176_28 : mc_cd 176 28 = some (.aload_n 0, 1) := by decide +kernel
theorem c176_29 : mc_cd 176 29 = some (.iconst 1, 1) := by decide +kernel
theorem c176_30 : mc_cd 176 30 = some (.invokevirtual 121, 3) := by decide +kernel
theorem c176_33 : mc_cd 176 33 = some (.aload_n 0, 1) := by decide +kernel
theorem c176_34 : mc_cd 176 34 = some (.getfield 166, 3) := by decide +kernel
theorem c176_37 : mc_cd 176 37 = some (.getfield 185, 3) := by decide +kernel
theorem c176_40 : mc_cd 176 40 = some (.ifCond .eq 13, 3) := by decide +kernel
theorem c176_43 : mc_cd 176 43 = some (.aload_n 0, 1) := by decide +kernel
theorem c176_44 : mc_cd 176 44 = some (.getfield 166, 3) := by decide +kernel
theorem c176_47 : mc_cd 176 47 = some (.getfield 188, 3) := by decide +kernel
theorem c176_50 : mc_cd 176 50 = some (.ifCond .ne 9, 3) := by decide +kernel
theorem c176_53 : mc_cd 176 53 = some (.aload_n 0, 1) := by decide +kernel
theorem c176_54 : mc_cd 176 54 = some (.bipush 6, 2) := by decide +kernel
theorem c176_56 : mc_cd 176 56 = some (.invokevirtual 121, 3) := by decide +kernel
theorem c176_59 : mc_cd 176 59 = some (.return_, 1) := by decide +kernel
abbrev q_176 (r0 : Nat) (rp : Nat) (T : wq_T) (H : wq_H) : Option Value → wq_T → wq_H → Prop := fun r T' H' => T = T' ∧ WT T H' ∧ wfr [(54, 0), (54, 1), (54, 2), (54, 3), (54, 4), (54, 5), (54, 6), (54, 7), (54, 8), (42, 8), (42, 9), (42, 10), (42, 11), (42, 12), (42, 13), (42, 14), (42, 15), (42, 16), (42, 17), (42, 18), (64, 999), (65, 999), (56, 999), (57, 999), (66, 999), (60, 999), (63, 999), (58, 999), (59, 999), (55, 999), (61, 999), (62, 999), (72, 999), (71, 999), (67, 999), (68, 999), (69, 999)] T H H' ∧ none = r ∧ (wJ H' r0 = 1) ∧ (H r0 10 ≤ H' r0 10) ∧ (wOV H r0 ≤ wOV H' r0) ∧ (wOV H' r0 ≤ 1) ∧ (wPI H' rp = 1) ∧ (∀ a, a ≠ rp → T.2.2.2 a = some 54 → H' a 3 = H a 3)
set_option maxHeartbeats 4000000 in
theorem s_176 {kt : Nat → Option mc_E} {T : wq_T} {H : wq_H} {r0 : Nat} {rp : Nat} (hW : WT T H) (g0 : T.2.2.2 r0 = some 42) (qrp : H r0 4 = (rp : Int)) (grp : T.2.2.2 rp = some 54) (p0 : wJ H r0 = 1) (p1 : wPI H rp = 1) : wpc kt 9 176 [.ref r0] T H (q_176 r0 rp T H) := by
  refine wp_enter e176 (Nat.le_of_ble_eq_true rfl) rfl ?_
  have f0 : wfr [(54, 0), (54, 1), (54, 2), (54, 3), (54, 4), (54, 5), (54, 6), (54, 7), (54, 8), (42, 8), (42, 9), (42, 10), (42, 11), (42, 12), (42, 13), (42, 14), (42, 15), (42, 16), (42, 17), (42, 18), (64, 999), (65, 999), (56, 999), (57, 999), (66, 999), (60, 999), (63, 999), (58, 999), (59, 999), (55, 999), (61, 999), (62, 999), (72, 999), (71, 999), (67, 999), (68, 999), (69, 999)] T H H := wfr.rf
  show wp _ _ 176 0 [(0, .ref r0)] [] _ H _
  have b93640 : (-2147483648) ≤ H r0 10 ∧ H r0 10 ≤ 2147483647 := hW.box g0 (n := 33) rfl (by decide) rfl
  have b93641 : 0 ≤ H r0 9 ∧ H r0 9 ≤ 5 := hW.box g0 (n := 33) rfl (by decide) rfl
  have b93642 : 0 ≤ H r0 8 ∧ H r0 8 ≤ 900 := hW.box g0 (n := 33) rfl (by decide) rfl
  have hb0 := wOV_b (H := H) (m := r0)
  refine wp_of e176 c176_0 (rw_iconst (pc' := 1) rfl ?_)
  refine wp_of e176 c176_1 (rw_istore_n (pc' := 2) (z := 1) (L' := [(1, vI 1), (0, .ref r0)]) rfl rfl rfl ?_)
  have lp93718 : ∀ (n93719 : Nat) (v93721 : Int) (H93722 : wq_H), WT T H93722 → wfr [(54, 0), (54, 1), (54, 2), (54, 3), (54, 4), (54, 5), (54, 6), (54, 7), (54, 8), (42, 8), (42, 9), (42, 10), (42, 11), (42, 12), (42, 13), (42, 14), (42, 15), (42, 16), (42, 17), (42, 18), (64, 999), (65, 999), (56, 999), (57, 999), (66, 999), (60, 999), (63, 999), (58, 999), (59, 999), (55, 999), (61, 999), (62, 999), (72, 999), (71, 999), (67, 999), (68, 999), (69, 999)] T H H93722 → (0 ≤ v93721 ∧ v93721 ≤ 1) → (wJ H93722 r0 = 1) → (H r0 10 ≤ H93722 r0 10) → (wOV H r0 ≤ wOV H93722 r0) → (wPI H93722 rp = 1) → (∀ a, a ≠ rp → T.2.2.2 a = some 54 → H93722 a 3 = H a 3) → (901 - H93722 r0 10).toNat + (v93721).toNat = n93719 → wp kt 8 176 2 [(1, vI v93721), (0, .ref r0)] [] T H93722 (q_176 r0 rp T H) := by
    intro n93719
    induction n93719 using Nat.strongRecOn with
    | _ n93719 ih93720 =>
      intro v93721 H93722 w93723 f93724 b93725 x93726 x93727 x93728 x93729 x93730 m93731
      have f93732 := f0.tr f93724 rfl
      refine wp_of e176 c176_2 (rw_iload_n (pc' := 3) (z := v93721) rfl rfl ?_)
      refine wp_of e176 c176_3 (rw_if_eq (p1 := 20) (p2 := 6) (by decide) rfl ⟨by omega, by omega⟩ (fun c93733 => ?_) (fun c93733 => ?_))
      · refine wp_of e176 c176_20 (rw_aload_n (pc' := 21) (v := .ref r0) rfl rfl rfl ?_)
        refine wp_of e176 c176_21 (xg_I (pc' := 24) lf_9_75 w93723 g0 sh_42 (by decide) (by decide) ty_42_9 rfl rfl (fun b93734 b93735 => ?_))
        have k93736 := wOV_e (H := H93722) (m := r0)
        refine wp_of e176 c176_24 (rw_iconst (pc' := 25) rfl ?_)
        refine wp_of e176 c176_25 (rw_icmp_eq (p1 := 33) (p2 := 28) (by decide) rfl ⟨by omega, by omega⟩ ⟨by omega, by omega⟩ (fun c93737 => ?_) (fun c93737 => ?_))
        · refine wp_of e176 c176_33 (rw_aload_n (pc' := 34) (v := .ref r0) rfl rfl rfl ?_)
          have k93738 : H93722 r0 4 = H r0 4 := (f93724 r0 4 _ g0 rfl)
          have q93739 : H93722 r0 4 = (rp : Int) := k93738.trans qrp
          refine wp_of e176 c176_34 (xg_K (pc' := 37) lf_9_166 w93723 g0 sh_42 (by decide) (by decide) rfl q93739 rfl ?_)
          refine wp_of e176 c176_37 (xg_I (pc' := 40) lf_9_185 w93723 grp sh_54 (by decide) (by decide) ty_54_0 rfl rfl (fun b93740 b93741 => ?_))
          refine wp_of e176 c176_40 (rw_if_eq (p1 := 53) (p2 := 43) (by decide) rfl ⟨by omega, by omega⟩ (fun c93742 => ?_) (fun c93742 => ?_))
          · refine wp_of e176 c176_53 (rw_aload_n (pc' := 54) (v := .ref r0) rfl rfl rfl ?_)
            refine wp_of e176 c176_54 (rw_bipush (pc' := 56) (z := 6) rfl (by decide) ?_)
            refine wp_of e176 c176_56 (xc_V (pc' := 59) (r := r0) (as := [vI 6]) (st := []) (lm_9_121) rfl rfl (Nat.le_of_ble_eq_true rfl) w93723 g0 sh_42 (by decide) rfl (by decide) (s_181 w93723 g0 ⟨by omega, by omega⟩ (by omega)) (fun R93743 T93744 H93745 p93746 => ?_))
            obtain ⟨e93747, w93749, f93750, e93748, p93751, p93752, p93753, p93754, p93755, p93756⟩ := p93746
            subst e93747
            subst e93748
            have f93757 := f93732.tr f93750 rfl
            show wp _ _ 176 59 [(1, vI v93721), (0, .ref r0)] [] _ H93745 _
            have k93758 : wPI H93745 rp = wPI H93722 rp := (wPI_fr w93723 grp f93750 rfl)
            exact wp_return e176 c176_59 rfl ⟨rfl, w93749, f93757, rfl, by omega, by omega, by omega, by omega, by omega, fun a ha ga => ((f93750 a 3 _ ga rfl).trans (x93730 a ha ga))⟩
          · refine wp_of e176 c176_43 (rw_aload_n (pc' := 44) (v := .ref r0) rfl rfl rfl ?_)
            refine wp_of e176 c176_44 (xg_K (pc' := 47) lf_9_166 w93723 g0 sh_42 (by decide) (by decide) rfl q93739 rfl ?_)
            refine wp_of e176 c176_47 (xg_I (pc' := 50) lf_9_188 w93723 grp sh_54 (by decide) (by decide) ty_54_3 rfl rfl (fun b93759 b93760 => ?_))
            refine wp_of e176 c176_50 (rw_if_ne (p1 := 59) (p2 := 53) (by decide) rfl ⟨by omega, by omega⟩ (fun c93761 => ?_) (fun c93761 => ?_))
            · exact wp_return e176 c176_59 rfl ⟨rfl, w93723, f93732, rfl, by omega, by omega, by omega, by omega, by omega, fun a ha ga => (x93730 a ha ga)⟩
            · refine wp_of e176 c176_53 (rw_aload_n (pc' := 54) (v := .ref r0) rfl rfl rfl ?_)
              refine wp_of e176 c176_54 (rw_bipush (pc' := 56) (z := 6) rfl (by decide) ?_)
              refine wp_of e176 c176_56 (xc_V (pc' := 59) (r := r0) (as := [vI 6]) (st := []) (lm_9_121) rfl rfl (Nat.le_of_ble_eq_true rfl) w93723 g0 sh_42 (by decide) rfl (by decide) (s_181 w93723 g0 ⟨by omega, by omega⟩ (by omega)) (fun R93762 T93763 H93764 p93765 => ?_))
              obtain ⟨e93766, w93768, f93769, e93767, p93770, p93771, p93772, p93773, p93774, p93775⟩ := p93765
              subst e93766
              subst e93767
              have f93776 := f93732.tr f93769 rfl
              show wp _ _ 176 59 [(1, vI v93721), (0, .ref r0)] [] _ H93764 _
              have k93777 : wPI H93764 rp = wPI H93722 rp := (wPI_fr w93723 grp f93769 rfl)
              exact wp_return e176 c176_59 rfl ⟨rfl, w93768, f93776, rfl, by omega, by omega, by omega, by omega, by omega, fun a ha ga => ((f93769 a 3 _ ga rfl).trans (x93730 a ha ga))⟩
        · refine wp_of e176 c176_28 (rw_aload_n (pc' := 29) (v := .ref r0) rfl rfl rfl ?_)
          refine wp_of e176 c176_29 (rw_iconst (pc' := 30) rfl ?_)
          refine wp_of e176 c176_30 (xc_V (pc' := 33) (r := r0) (as := [vI 1]) (st := []) (lm_9_121) rfl rfl (Nat.le_of_ble_eq_true rfl) w93723 g0 sh_42 (by decide) rfl (by decide) (s_181 w93723 g0 ⟨by omega, by omega⟩ (by omega)) (fun R93778 T93779 H93780 p93781 => ?_))
          obtain ⟨e93782, w93784, f93785, e93783, p93786, p93787, p93788, p93789, p93790, p93791⟩ := p93781
          subst e93782
          subst e93783
          have f93792 := f93732.tr f93785 rfl
          show wp _ _ 176 33 [(1, vI v93721), (0, .ref r0)] [] _ H93780 _
          refine wp_of e176 c176_33 (rw_aload_n (pc' := 34) (v := .ref r0) rfl rfl rfl ?_)
          have k93793 : H93780 r0 4 = H r0 4 := ((f93785 r0 4 _ g0 rfl).trans (f93724 r0 4 _ g0 rfl))
          have q93794 : H93780 r0 4 = (rp : Int) := k93793.trans qrp
          refine wp_of e176 c176_34 (xg_K (pc' := 37) lf_9_166 w93784 g0 sh_42 (by decide) (by decide) rfl q93794 rfl ?_)
          refine wp_of e176 c176_37 (xg_I (pc' := 40) lf_9_185 w93784 grp sh_54 (by decide) (by decide) ty_54_0 rfl rfl (fun b93795 b93796 => ?_))
          refine wp_of e176 c176_40 (rw_if_eq (p1 := 53) (p2 := 43) (by decide) rfl ⟨by omega, by omega⟩ (fun c93797 => ?_) (fun c93797 => ?_))
          · refine wp_of e176 c176_53 (rw_aload_n (pc' := 54) (v := .ref r0) rfl rfl rfl ?_)
            refine wp_of e176 c176_54 (rw_bipush (pc' := 56) (z := 6) rfl (by decide) ?_)
            refine wp_of e176 c176_56 (xc_V (pc' := 59) (r := r0) (as := [vI 6]) (st := []) (lm_9_121) rfl rfl (Nat.le_of_ble_eq_true rfl) w93784 g0 sh_42 (by decide) rfl (by decide) (s_181 w93784 g0 ⟨by omega, by omega⟩ (by omega)) (fun R93798 T93799 H93800 p93801 => ?_))
            obtain ⟨e93802, w93804, f93805, e93803, p93806, p93807, p93808, p93809, p93810, p93811⟩ := p93801
            subst e93802
            subst e93803
            have f93812 := f93792.tr f93805 rfl
            show wp _ _ 176 59 [(1, vI v93721), (0, .ref r0)] [] _ H93800 _
            have k93813 : wPI H93800 rp = wPI H93722 rp := ((wPI_fr w93784 grp f93805 rfl).trans (wPI_fr w93723 grp f93785 rfl))
            exact wp_return e176 c176_59 rfl ⟨rfl, w93804, f93812, rfl, by omega, by omega, by omega, by omega, by omega, fun a ha ga => ((f93805 a 3 _ ga rfl).trans ((f93785 a 3 _ ga rfl).trans (x93730 a ha ga)))⟩
          · refine wp_of e176 c176_43 (rw_aload_n (pc' := 44) (v := .ref r0) rfl rfl rfl ?_)
            refine wp_of e176 c176_44 (xg_K (pc' := 47) lf_9_166 w93784 g0 sh_42 (by decide) (by decide) rfl q93794 rfl ?_)
            refine wp_of e176 c176_47 (xg_I (pc' := 50) lf_9_188 w93784 grp sh_54 (by decide) (by decide) ty_54_3 rfl rfl (fun b93814 b93815 => ?_))
            refine wp_of e176 c176_50 (rw_if_ne (p1 := 59) (p2 := 53) (by decide) rfl ⟨by omega, by omega⟩ (fun c93816 => ?_) (fun c93816 => ?_))
            · have k93817 : wPI H93780 rp = wPI H93722 rp := (wPI_fr w93723 grp f93785 rfl)
              exact wp_return e176 c176_59 rfl ⟨rfl, w93784, f93792, rfl, by omega, by omega, by omega, by omega, by omega, fun a ha ga => ((f93785 a 3 _ ga rfl).trans (x93730 a ha ga))⟩
            · refine wp_of e176 c176_53 (rw_aload_n (pc' := 54) (v := .ref r0) rfl rfl rfl ?_)
              refine wp_of e176 c176_54 (rw_bipush (pc' := 56) (z := 6) rfl (by decide) ?_)
              refine wp_of e176 c176_56 (xc_V (pc' := 59) (r := r0) (as := [vI 6]) (st := []) (lm_9_121) rfl rfl (Nat.le_of_ble_eq_true rfl) w93784 g0 sh_42 (by decide) rfl (by decide) (s_181 w93784 g0 ⟨by omega, by omega⟩ (by omega)) (fun R93818 T93819 H93820 p93821 => ?_))
              obtain ⟨e93822, w93824, f93825, e93823, p93826, p93827, p93828, p93829, p93830, p93831⟩ := p93821
              subst e93822
              subst e93823
              have f93832 := f93792.tr f93825 rfl
              show wp _ _ 176 59 [(1, vI v93721), (0, .ref r0)] [] _ H93820 _
              have k93833 : wPI H93820 rp = wPI H93722 rp := ((wPI_fr w93784 grp f93825 rfl).trans (wPI_fr w93723 grp f93785 rfl))
              exact wp_return e176 c176_59 rfl ⟨rfl, w93824, f93832, rfl, by omega, by omega, by omega, by omega, by omega, fun a ha ga => ((f93825 a 3 _ ga rfl).trans ((f93785 a 3 _ ga rfl).trans (x93730 a ha ga)))⟩
      · refine wp_of e176 c176_6 (rw_aload_n (pc' := 7) (v := .ref r0) rfl rfl rfl ?_)
        have k93834 : H93722 r0 4 = H r0 4 := (f93724 r0 4 _ g0 rfl)
        have q93835 : H93722 r0 4 = (rp : Int) := k93834.trans qrp
        refine wp_of e176 c176_7 (xc_V (pc' := 10) (r := r0) (as := []) (st := []) (lm_9_179) rfl rfl (Nat.le_of_ble_eq_true rfl) w93723 g0 sh_42 (by decide) rfl (by decide) (s_177 w93723 g0 q93835 grp (by omega) (by omega)) (fun R93836 T93837 H93838 p93839 => ?_))
        obtain ⟨e93840, w93842, f93843, e93841, p93844, p93845, p93846, p93847, p93848, p93849⟩ := p93839
        subst e93840
        subst e93841
        have f93850 := f93732.tr f93843 rfl
        have f93851 := f93724.tr f93843 rfl
        show wp _ _ 176 10 [(1, vI v93721), (0, .ref r0)] [] _ H93838 _
        refine wp_of e176 c176_10 (rw_aload_n (pc' := 11) (v := .ref r0) rfl rfl rfl ?_)
        refine wp_of e176 c176_11 (rw_bipush (pc' := 13) (z := 59) rfl (by decide) ?_)
        refine wp_of e176 c176_13 (xc_V (pc' := 16) (r := r0) (as := [vI 59]) (st := []) (lm_9_182) rfl rfl (Nat.le_of_ble_eq_true rfl) w93842 g0 sh_42 (by decide) rfl (by decide) (s_204 w93842 g0 ⟨by omega, by omega⟩ (by omega)) (fun R93852 T93853 H93854 p93855 => ?_))
        obtain ⟨e93856, w93858, f93859, z93865, e93857, b93866, p93860, p93861, p93862, p93863, p93864⟩ := p93855
        subst e93856
        subst e93857
        have f93867 := f93850.tr f93859 rfl
        have f93868 := f93851.tr f93859 rfl
        show wp _ _ 176 16 [(1, vI v93721), (0, .ref r0)] [vI z93865] _ H93854 _
        refine wp_of e176 c176_16 (rw_istore_n (pc' := 17) (z := z93865) (L' := [(1, vI z93865), (0, .ref r0)]) rfl rfl rfl ?_)
        refine wp_of e176 c176_17 (rw_goto (p1 := 2) (by decide) ?_)
        have k93869 : wPI H93854 rp = wPI H93838 rp := (wPI_fr w93842 grp f93859 rfl)
        exact wp_lc (ks := [1, 0]) (wl_c rfl (wl_c rfl wl_n)) rfl (by decide) (ih93720 _ (by omega) z93865 H93854 w93858 f93868 ⟨by omega, by omega⟩ (by omega) (by omega) (by omega) (by omega) (fun a ha ga => ((f93859 a 3 _ ga rfl).trans ((p93849 a ha ga).trans (x93730 a ha ga)))) rfl)
  exact wp_lc (ks := [1, 0]) (wl_c rfl (wl_c rfl wl_n)) rfl (by decide) (lp93718 _ 1 H hW wfr.rf ⟨by omega, by omega⟩ (by omega) (by omega) (by omega) (by omega) (fun _ _ _ => rfl) rfl)
/-! StrikeAwakeModel.has(II)Z -/
theorem e205 : wq_en 205 = some (9, 2, false, some FieldType.boolean) := rfl
theorem c205_0 : mc_cd 205 0 = some (.iload_n 0, 1) := by decide +kernel
theorem c205_1 : mc_cd 205 1 = some (.iload_n 1, 1) := by decide +kernel
theorem c205_2 : mc_cd 205 2 = some (.ishr, 1) := by decide +kernel
theorem c205_3 : mc_cd 205 3 = some (.iconst 1, 1) := by decide +kernel
theorem c205_4 : mc_cd 205 4 = some (.iand, 1) := by decide +kernel
theorem c205_5 : mc_cd 205 5 = some (.iconst 1, 1) := by decide +kernel
theorem c205_6 : mc_cd 205 6 = some (.if_icmp .ne 7, 3) := by decide +kernel
theorem c205_9 : mc_cd 205 9 = some (.iconst 1, 1) := by decide +kernel
theorem c205_10 : mc_cd 205 10 = some (.goto 4, 3) := by decide +kernel
theorem c205_13 : mc_cd 205 13 = some (.iconst 0, 1) := by decide +kernel
theorem c205_14 : mc_cd 205 14 = some (.ireturn, 1) := by decide +kernel
abbrev q_205 (a0 : Int) (a1 : Int) (T : wq_T) (H : wq_H) : Option Value → wq_T → wq_H → Prop := fun r T' H' => T = T' ∧ H = H' ∧ ∃ z : Int, some (vI z) = r ∧ (0 ≤ z ∧ z ≤ 1)
set_option maxHeartbeats 4000000 in
theorem s_205 {kt : Nat → Option mc_E} {T : wq_T} {H : wq_H} {a0 : Int} {a1 : Int} (hW : WT T H) (i0 : (-2147483648) ≤ a0 ∧ a0 ≤ 2147483647) (i1 : (-2147483648) ≤ a1 ∧ a1 ≤ 2147483647) : wpc kt 1 205 [vI a0, vI a1] T H (q_205 a0 a1 T H) := by
  refine wp_enter e205 (Nat.le_of_ble_eq_true rfl) rfl ?_
  show wp _ _ 205 0 [(0, vI a0), (1, vI a1)] [] _ H _
  refine wp_of e205 c205_0 (rw_iload_n (pc' := 1) (z := a0) rfl rfl ?_)
  refine wp_of e205 c205_1 (rw_iload_n (pc' := 2) (z := a1) rfl rfl ?_)
  refine wp_of e205 c205_2 (rw_ishr (pc' := 3) rfl ?_)
  obtain ⟨v93875, e93876⟩ : ∃ x : Int, x = wq_shr a0 a1 := ⟨_, rfl⟩
  rw [← e93876]
  have b93877 : -2147483648 ≤ v93875 ∧ v93875 ≤ 2147483647 := by
    rw [e93876]
    exact wI_shr _ _
  refine wp_of e205 c205_3 (rw_iconst (pc' := 4) rfl ?_)
  refine wp_of e205 c205_4 (rw_iand (pc' := 5) rfl ?_)
  obtain ⟨v93878, e93879⟩ : ∃ x : Int, x = wq_and v93875 1 := ⟨_, rfl⟩
  rw [← e93879]
  have b93880 : 0 ≤ v93878 ∧ v93878 ≤ 1 := by
    rw [e93879]
    exact wq_and_b _ (by omega) (by omega)
  refine wp_of e205 c205_5 (rw_iconst (pc' := 6) rfl ?_)
  refine wp_of e205 c205_6 (rw_icmp_ne (p1 := 13) (p2 := 9) (by decide) rfl ⟨by omega, by omega⟩ ⟨by omega, by omega⟩ (fun c93881 => ?_) (fun c93881 => ?_))
  · refine wp_of e205 c205_13 (rw_iconst (pc' := 14) rfl ?_)
    exact wp_zreturn e205 c205_14 rfl (by omega) ⟨rfl, rfl, 0, rfl, ⟨by omega, by omega⟩⟩
  · refine wp_of e205 c205_9 (rw_iconst (pc' := 10) rfl ?_)
    refine wp_of e205 c205_10 (rw_goto (p1 := 14) (by decide) ?_)
    exact wp_zreturn e205 c205_14 rfl (by omega) ⟨rfl, rfl, 1, rfl, ⟨by omega, by omega⟩⟩
/-! StrikeAwakeModel.struckHours()I -/
theorem e207 : wq_en 207 = some (9, 3, false, some FieldType.int) := rfl
theorem c207_0 : mc_cd 207 0 = some (.iconst 0, 1) := by decide +kernel
theorem c207_1 : mc_cd 207 1 = some (.istore_n 1, 1) := by decide +kernel
theorem c207_2 : mc_cd 207 2 = some (.iconst 0, 1) := by decide +kernel
theorem c207_3 : mc_cd 207 3 = some (.istore_n 2, 1) := by decide +kernel
theorem c207_4 : mc_cd 207 4 = some (.iload_n 2, 1) := by decide +kernel
theorem c207_5 : mc_cd 207 5 = some (.bipush 24, 2) := by decide +kernel
theorem c207_7 : mc_cd 207 7 = some (.if_icmp .ge 28, 3) := by decide +kernel
theorem c207_10 : mc_cd 207 10 = some (.iload_n 1, 1) := by decide +kernel
theorem c207_11 : mc_cd 207 11 = some (.aload_n 0, 1) := by decide +kernel
theorem c207_12 : mc_cd 207 12 = some (.getfield 17, 3) := by decide +kernel
theorem c207_15 : mc_cd 207 15 = some (.iload_n 2, 1) := by decide +kernel
theorem c207_16 : mc_cd 207 16 = some (.iaload, 1) := by decide +kernel
theorem c207_17 : mc_cd 207 17 = some (.ifCond .le 9, 3) := by decide +kernel
theorem c207_20 : mc_cd 207 20 = some (.iconst 1, 1) := by decide +kernel
theorem c207_21 : mc_cd 207 21 = some (.iload_n 2, 1) := by decide +kernel
theorem c207_22 : mc_cd 207 22 = some (.ishl, 1) := by decide +kernel
theorem c207_23 : mc_cd 207 23 = some (.goto 4, 3) := by decide +kernel
theorem c207_26 : mc_cd 207 26 = some (.iconst 0, 1) := by decide +kernel
theorem c207_27 : mc_cd 207 27 = some (.ior, 1) := by decide +kernel
theorem c207_28 : mc_cd 207 28 = some (.istore_n 1, 1) := by decide +kernel
theorem c207_29 : mc_cd 207 29 = some (.iinc 2 1, 3) := by decide +kernel
theorem c207_32 : mc_cd 207 32 = some (.goto (-28), 3) := by decide +kernel
theorem c207_35 : mc_cd 207 35 = some (.iload_n 1, 1) := by decide +kernel
theorem c207_36 : mc_cd 207 36 = some (.ireturn, 1) := by decide +kernel
abbrev q_207 (r0 : Nat) (T : wq_T) (H : wq_H) : Option Value → wq_T → wq_H → Prop := fun r T' H' => T = T' ∧ H = H' ∧ ∃ z : Int, some (vI z) = r ∧ (0 ≤ z ∧ z ≤ 16777215)
set_option maxHeartbeats 4000000 in
theorem s_207 {kt : Nat → Option mc_E} {T : wq_T} {H : wq_H} {r0 : Nat} (hW : WT T H) (g0 : T.2.2.2 r0 = some 42) : wpc kt 1 207 [.ref r0] T H (q_207 r0 T H) := by
  refine wp_enter e207 (Nat.le_of_ble_eq_true rfl) rfl ?_
  show wp _ _ 207 0 [(0, .ref r0)] [] _ H _
  refine wp_of e207 c207_0 (rw_iconst (pc' := 1) rfl ?_)
  refine wp_of e207 c207_1 (rw_istore_n (pc' := 2) (z := 0) (L' := [(1, vI 0), (0, .ref r0)]) rfl rfl rfl ?_)
  refine wp_of e207 c207_2 (rw_iconst (pc' := 3) rfl ?_)
  refine wp_of e207 c207_3 (rw_istore_n (pc' := 4) (z := 0) (L' := [(2, vI 0), (1, vI 0), (0, .ref r0)]) rfl rfl rfl ?_)
  have lp94104 : ∀ (n94105 : Nat) (v94107 : Int) (v94108 : Int), (0 ≤ v94107 ∧ v94107 ≤ 24) → (0 ≤ v94108 ∧ v94108 ≤ 16777215) → (24 - v94107).toNat = n94105 → wp kt 0 207 4 [(2, vI v94107), (1, vI v94108), (0, .ref r0)] [] T H (q_207 r0 T H) := by
    intro n94105
    induction n94105 using Nat.strongRecOn with
    | _ n94105 ih94106 =>
      intro v94107 v94108 b94111 b94112 m94113
      refine wp_of e207 c207_4 (rw_iload_n (pc' := 5) (z := v94107) rfl rfl ?_)
      refine wp_of e207 c207_5 (rw_bipush (pc' := 7) (z := 24) rfl (by decide) ?_)
      refine wp_of e207 c207_7 (rw_icmp_ge (p1 := 35) (p2 := 10) (by decide) rfl ⟨by omega, by omega⟩ ⟨by omega, by omega⟩ (fun c94114 => ?_) (fun c94114 => ?_))
      · refine wp_of e207 c207_35 (rw_iload_n (pc' := 36) (z := v94108) rfl rfl ?_)
        exact wp_ireturn e207 c207_36 rfl ⟨rfl, rfl, v94108, rfl, ⟨by omega, by omega⟩⟩
      · refine wp_of e207 c207_10 (rw_iload_n (pc' := 11) (z := v94108) rfl rfl ?_)
        refine wp_of e207 c207_11 (rw_aload_n (pc' := 12) (v := .ref r0) rfl rfl rfl ?_)
        refine wp_of e207 c207_12 (xg_R (pc' := 15) lf_9_17 hW g0 sh_42 (by decide) (by decide) ty_42_20 rfl rfl (fun r94115 q94116 g94117 => ?_))
        refine wp_of e207 c207_15 (rw_iload_n (pc' := 16) (z := v94107) rfl rfl ?_)
        refine wp_of e207 c207_16 (xa_I (so := 0) (pc' := 17) hW g94117 sh_44 (by decide) (ty_44 _) (by omega) (by omega) rfl (fun b94118 b94119 => ?_))
        refine wp_of e207 c207_17 (rw_if_le (p1 := 26) (p2 := 20) (by decide) rfl ⟨by omega, by omega⟩ (fun c94120 => ?_) (fun c94120 => ?_))
        · refine wp_of e207 c207_26 (rw_iconst (pc' := 27) rfl ?_)
          refine wp_of e207 c207_27 (rw_ior (pc' := 28) rfl ?_)
          obtain ⟨v94121, e94122⟩ : ∃ x : Int, x = wq_or v94108 0 := ⟨_, rfl⟩
          rw [← e94122]
          have b94123 : 0 ≤ v94121 ∧ v94121 ≤ 16777215 := by
            rw [e94122]
            exact wq_or_24 ⟨by omega, by omega⟩ ⟨by omega, by omega⟩
          refine wp_of e207 c207_28 (rw_istore_n (pc' := 29) (z := v94121) (L' := [(1, vI v94121), (2, vI v94107), (0, .ref r0)]) rfl rfl rfl ?_)
          refine wp_of e207 c207_29 (rw_iinc (pc' := 32) (z := v94107) (L' := [(2, vI (v94107 + 1)), (1, vI v94121), (0, .ref r0)]) rfl rfl rfl rfl ?_)
          refine wp_of e207 c207_32 (rw_goto (p1 := 4) (by decide) ?_)
          exact wp_lc (ks := [2, 1, 0]) (wl_c rfl (wl_c rfl (wl_c rfl wl_n))) rfl (by decide) (ih94106 _ (by omega) (v94107 + 1) v94121 ⟨by omega, by omega⟩ ⟨by omega, by omega⟩ rfl)
        · refine wp_of e207 c207_20 (rw_iconst (pc' := 21) rfl ?_)
          refine wp_of e207 c207_21 (rw_iload_n (pc' := 22) (z := v94107) rfl rfl ?_)
          refine wp_of e207 c207_22 (rw_ishl (pc' := 23) rfl ?_)
          obtain ⟨v94124, e94125⟩ : ∃ x : Int, x = wq_shl 1 v94107 := ⟨_, rfl⟩
          rw [← e94125]
          have b94126 : 1 ≤ v94124 ∧ v94124 ≤ 8388608 := by
            rw [e94125]
            exact wq_shl1_24 ⟨by omega, by omega⟩
          refine wp_of e207 c207_23 (rw_goto (p1 := 27) (by decide) ?_)
          refine wp_of e207 c207_27 (rw_ior (pc' := 28) rfl ?_)
          obtain ⟨v94127, e94128⟩ : ∃ x : Int, x = wq_or v94108 v94124 := ⟨_, rfl⟩
          rw [← e94128]
          have b94129 : 0 ≤ v94127 ∧ v94127 ≤ 16777215 := by
            rw [e94128]
            exact wq_or_24 ⟨by omega, by omega⟩ ⟨by omega, by omega⟩
          refine wp_of e207 c207_28 (rw_istore_n (pc' := 29) (z := v94127) (L' := [(1, vI v94127), (2, vI v94107), (0, .ref r0)]) rfl rfl rfl ?_)
          refine wp_of e207 c207_29 (rw_iinc (pc' := 32) (z := v94107) (L' := [(2, vI (v94107 + 1)), (1, vI v94127), (0, .ref r0)]) rfl rfl rfl rfl ?_)
          refine wp_of e207 c207_32 (rw_goto (p1 := 4) (by decide) ?_)
          exact wp_lc (ks := [2, 1, 0]) (wl_c rfl (wl_c rfl (wl_c rfl wl_n))) rfl (by decide) (ih94106 _ (by omega) (v94107 + 1) v94127 ⟨by omega, by omega⟩ ⟨by omega, by omega⟩ rfl)
  exact wp_lc (ks := [2, 1, 0]) (wl_c rfl (wl_c rfl (wl_c rfl wl_n))) rfl (by decide) (lp94104 _ 0 0 ⟨by omega, by omega⟩ ⟨by omega, by omega⟩ rfl)
/-! StrikeAwakeModel.lay(IIIII)V -/
theorem e208 : wq_en 208 = some (9, 7, false, none) := rfl
theorem c208_0 : mc_cd 208 0 = some (.bipush 40, 2) := by decide +kernel
theorem c208_2 : mc_cd 208 2 = some (.iload_n 1, 1) := by decide +kernel
theorem c208_3 : mc_cd 208 3 = some (.imul, 1) := by decide +kernel
theorem c208_4 : mc_cd 208 4 = some (.aload_n 0, 1) := by decide +kernel
theorem c208_5 : mc_cd 208 5 = some (.getfield 21, 3) := by decide +kernel
theorem c208_8 : mc_cd 208 8 = some (.iload_n 1, 1) := by decide +kernel
theorem c208_9 : mc_cd 208 9 = some (.iaload, 1) := by decide +kernel
theorem c208_10 : mc_cd 208 10 = some (.iadd, 1) := by decide +kernel
theorem c208_11 : mc_cd 208 11 = some (.istore 6, 2) := by decide +kernel
theorem c208_13 : mc_cd 208 13 = some (.aload_n 0, 1) := by decide +kernel
theorem c208_14 : mc_cd 208 14 = some (.getfield 24, 3) := by decide +kernel
theorem c208_17 : mc_cd 208 17 = some (.iload 6, 2) := by decide +kernel
theorem c208_19 : mc_cd 208 19 = some (.iload_n 2, 1) := by decide +kernel
theorem c208_20 : mc_cd 208 20 = some (.iastore, 1) := by decide +kernel
theorem c208_21 : mc_cd 208 21 = some (.aload_n 0, 1) := by decide +kernel
theorem c208_22 : mc_cd 208 22 = some (.getfield 27, 3) := by decide +kernel
theorem c208_25 : mc_cd 208 25 = some (.iload 6, 2) := by decide +kernel
theorem c208_27 : mc_cd 208 27 = some (.iload_n 3, 1) := by decide +kernel
theorem c208_28 : mc_cd 208 28 = some (.iastore, 1) := by decide +kernel
theorem c208_29 : mc_cd 208 29 = some (.aload_n 0, 1) := by decide +kernel
theorem c208_30 : mc_cd 208 30 = some (.getfield 30, 3) := by decide +kernel
theorem c208_33 : mc_cd 208 33 = some (.iload 6, 2) := by decide +kernel
theorem c208_35 : mc_cd 208 35 = some (.iload 4, 2) := by decide +kernel
theorem c208_37 : mc_cd 208 37 = some (.iastore, 1) := by decide +kernel
theorem c208_38 : mc_cd 208 38 = some (.aload_n 0, 1) := by decide +kernel
theorem c208_39 : mc_cd 208 39 = some (.getfield 33, 3) := by decide +kernel
theorem c208_42 : mc_cd 208 42 = some (.iload 6, 2) := by decide +kernel
theorem c208_44 : mc_cd 208 44 = some (.iload 5, 2) := by decide +kernel
theorem c208_46 : mc_cd 208 46 = some (.iastore, 1) := by decide +kernel
theorem c208_47 : mc_cd 208 47 = some (.aload_n 0, 1) := by decide +kernel
theorem c208_48 : mc_cd 208 48 = some (.getfield 21, 3) := by decide +kernel
theorem c208_51 : mc_cd 208 51 = some (.iload_n 1, 1) := by decide +kernel
theorem c208_52 : mc_cd 208 52 = some (.dup2, 1) := by decide +kernel
theorem c208_53 : mc_cd 208 53 = some (.iaload, 1) := by decide +kernel
theorem c208_54 : mc_cd 208 54 = some (.iconst 1, 1) := by decide +kernel
theorem c208_55 : mc_cd 208 55 = some (.iadd, 1) := by decide +kernel
theorem c208_56 : mc_cd 208 56 = some (.iastore, 1) := by decide +kernel
theorem c208_57 : mc_cd 208 57 = some (.return_, 1) := by decide +kernel
abbrev q_208 (r0 : Nat) (a1 : Int) (a2 : Int) (a3 : Int) (a4 : Int) (a5 : Int) (sp : Nat) (T : wq_T) (H : wq_H) : Option Value → wq_T → wq_H → Prop := fun r T' H' => T = T' ∧ WT T H' ∧ wfr [(48, 999), (49, 999), (46, 999), (47, 999), (45, 999)] T H H' ∧ none = r ∧ (H' sp (a1).toNat = H sp (a1).toNat + 1)
set_option maxHeartbeats 4000000 in
theorem s_208 {kt : Nat → Option mc_E} {T : wq_T} {H : wq_H} {r0 : Nat} {a1 : Int} {a2 : Int} {a3 : Int} {a4 : Int} {a5 : Int} {sp : Nat} (hW : WT T H) (g0 : T.2.2.2 r0 = some 42) (i1 : 0 ≤ a1 ∧ a1 ≤ 5) (i2 : 0 ≤ a2 ∧ a2 ≤ 30) (i3 : 0 ≤ a3 ∧ a3 ≤ 16) (i4 : (-2147483648) ≤ a4 ∧ a4 ≤ 2147483647) (i5 : (-2147483648) ≤ a5 ∧ a5 ≤ 2147483647) (qsp : H r0 21 = (sp : Int)) (gsp : T.2.2.2 sp = some 45) (p0 : H sp (a1).toNat ≤ 39) : wpc kt 1 208 [.ref r0, vI a1, vI a2, vI a3, vI a4, vI a5] T H (q_208 r0 a1 a2 a3 a4 a5 sp T H) := by
  refine wp_enter e208 (Nat.le_of_ble_eq_true rfl) rfl ?_
  have f0 : wfr [(48, 999), (49, 999), (46, 999), (47, 999), (45, 999)] T H H := wfr.rf
  show wp _ _ 208 0 [(0, .ref r0), (1, vI a1), (2, vI a2), (3, vI a3), (4, vI a4), (5, vI a5)] [] _ H _
  refine wp_of e208 c208_0 (rw_bipush (pc' := 2) (z := 40) rfl (by decide) ?_)
  refine wp_of e208 c208_2 (rw_iload_n (pc' := 3) (z := a1) rfl rfl ?_)
  refine wp_of e208 c208_3 (rw_imul (pc' := 4) rfl ?_)
  refine wp_of e208 c208_4 (rw_aload_n (pc' := 5) (v := .ref r0) rfl rfl rfl ?_)
  refine wp_of e208 c208_5 (xg_K (pc' := 8) lf_9_21 hW g0 sh_42 (by decide) (by decide) rfl qsp rfl ?_)
  refine wp_of e208 c208_8 (rw_iload_n (pc' := 9) (z := a1) rfl rfl ?_)
  refine wp_of e208 c208_9 (xa_I (so := 0) (pc' := 10) hW gsp sh_45 (by decide) (ty_45 _) (by omega) (by omega) rfl (fun b94170 b94171 => ?_))
  refine wp_of e208 c208_10 (rw_iadd (pc' := 11) rfl ?_)
  refine wp_of e208 c208_11 (rw_istore (pc' := 13) (z := (40 * a1) + (H sp (a1.toNat))) (L' := [(6, vI ((40 * a1) + (H sp (a1.toNat)))), (0, .ref r0), (1, vI a1), (2, vI a2), (3, vI a3), (4, vI a4), (5, vI a5)]) rfl rfl rfl ?_)
  refine wp_of e208 c208_13 (rw_aload_n (pc' := 14) (v := .ref r0) rfl rfl rfl ?_)
  refine wp_of e208 c208_14 (xg_R (pc' := 17) lf_9_24 hW g0 sh_42 (by decide) (by decide) ty_42_22 rfl rfl (fun r94172 q94173 g94174 => ?_))
  refine wp_of e208 c208_17 (rw_iload (pc' := 19) (z := (40 * a1) + (H sp (a1.toNat))) rfl rfl ?_)
  refine wp_of e208 c208_19 (rw_iload_n (pc' := 20) (z := a2) rfl rfl ?_)
  refine wp_of e208 c208_20 (xs_I (pc' := 21) hW g94174 (by decide) sh_46 (by decide) (ty_46 _) (by omega) (by omega) ⟨by omega, by omega⟩ (by omega) (by omega) rfl (fun H94175 e94176 w94177 => ?_))
  have f94178 := f0.put' e94176 g94174 rfl
  refine wp_of e208 c208_21 (rw_aload_n (pc' := 22) (v := .ref r0) rfl rfl rfl ?_)
  refine wp_of e208 c208_22 (xg_R (pc' := 25) lf_9_27 w94177 g0 sh_42 (by decide) (by decide) ty_42_23 rfl rfl (fun r94179 q94180 g94181 => ?_))
  refine wp_of e208 c208_25 (rw_iload (pc' := 27) (z := (40 * a1) + (H sp (a1.toNat))) rfl rfl ?_)
  refine wp_of e208 c208_27 (rw_iload_n (pc' := 28) (z := a3) rfl rfl ?_)
  refine wp_of e208 c208_28 (xs_I (pc' := 29) w94177 g94181 (by decide) sh_47 (by decide) (ty_47 _) (by omega) (by omega) ⟨by omega, by omega⟩ (by omega) (by omega) rfl (fun H94182 e94183 w94184 => ?_))
  have f94185 := f94178.put' e94183 g94181 rfl
  refine wp_of e208 c208_29 (rw_aload_n (pc' := 30) (v := .ref r0) rfl rfl rfl ?_)
  refine wp_of e208 c208_30 (xg_R (pc' := 33) lf_9_30 w94184 g0 sh_42 (by decide) (by decide) ty_42_24 rfl rfl (fun r94186 q94187 g94188 => ?_))
  refine wp_of e208 c208_33 (rw_iload (pc' := 35) (z := (40 * a1) + (H sp (a1.toNat))) rfl rfl ?_)
  refine wp_of e208 c208_35 (rw_iload (pc' := 37) (z := a4) rfl rfl ?_)
  refine wp_of e208 c208_37 (xs_I (pc' := 38) w94184 g94188 (by decide) sh_48 (by decide) (ty_48 _) (by omega) (by omega) ⟨by omega, by omega⟩ (by omega) (by omega) rfl (fun H94189 e94190 w94191 => ?_))
  have f94192 := f94185.put' e94190 g94188 rfl
  refine wp_of e208 c208_38 (rw_aload_n (pc' := 39) (v := .ref r0) rfl rfl rfl ?_)
  refine wp_of e208 c208_39 (xg_R (pc' := 42) lf_9_33 w94191 g0 sh_42 (by decide) (by decide) ty_42_25 rfl rfl (fun r94193 q94194 g94195 => ?_))
  refine wp_of e208 c208_42 (rw_iload (pc' := 44) (z := (40 * a1) + (H sp (a1.toNat))) rfl rfl ?_)
  refine wp_of e208 c208_44 (rw_iload (pc' := 46) (z := a5) rfl rfl ?_)
  refine wp_of e208 c208_46 (xs_I (pc' := 47) w94191 g94195 (by decide) sh_49 (by decide) (ty_49 _) (by omega) (by omega) ⟨by omega, by omega⟩ (by omega) (by omega) rfl (fun H94196 e94197 w94198 => ?_))
  have f94199 := f94192.put' e94197 g94195 rfl
  refine wp_of e208 c208_47 (rw_aload_n (pc' := 48) (v := .ref r0) rfl rfl rfl ?_)
  have k94200 : H94196 r0 21 = H r0 21 := ((wq_u_t e94197 g94195 g0 rfl 21).trans ((wq_u_t e94190 g94188 g0 rfl 21).trans ((wq_u_t e94183 g94181 g0 rfl 21).trans (wq_u_t e94176 g94174 g0 rfl 21))))
  have q94201 : H94196 r0 21 = (sp : Int) := k94200.trans qsp
  refine wp_of e208 c208_48 (xg_K (pc' := 51) lf_9_21 w94198 g0 sh_42 (by decide) (by decide) rfl q94201 rfl ?_)
  refine wp_of e208 c208_51 (rw_iload_n (pc' := 52) (z := a1) rfl rfl ?_)
  refine wp_of e208 c208_52 (rw_dup2 (pc' := 53) rfl rfl rfl ?_)
  have k94202 : H94196 sp (a1.toNat) = H sp (a1.toNat) := ((wq_u_t e94197 g94195 gsp rfl (a1.toNat)).trans ((wq_u_t e94190 g94188 gsp rfl (a1.toNat)).trans ((wq_u_t e94183 g94181 gsp rfl (a1.toNat)).trans (wq_u_t e94176 g94174 gsp rfl (a1.toNat)))))
  refine wp_of e208 c208_53 (xa_I (so := 0) (pc' := 54) w94198 gsp sh_45 (by decide) (ty_45 _) (by omega) (by omega) rfl (fun b94203 b94204 => ?_))
  refine wp_of e208 c208_54 (rw_iconst (pc' := 55) rfl ?_)
  refine wp_of e208 c208_55 (rw_iadd (pc' := 56) rfl ?_)
  refine wp_of e208 c208_56 (xs_I (pc' := 57) w94198 gsp (by decide) sh_45 (by decide) (ty_45 _) (by omega) (by omega) ⟨by omega, by omega⟩ (by omega) (by omega) rfl (fun H94205 e94206 w94207 => ?_))
  have f94208 := f94199.put' e94206 gsp rfl
  have k94209 : H94205 sp (a1.toNat) = (H94196 sp (a1.toNat)) + 1 := wq_u_s e94206
  exact wp_return e208 c208_57 rfl ⟨rfl, w94207, f94208, rfl, by omega⟩
/-! StrikeAwakeModel.lays()V -/
theorem e206 : wq_en 206 = some (9, 7, false, none) := rfl
theorem c206_0 : mc_cd 206 0 = some (.aload_n 0, 1) := by decide +kernel
theorem c206_1 : mc_cd 206 1 = some (.invokevirtual 357, 3) := by decide +kernel
theorem c206_4 : mc_cd 206 4 = some (.istore_n 1, 1) := by decide +kernel
theorem c206_5 : mc_cd 206 5 = some (.iconst 0, 1) := by decide +kernel
theorem c206_6 : mc_cd 206 6 = some (.istore_n 2, 1) := by decide +kernel
theorem c206_7 : mc_cd 206 7 = some (.iload_n 2, 1) := by decide +kernel
theorem c206_8 : mc_cd 206 8 = some (.aload_n 0, 1) := by decide +kernel
theorem c206_9 : mc_cd 206 9 = some (.getfield 337, 3) := by decide +kernel
theorem c206_12 : mc_cd 206 12 = some (.getfield 188, 3) := by decide +kernel
theorem c206_15 : mc_cd 206 15 = some (.if_icmp .ge 181, 3) := by decide +kernel
theorem c206_18 : mc_cd 206 18 = some (.aload_n 0, 1) := by decide +kernel
theorem c206_19 : mc_cd 206 19 = some (.getfield 21, 3) := by decide +kernel
theorem c206_22 : mc_cd 206 22 = some (.iload_n 2, 1) := by decide +kernel
theorem c206_23 : mc_cd 206 23 = some (.iconst 0, 1) := by decide +kernel
theorem c206_24 : mc_cd 206 24 = some (.iastore, 1) := by decide +kernel
theorem c206_25 : mc_cd 206 25 = some (.aload_n 0, 1) := by decide +kernel
theorem c206_26 : mc_cd 206 26 = some (.getfield 337, 3) := by decide +kernel
theorem c206_29 : mc_cd 206 29 = some (.getfield 267, 3) := by decide +kernel
theorem c206_32 : mc_cd 206 32 = some (.iload_n 2, 1) := by decide +kernel
theorem c206_33 : mc_cd 206 33 = some (.baload, 1) := by decide +kernel
theorem c206_34 : mc_cd 206 34 = some (.ifCond .eq 15, 3) := by decide +kernel
theorem c206_37 : mc_cd 206 37 = some (.aload_n 0, 1) := by decide +kernel
theorem c206_38 : mc_cd 206 38 = some (.iload_n 2, 1) := by decide +kernel
theorem c206_39 : mc_cd 206 39 = some (.iconst 0, 1) := by decide +kernel
theorem c206_40 : mc_cd 206 40 = some (.iconst 0, 1) := by decide +kernel
theorem c206_41 : mc_cd 206 41 = some (.iconst 0, 1) := by decide +kernel
theorem c206_42 : mc_cd 206 42 = some (.iconst 0, 1) := by decide +kernel
theorem c206_43 : mc_cd 206 43 = some (.invokevirtual 360, 3) := by decide +kernel
theorem c206_46 : mc_cd 206 46 = some (.goto 144, 3) := by decide +kernel
theorem c206_49 : mc_cd 206 49 = some (.aload_n 0, 1) := by decide +kernel
theorem c206_50 : mc_cd 206 50 = some (.getfield 337, 3) := by decide +kernel
theorem c206_53 : mc_cd 206 53 = some (.getfield 261, 3) := by decide +kernel
theorem c206_56 : mc_cd 206 56 = some (.iload_n 2, 1) := by decide +kernel
theorem c206_57 : mc_cd 206 57 = some (.iaload, 1) := by decide +kernel
theorem c206_58 : mc_cd 206 58 = some (.aload_n 0, 1) := by decide +kernel
theorem c206_59 : mc_cd 206 59 = some (.getfield 337, 3) := by decide +kernel
theorem c206_62 : mc_cd 206 62 = some (.getfield 264, 3) := by decide +kernel
theorem c206_65 : mc_cd 206 65 = some (.iload_n 2, 1) := by decide +kernel
theorem c206_66 : mc_cd 206 66 = some (.iaload, 1) := by decide +kernel
theorem c206_67 : mc_cd 206 67 = some (.invokestatic 318, 3) := by decide +kernel
theorem c206_70 : mc_cd 206 70 = some (.istore_n 3, 1) := by decide +kernel
theorem c206_71 : mc_cd 206 71 = some (.aload_n 0, 1) := by decide +kernel
theorem c206_72 : mc_cd 206 72 = some (.getfield 337, 3) := by decide +kernel
theorem c206_75 : mc_cd 206 75 = some (.getfield 247, 3) := by decide +kernel
theorem c206_78 : mc_cd 206 78 = some (.iload_n 2, 1) := by decide +kernel
theorem c206_79 : mc_cd 206 79 = some (.iaload, 1) := by decide +kernel
theorem c206_80 : mc_cd 206 80 = some (.istore 4, 2) := by decide +kernel
theorem c206_82 : mc_cd 206 82 = some (.iload 4, 2) := by decide +kernel
theorem c206_84 : mc_cd 206 84 = some (.aload_n 0, 1) := by decide +kernel
theorem c206_85 : mc_cd 206 85 = some (.getfield 337, 3) := by decide +kernel
theorem c206_88 : mc_cd 206 88 = some (.getfield 250, 3) := by decide +kernel
theorem c206_91 : mc_cd 206 91 = some (.iload_n 2, 1) := by decide +kernel
theorem c206_92 : mc_cd 206 92 = some (.iaload, 1) := by decide +kernel
theorem c206_93 : mc_cd 206 93 = some (.if_icmp .gt 97, 3) := by decide +kernel
theorem c206_96 : mc_cd 206 96 = some (.aload_n 0, 1) := by decide +kernel
theorem c206_97 : mc_cd 206 97 = some (.getfield 337, 3) := by decide +kernel
theorem c206_100 : mc_cd 206 100 = some (.getfield 253, 3) := by decide +kernel
theorem c206_103 : mc_cd 206 103 = some (.iload_n 2, 1) := by decide +kernel
theorem c206_104 : mc_cd 206 104 = some (.iaload, 1) := by decide +kernel
theorem c206_105 : mc_cd 206 105 = some (.istore 5, 2) := by decide +kernel
theorem c206_107 : mc_cd 206 107 = some (.iload 5, 2) := by decide +kernel
theorem c206_109 : mc_cd 206 109 = some (.aload_n 0, 1) := by decide +kernel
theorem c206_110 : mc_cd 206 110 = some (.getfield 337, 3) := by decide +kernel
theorem c206_113 : mc_cd 206 113 = some (.getfield 256, 3) := by decide +kernel
theorem c206_116 : mc_cd 206 116 = some (.iload_n 2, 1) := by decide +kernel
theorem c206_117 : mc_cd 206 117 = some (.iaload, 1) := by decide +kernel
theorem c206_118 : mc_cd 206 118 = some (.if_icmp .gt 66, 3) := by decide +kernel
theorem c206_121 : mc_cd 206 121 = some (.iload 4, 2) := by decide +kernel
theorem c206_123 : mc_cd 206 123 = some (.iload 4, 2) := by decide +kernel
theorem c206_125 : mc_cd 206 125 = some (.iload 5, 2) := by decide +kernel
theorem c206_127 : mc_cd 206 127 = some (.iadd, 1) := by decide +kernel
theorem c206_128 : mc_cd 206 128 = some (.invokestatic 318, 3) := by decide +kernel
theorem c206_131 : mc_cd 206 131 = some (.iload_n 3, 1) := by decide +kernel
theorem c206_132 : mc_cd 206 132 = some (.ior, 1) := by decide +kernel
theorem c206_133 : mc_cd 206 133 = some (.aload_n 0, 1) := by decide +kernel
theorem c206_134 : mc_cd 206 134 = some (.getfield 343, 3) := by decide +kernel
theorem c206_137 : mc_cd 206 137 = some (.iand, 1) := by decide +kernel
theorem c206_138 : mc_cd 206 138 = some (.istore 6, 2) := by decide +kernel
theorem c206_140 : mc_cd 206 140 = some (.iload_n 2, 1) := by decide +kernel
theorem c206_141 : mc_cd 206 141 = some (.aload_n 0, 1) := by decide +kernel
theorem c206_142 : mc_cd 206 142 = some (.getfield 337, 3) := by decide +kernel
theorem c206_145 : mc_cd 206 145 = some (.getfield 271, 3) := by decide +kernel
theorem c206_148 : mc_cd 206 148 = some (.if_icmp .ne 10, 3) := by decide +kernel
theorem c206_151 : mc_cd 206 151 = some (.iload 6, 2) := by decide +kernel
theorem c206_153 : mc_cd 206 153 = some (.iload_n 1, 1) := by decide +kernel
theorem c206_154 : mc_cd 206 154 = some (.iand, 1) := by decide +kernel
theorem c206_155 : mc_cd 206 155 = some (.ifCond .ne 23, 3) := by decide +kernel
theorem c206_158 : mc_cd 206 158 = some (.aload_n 0, 1) := by decide +kernel
theorem c206_159 : mc_cd 206 159 = some (.iload_n 2, 1) := by decide +kernel
theorem c206_160 : mc_cd 206 160 = some (.iload 4, 2) := by decide +kernel
theorem c206_162 : mc_cd 206 162 = some (.iload 5, 2) := by decide +kernel
theorem c206_164 : mc_cd 206 164 = some (.iload 6, 2) := by decide +kernel
theorem c206_166 : mc_cd 206 166 = some (.aload_n 0, 1) := by decide +kernel
theorem c206_167 : mc_cd 206 167 = some (.getfield 343, 3) := by decide +kernel
theorem c206_170 : mc_cd 206 170 = some (.iload 6, 2) := by decide +kernel
theorem c206_172 : mc_cd 206 172 = some (.iconst (-1), 1) := by decide +kernel
theorem c206_173 : mc_cd 206 173 = some (.ixor, 1) := by decide +kernel
theorem c206_174 : mc_cd 206 174 = some (.iand, 1) := by decide +kernel
theorem c206_175 : mc_cd 206 175 = some (.invokevirtual 360, 3) := by decide +kernel
theorem c206_178 : mc_cd 206 178 = some (.iinc 5 1, 3) := by decide +kernel
theorem c206_181 : mc_cd 206 181 = some (.goto (-74), 3) := by decide +kernel
theorem c206_184 : mc_cd 206 184 = some (.iinc 4 1, 3) := by decide +kernel
theorem c206_187 : mc_cd 206 187 = some (.goto (-105), 3) := by decide +kernel
theorem c206_190 : mc_cd 206 190 = some (.iinc 2 1, 3) := by decide +kernel
theorem c206_193 : mc_cd 206 193 = some (.goto (-186), 3) := by decide +kernel
theorem c206_196 : mc_cd 206 196 = some (.return_, 1) := by decide +kernel
abbrev q_206 (r0 : Nat) (pp : Nat) (T : wq_T) (H : wq_H) : Option Value → wq_T → wq_H → Prop := fun r T' H' => T = T' ∧ WT T H' ∧ wfr [(48, 999), (49, 999), (46, 999), (47, 999), (45, 999)] T H H' ∧ none = r
set_option maxHeartbeats 4000000 in
theorem s_206 {kt : Nat → Option mc_E} {T : wq_T} {H : wq_H} {r0 : Nat} {pp : Nat} (hW : WT T H) (g0 : T.2.2.2 r0 = some 42) (qpp : H r0 3 = (pp : Int)) (gpp : T.2.2.2 pp = some 54) (p0 : wPI H pp = 1) : wpc kt 2 206 [.ref r0] T H (q_206 r0 pp T H) := by
  refine wp_enter e206 (Nat.le_of_ble_eq_true rfl) rfl ?_
  have f0 : wfr [(48, 999), (49, 999), (46, 999), (47, 999), (45, 999)] T H H := wfr.rf
  show wp _ _ 206 0 [(0, .ref r0)] [] _ H _
  refine wp_of e206 c206_0 (rw_aload_n (pc' := 1) (v := .ref r0) rfl rfl rfl ?_)
  refine wp_of e206 c206_1 (xc_V (pc' := 4) (r := r0) (as := []) (st := []) (lm_9_357) rfl rfl (Nat.le_of_ble_eq_true rfl) hW g0 sh_42 (by decide) rfl (by decide) (s_207 hW g0) (fun R110972 T110973 H110974 p110975 => ?_))
  obtain ⟨e110976, e110978, z110979, e110977, b110980⟩ := p110975
  subst e110976
  subst e110977
  subst e110978
  show wp _ _ 206 4 [(0, .ref r0)] [vI z110979] _ H _
  refine wp_of e206 c206_4 (rw_istore_n (pc' := 5) (z := z110979) (L' := [(1, vI z110979), (0, .ref r0)]) rfl rfl rfl ?_)
  refine wp_of e206 c206_5 (rw_iconst (pc' := 6) rfl ?_)
  refine wp_of e206 c206_6 (rw_istore_n (pc' := 7) (z := 0) (L' := [(2, vI 0), (1, vI z110979), (0, .ref r0)]) rfl rfl rfl ?_)
  have lp125639 : ∀ (n125640 : Nat) (v125642 : Int) (H125643 : wq_H), WT T H125643 → wfr [(48, 999), (49, 999), (46, 999), (47, 999), (45, 999)] T H H125643 → (0 ≤ v125642 ∧ v125642 ≤ 6) → (wPI H125643 pp = 1) → (6 - v125642).toNat = n125640 → wp kt 1 206 7 [(2, vI v125642), (1, vI z110979), (0, .ref r0)] [] T H125643 (q_206 r0 pp T H) := by
    intro n125640
    induction n125640 using Nat.strongRecOn with
    | _ n125640 ih125641 =>
      intro v125642 H125643 w125644 f125645 b125646 x125647 m125648
      have f125649 := f0.tr f125645 rfl
      have k125650 : wPI H125643 pp = wPI H pp := (wPI_fr hW gpp f125645 rfl)
      refine wp_of e206 c206_7 (rw_iload_n (pc' := 8) (z := v125642) rfl rfl ?_)
      refine wp_of e206 c206_8 (rw_aload_n (pc' := 9) (v := .ref r0) rfl rfl rfl ?_)
      have k125651 : H125643 r0 3 = H r0 3 := (f125645 r0 3 _ g0 rfl)
      have q125652 : H125643 r0 3 = (pp : Int) := k125651.trans qpp
      refine wp_of e206 c206_9 (xg_K (pc' := 12) lf_9_337 w125644 g0 sh_42 (by decide) (by decide) rfl q125652 rfl ?_)
      refine wp_of e206 c206_12 (xg_I (pc' := 15) lf_9_188 w125644 gpp sh_54 (by decide) (by decide) ty_54_3 rfl rfl (fun b125653 b125654 => ?_))
      refine wp_of e206 c206_15 (rw_icmp_ge (p1 := 196) (p2 := 18) (by decide) rfl ⟨by omega, by omega⟩ ⟨by omega, by omega⟩ (fun c125655 => ?_) (fun c125655 => ?_))
      · exact wp_return e206 c206_196 rfl ⟨rfl, w125644, f125649, rfl⟩
      · refine wp_of e206 c206_18 (rw_aload_n (pc' := 19) (v := .ref r0) rfl rfl rfl ?_)
        refine wp_of e206 c206_19 (xg_R (pc' := 22) lf_9_21 w125644 g0 sh_42 (by decide) (by decide) ty_42_21 rfl rfl (fun r125656 q125657 g125658 => ?_))
        refine wp_of e206 c206_22 (rw_iload_n (pc' := 23) (z := v125642) rfl rfl ?_)
        refine wp_of e206 c206_23 (rw_iconst (pc' := 24) rfl ?_)
        refine wp_of e206 c206_24 (xs_I (pc' := 25) w125644 g125658 (by decide) sh_45 (by decide) (ty_45 _) (by omega) (by omega) ⟨by omega, by omega⟩ (by omega) (by omega) rfl (fun H125659 e125660 w125661 => ?_))
        have f125662 := f125649.put' e125660 g125658 rfl
        have f125663 := f125645.put' e125660 g125658 rfl
        have k125664 : H125659 r125656 (v125642.toNat) = 0 := wq_u_s e125660
        refine wp_of e206 c206_25 (rw_aload_n (pc' := 26) (v := .ref r0) rfl rfl rfl ?_)
        have k125665 : H125659 r0 3 = H125643 r0 3 := (wq_u_t e125660 g125658 g0 rfl 3)
        have q125666 : H125659 r0 3 = (pp : Int) := k125665.trans q125652
        refine wp_of e206 c206_26 (xg_K (pc' := 29) lf_9_337 w125661 g0 sh_42 (by decide) (by decide) rfl q125666 rfl ?_)
        refine wp_of e206 c206_29 (xg_R (pc' := 32) lf_9_267 w125661 gpp sh_54 (by decide) (by decide) ty_54_17 rfl rfl (fun r125667 q125668 g125669 => ?_))
        refine wp_of e206 c206_32 (rw_iload_n (pc' := 33) (z := v125642) rfl rfl ?_)
        refine wp_of e206 c206_33 (xa_B (by decide) (pc' := 34) w125661 g125669 sh_63 (by decide) (ty_63 _) (by omega) (by omega) rfl (fun b125670 b125671 => ?_))
        refine wp_of e206 c206_34 (rw_if_eq (p1 := 49) (p2 := 37) (by decide) rfl ⟨by omega, by omega⟩ (fun c125672 => ?_) (fun c125672 => ?_))
        · refine wp_of e206 c206_49 (rw_aload_n (pc' := 50) (v := .ref r0) rfl rfl rfl ?_)
          refine wp_of e206 c206_50 (xg_K (pc' := 53) lf_9_337 w125661 g0 sh_42 (by decide) (by decide) rfl q125666 rfl ?_)
          refine wp_of e206 c206_53 (xg_R (pc' := 56) lf_9_261 w125661 gpp sh_54 (by decide) (by decide) ty_54_15 rfl rfl (fun r125673 q125674 g125675 => ?_))
          refine wp_of e206 c206_56 (rw_iload_n (pc' := 57) (z := v125642) rfl rfl ?_)
          refine wp_of e206 c206_57 (xa_I (so := 0) (pc' := 58) w125661 g125675 sh_61 (by decide) (ty_61 _) (by omega) (by omega) rfl (fun b125676 b125677 => ?_))
          refine wp_of e206 c206_58 (rw_aload_n (pc' := 59) (v := .ref r0) rfl rfl rfl ?_)
          refine wp_of e206 c206_59 (xg_K (pc' := 62) lf_9_337 w125661 g0 sh_42 (by decide) (by decide) rfl q125666 rfl ?_)
          refine wp_of e206 c206_62 (xg_R (pc' := 65) lf_9_264 w125661 gpp sh_54 (by decide) (by decide) ty_54_16 rfl rfl (fun r125678 q125679 g125680 => ?_))
          refine wp_of e206 c206_65 (rw_iload_n (pc' := 66) (z := v125642) rfl rfl ?_)
          refine wp_of e206 c206_66 (xa_I (so := 0) (pc' := 67) w125661 g125680 sh_62 (by decide) (ty_62 _) (by omega) (by omega) rfl (fun b125681 b125682 => ?_))
          refine wp_of e206 c206_67 (xc_S (pc' := 70) (as := [vI (H125659 r125673 (v125642.toNat)), vI (H125659 r125678 (v125642.toNat))]) (st := []) (lm_9_318) rfl rfl (Nat.le_of_ble_eq_true rfl) rfl (by decide) (s_202 w125661 ⟨by omega, by omega⟩ ⟨by omega, by omega⟩) (fun R125683 T125684 H125685 p125686 => ?_))
          obtain ⟨e125687, e125689, z125690, e125688, b125691⟩ := p125686
          subst e125687
          subst e125688
          subst e125689
          show wp _ _ 206 70 [(2, vI v125642), (1, vI z110979), (0, .ref r0)] [vI z125690] _ H125659 _
          refine wp_of e206 c206_70 (rw_istore_n (pc' := 71) (z := z125690) (L' := [(3, vI z125690), (2, vI v125642), (1, vI z110979), (0, .ref r0)]) rfl rfl rfl ?_)
          refine wp_of e206 c206_71 (rw_aload_n (pc' := 72) (v := .ref r0) rfl rfl rfl ?_)
          refine wp_of e206 c206_72 (xg_K (pc' := 75) lf_9_337 w125661 g0 sh_42 (by decide) (by decide) rfl q125666 rfl ?_)
          refine wp_of e206 c206_75 (xg_R (pc' := 78) lf_9_247 w125661 gpp sh_54 (by decide) (by decide) ty_54_10 rfl rfl (fun r125692 q125693 g125694 => ?_))
          refine wp_of e206 c206_78 (rw_iload_n (pc' := 79) (z := v125642) rfl rfl ?_)
          refine wp_of e206 c206_79 (xa_I (so := 0) (pc' := 80) w125661 g125694 sh_56 (by decide) (ty_56 _) (by omega) (by omega) rfl (fun b125695 b125696 => ?_))
          refine wp_of e206 c206_80 (rw_istore (pc' := 82) (z := H125659 r125692 (v125642.toNat)) (L' := [(4, vI (H125659 r125692 (v125642.toNat))), (3, vI z125690), (2, vI v125642), (1, vI z110979), (0, .ref r0)]) rfl rfl rfl ?_)
          have k127449 : H125659 r0 21 = H125643 r0 21 := (wq_u_t e125660 g125658 g0 rfl 21)
          have q127450 : H125659 r0 21 = (r125656 : Int) := k127449.trans q125657
          have k127451 : wPI H125659 pp = wPI H125643 pp := (wPI_fr w125644 gpp ((wfr.rf (l := [(45, 999)])).put' e125660 g125658 rfl) rfl)
          have lp127444 : ∀ (n127445 : Nat) (v127447 : Int) (H127448 : wq_H), WT T H127448 → wfr [(48, 999), (49, 999), (46, 999), (47, 999), (45, 999)] T H125659 H127448 → (0 ≤ v127447 ∧ v127447 ≤ 31) → (H127448 r125656 (v125642).toNat ≤ 5 * (v127447 - H127448 r125692 (v125642).toNat)) → (H127448 r125692 (v125642).toNat ≤ v127447) → (wPI H127448 pp = 1) → (31 - v127447).toNat = n127445 → wp kt 1 206 82 [(4, vI v127447), (3, vI z125690), (2, vI v125642), (1, vI z110979), (0, .ref r0)] [] T H127448 (q_206 r0 pp T H) := by
            intro n127445
            induction n127445 using Nat.strongRecOn with
            | _ n127445 ih127446 =>
              intro v127447 H127448 w127452 f127453 b127454 x127455 x127456 x127457 m127458
              have f127459 := f125662.tr f127453 rfl
              have f127460 := f125663.tr f127453 rfl
              have k127461 : H127448 r0 21 = H125659 r0 21 := (f127453 r0 21 _ g0 rfl)
              have q127462 : H127448 r0 21 = (r125656 : Int) := k127461.trans q127450
              have k127463 : H127448 pp 10 = H125659 pp 10 := (f127453 pp 10 _ gpp rfl)
              have q127464 : H127448 pp 10 = (r125692 : Int) := k127463.trans q125693
              have k127465 : H127448 r125692 (v125642.toNat) = H125659 r125692 (v125642.toNat) := (f127453 r125692 (v125642.toNat) _ g125694 rfl)
              have k127466 : wPI H127448 pp = wPI H125659 pp := (wPI_fr w125661 gpp f127453 rfl)
              refine wp_of e206 c206_82 (rw_iload (pc' := 84) (z := v127447) rfl rfl ?_)
              refine wp_of e206 c206_84 (rw_aload_n (pc' := 85) (v := .ref r0) rfl rfl rfl ?_)
              have k127467 : H127448 r0 3 = H125659 r0 3 := (f127453 r0 3 _ g0 rfl)
              have q127468 : H127448 r0 3 = (pp : Int) := k127467.trans q125666
              refine wp_of e206 c206_85 (xg_K (pc' := 88) lf_9_337 w127452 g0 sh_42 (by decide) (by decide) rfl q127468 rfl ?_)
              refine wp_of e206 c206_88 (xg_R (pc' := 91) lf_9_250 w127452 gpp sh_54 (by decide) (by decide) ty_54_11 rfl rfl (fun r127469 q127470 g127471 => ?_))
              refine wp_of e206 c206_91 (rw_iload_n (pc' := 92) (z := v125642) rfl rfl ?_)
              refine wp_of e206 c206_92 (xa_I (so := 0) (pc' := 93) w127452 g127471 sh_57 (by decide) (ty_57 _) (by omega) (by omega) rfl (fun b127472 b127473 => ?_))
              refine wp_of e206 c206_93 (rw_icmp_gt (p1 := 190) (p2 := 96) (by decide) rfl ⟨by omega, by omega⟩ ⟨by omega, by omega⟩ (fun c127474 => ?_) (fun c127474 => ?_))
              · refine wp_of e206 c206_190 (rw_iinc (pc' := 193) (z := v125642) (L' := [(2, vI (v125642 + 1)), (4, vI v127447), (3, vI z125690), (1, vI z110979), (0, .ref r0)]) rfl rfl rfl rfl ?_)
                refine wp_of e206 c206_193 (rw_goto (p1 := 7) (by decide) ?_)
                exact wp_lc (ks := [2, 4, 3, 1, 0]) (wl_c rfl (wl_c rfl (wl_c rfl wl_n))) rfl (by decide) (ih125641 _ (by omega) (v125642 + 1) H127448 w127452 f127460 ⟨by omega, by omega⟩ (by omega) rfl)
              · refine wp_of e206 c206_96 (rw_aload_n (pc' := 97) (v := .ref r0) rfl rfl rfl ?_)
                refine wp_of e206 c206_97 (xg_K (pc' := 100) lf_9_337 w127452 g0 sh_42 (by decide) (by decide) rfl q127468 rfl ?_)
                refine wp_of e206 c206_100 (xg_R (pc' := 103) lf_9_253 w127452 gpp sh_54 (by decide) (by decide) ty_54_12 rfl rfl (fun r127475 q127476 g127477 => ?_))
                refine wp_of e206 c206_103 (rw_iload_n (pc' := 104) (z := v125642) rfl rfl ?_)
                refine wp_of e206 c206_104 (xa_I (so := 0) (pc' := 105) w127452 g127477 sh_58 (by decide) (ty_58 _) (by omega) (by omega) rfl (fun b127478 b127479 => ?_))
                refine wp_of e206 c206_105 (rw_istore (pc' := 107) (z := H127448 r127475 (v125642.toNat)) (L' := [(5, vI (H127448 r127475 (v125642.toNat))), (4, vI v127447), (3, vI z125690), (2, vI v125642), (1, vI z110979), (0, .ref r0)]) rfl rfl rfl ?_)
                have lp127758 : ∀ (n127759 : Nat) (v127761 : Int) (H127762 : wq_H), WT T H127762 → wfr [(48, 999), (49, 999), (46, 999), (47, 999), (45, 999)] T H127448 H127762 → (0 ≤ v127761 ∧ v127761 ≤ 17) → (H127762 r125656 (v125642).toNat ≤ 5 * (v127447 - H127762 r125692 (v125642).toNat) + (v127761 - H127762 r127475 (v125642).toNat)) → (H127762 r127475 (v125642).toNat ≤ v127761) → (v127761 ≤ H127762 r127475 (v125642).toNat + 5) → (H127762 r125692 (v125642).toNat ≤ v127447) → (wPI H127762 pp = 1) → (17 - v127761).toNat = n127759 → wp kt 1 206 107 [(5, vI v127761), (4, vI v127447), (3, vI z125690), (2, vI v125642), (1, vI z110979), (0, .ref r0)] [] T H127762 (q_206 r0 pp T H) := by
                  intro n127759
                  induction n127759 using Nat.strongRecOn with
                  | _ n127759 ih127760 =>
                    intro v127761 H127762 w127763 f127764 b127765 x127766 x127767 x127768 x127769 x127770 m127771
                    have f127772 := f127459.tr f127764 rfl
                    have f127773 := f127460.tr f127764 rfl
                    have f127774 := f127453.tr f127764 rfl
                    have k127775 : H127762 r0 21 = H127448 r0 21 := (f127764 r0 21 _ g0 rfl)
                    have q127776 : H127762 r0 21 = (r125656 : Int) := k127775.trans q127462
                    have k127777 : H127762 pp 10 = H127448 pp 10 := (f127764 pp 10 _ gpp rfl)
                    have q127778 : H127762 pp 10 = (r125692 : Int) := k127777.trans q127464
                    have k127779 : H127762 r125692 (v125642.toNat) = H127448 r125692 (v125642.toNat) := (f127764 r125692 (v125642.toNat) _ g125694 rfl)
                    have k127780 : wPI H127762 pp = wPI H127448 pp := (wPI_fr w127452 gpp f127764 rfl)
                    have k127781 : H127762 pp 11 = H127448 pp 11 := (f127764 pp 11 _ gpp rfl)
                    have q127782 : H127762 pp 11 = (r127469 : Int) := k127781.trans q127470
                    have k127783 : H127762 r127469 (v125642.toNat) = H127448 r127469 (v125642.toNat) := (f127764 r127469 (v125642.toNat) _ g127471 rfl)
                    have k127784 : H127762 pp 12 = H127448 pp 12 := (f127764 pp 12 _ gpp rfl)
                    have q127785 : H127762 pp 12 = (r127475 : Int) := k127784.trans q127476
                    have k127786 : H127762 r127475 (v125642.toNat) = H127448 r127475 (v125642.toNat) := (f127764 r127475 (v125642.toNat) _ g127477 rfl)
                    obtain ⟨r127787, q127788, g127789⟩ := w127763.ref gpp (t' := 59) (n := 27) (j := 13) (p := 0) (q := 0) rfl (by decide) rfl
                    have hp := wPI_at (H := H127762) (R := pp) (by omega) q127778 q127782 q127785 q127788 (k := (v125642).toNat) (by omega)
                    refine wp_of e206 c206_107 (rw_iload (pc' := 109) (z := v127761) rfl rfl ?_)
                    refine wp_of e206 c206_109 (rw_aload_n (pc' := 110) (v := .ref r0) rfl rfl rfl ?_)
                    have k127790 : H127762 r0 3 = H127448 r0 3 := (f127764 r0 3 _ g0 rfl)
                    have q127791 : H127762 r0 3 = (pp : Int) := k127790.trans q127468
                    refine wp_of e206 c206_110 (xg_K (pc' := 113) lf_9_337 w127763 g0 sh_42 (by decide) (by decide) rfl q127791 rfl ?_)
                    refine wp_of e206 c206_113 (xg_K (pc' := 116) lf_9_256 w127763 gpp sh_54 (by decide) (by decide) rfl q127788 rfl ?_)
                    refine wp_of e206 c206_116 (rw_iload_n (pc' := 117) (z := v125642) rfl rfl ?_)
                    refine wp_of e206 c206_117 (xa_I (so := 0) (pc' := 118) w127763 g127789 sh_59 (by decide) (ty_59 _) (by omega) (by omega) rfl (fun b127792 b127793 => ?_))
                    refine wp_of e206 c206_118 (rw_icmp_gt (p1 := 184) (p2 := 121) (by decide) rfl ⟨by omega, by omega⟩ ⟨by omega, by omega⟩ (fun c127794 => ?_) (fun c127794 => ?_))
                    · refine wp_of e206 c206_184 (rw_iinc (pc' := 187) (z := v127447) (L' := [(4, vI (v127447 + 1)), (5, vI v127761), (3, vI z125690), (2, vI v125642), (1, vI z110979), (0, .ref r0)]) rfl rfl rfl rfl ?_)
                      refine wp_of e206 c206_187 (rw_goto (p1 := 82) (by decide) ?_)
                      exact wp_lc (ks := [4, 5, 3, 2, 1, 0]) (wl_c rfl (wl_c rfl (wl_c rfl (wl_c rfl (wl_c rfl wl_n))))) rfl (by decide) (ih127446 _ (by omega) (v127447 + 1) H127762 w127763 f127774 ⟨by omega, by omega⟩ (by omega) (by omega) (by omega) rfl)
                    · refine wp_of e206 c206_121 (rw_iload (pc' := 123) (z := v127447) rfl rfl ?_)
                      refine wp_of e206 c206_123 (rw_iload (pc' := 125) (z := v127447) rfl rfl ?_)
                      refine wp_of e206 c206_125 (rw_iload (pc' := 127) (z := v127761) rfl rfl ?_)
                      refine wp_of e206 c206_127 (rw_iadd (pc' := 128) rfl ?_)
                      refine wp_of e206 c206_128 (xc_S (pc' := 131) (as := [vI v127447, vI (v127447 + v127761)]) (st := []) (lm_9_318) rfl rfl (Nat.le_of_ble_eq_true rfl) rfl (by decide) (s_202 w127763 ⟨by omega, by omega⟩ ⟨by omega, by omega⟩) (fun R127795 T127796 H127797 p127798 => ?_))
                      obtain ⟨e127799, e127801, z127802, e127800, b127803⟩ := p127798
                      subst e127799
                      subst e127800
                      subst e127801
                      show wp _ _ 206 131 [(5, vI v127761), (4, vI v127447), (3, vI z125690), (2, vI v125642), (1, vI z110979), (0, .ref r0)] [vI z127802] _ H127762 _
                      refine wp_of e206 c206_131 (rw_iload_n (pc' := 132) (z := z125690) rfl rfl ?_)
                      refine wp_of e206 c206_132 (rw_ior (pc' := 133) rfl ?_)
                      obtain ⟨v127804, e127805⟩ : ∃ x : Int, x = wq_or z127802 z125690 := ⟨_, rfl⟩
                      rw [← e127805]
                      have b127806 : -2147483648 ≤ v127804 ∧ v127804 ≤ 2147483647 := by
                        rw [e127805]
                        exact wI_or _ _
                      refine wp_of e206 c206_133 (rw_aload_n (pc' := 134) (v := .ref r0) rfl rfl rfl ?_)
                      refine wp_of e206 c206_134 (xg_I (pc' := 137) lf_9_343 w127763 g0 sh_42 (by decide) (by decide) ty_42_19 rfl rfl (fun b127807 b127808 => ?_))
                      refine wp_of e206 c206_137 (rw_iand (pc' := 138) rfl ?_)
                      obtain ⟨v127809, e127810⟩ : ∃ x : Int, x = wq_and v127804 (H127762 r0 19) := ⟨_, rfl⟩
                      rw [← e127810]
                      have b127811 : -2147483648 ≤ v127809 ∧ v127809 ≤ 2147483647 := by
                        rw [e127810]
                        exact wI_and _ _
                      refine wp_of e206 c206_138 (rw_istore (pc' := 140) (z := v127809) (L' := [(6, vI v127809), (5, vI v127761), (4, vI v127447), (3, vI z125690), (2, vI v125642), (1, vI z110979), (0, .ref r0)]) rfl rfl rfl ?_)
                      refine wp_of e206 c206_140 (rw_iload_n (pc' := 141) (z := v125642) rfl rfl ?_)
                      refine wp_of e206 c206_141 (rw_aload_n (pc' := 142) (v := .ref r0) rfl rfl rfl ?_)
                      refine wp_of e206 c206_142 (xg_K (pc' := 145) lf_9_337 w127763 g0 sh_42 (by decide) (by decide) rfl q127791 rfl ?_)
                      refine wp_of e206 c206_145 (xg_I (pc' := 148) lf_9_271 w127763 gpp sh_54 (by decide) (by decide) ty_54_8 rfl rfl (fun b127812 b127813 => ?_))
                      refine wp_of e206 c206_148 (rw_icmp_ne (p1 := 158) (p2 := 151) (by decide) rfl ⟨by omega, by omega⟩ ⟨by omega, by omega⟩ (fun c127814 => ?_) (fun c127814 => ?_))
                      · refine wp_of e206 c206_158 (rw_aload_n (pc' := 159) (v := .ref r0) rfl rfl rfl ?_)
                        refine wp_of e206 c206_159 (rw_iload_n (pc' := 160) (z := v125642) rfl rfl ?_)
                        refine wp_of e206 c206_160 (rw_iload (pc' := 162) (z := v127447) rfl rfl ?_)
                        refine wp_of e206 c206_162 (rw_iload (pc' := 164) (z := v127761) rfl rfl ?_)
                        refine wp_of e206 c206_164 (rw_iload (pc' := 166) (z := v127809) rfl rfl ?_)
                        refine wp_of e206 c206_166 (rw_aload_n (pc' := 167) (v := .ref r0) rfl rfl rfl ?_)
                        refine wp_of e206 c206_167 (xg_I (pc' := 170) lf_9_343 w127763 g0 sh_42 (by decide) (by decide) ty_42_19 rfl rfl (fun b127815 b127816 => ?_))
                        refine wp_of e206 c206_170 (rw_iload (pc' := 172) (z := v127809) rfl rfl ?_)
                        refine wp_of e206 c206_172 (rw_iconst (pc' := 173) rfl ?_)
                        refine wp_of e206 c206_173 (rw_ixor (pc' := 174) rfl ?_)
                        obtain ⟨v127817, e127818⟩ : ∃ x : Int, x = wq_xor v127809 (-1) := ⟨_, rfl⟩
                        rw [← e127818]
                        have b127819 : -2147483648 ≤ v127817 ∧ v127817 ≤ 2147483647 := by
                          rw [e127818]
                          exact wI_xor _ _
                        refine wp_of e206 c206_174 (rw_iand (pc' := 175) rfl ?_)
                        obtain ⟨v127820, e127821⟩ : ∃ x : Int, x = wq_and (H127762 r0 19) v127817 := ⟨_, rfl⟩
                        rw [← e127821]
                        have b127822 : -2147483648 ≤ v127820 ∧ v127820 ≤ 2147483647 := by
                          rw [e127821]
                          exact wI_and _ _
                        refine wp_of e206 c206_175 (xc_V (pc' := 178) (r := r0) (as := [vI v125642, vI v127447, vI v127761, vI v127809, vI v127820]) (st := []) (lm_9_360) rfl rfl (Nat.le_of_ble_eq_true rfl) w127763 g0 sh_42 (by decide) rfl (by decide) (s_208 w127763 g0 ⟨by omega, by omega⟩ ⟨by omega, by omega⟩ ⟨by omega, by omega⟩ ⟨by omega, by omega⟩ ⟨by omega, by omega⟩ q127776 g125658 (by omega)) (fun R127823 T127824 H127825 p127826 => ?_))
                        obtain ⟨e127827, w127829, f127830, e127828, p127831⟩ := p127826
                        subst e127827
                        subst e127828
                        have f127832 := f127772.tr f127830 rfl
                        have f127833 := f127773.tr f127830 rfl
                        have f127834 := f127774.tr f127830 rfl
                        have f127835 := f127764.tr f127830 rfl
                        show wp _ _ 206 178 [(6, vI v127809), (5, vI v127761), (4, vI v127447), (3, vI z125690), (2, vI v125642), (1, vI z110979), (0, .ref r0)] [] _ H127825 _
                        refine wp_of e206 c206_178 (rw_iinc (pc' := 181) (z := v127761) (L' := [(5, vI (v127761 + 1)), (6, vI v127809), (4, vI v127447), (3, vI z125690), (2, vI v125642), (1, vI z110979), (0, .ref r0)]) rfl rfl rfl rfl ?_)
                        refine wp_of e206 c206_181 (rw_goto (p1 := 107) (by decide) ?_)
                        have k127836 : H127825 r0 21 = H127762 r0 21 := (f127830 r0 21 _ g0 rfl)
                        have q127837 : H127825 r0 21 = (r125656 : Int) := k127836.trans q127776
                        have k127838 : H127825 pp 10 = H127762 pp 10 := (f127830 pp 10 _ gpp rfl)
                        have q127839 : H127825 pp 10 = (r125692 : Int) := k127838.trans q127778
                        have k127840 : H127825 r125692 (v125642.toNat) = H127762 r125692 (v125642.toNat) := (f127830 r125692 (v125642.toNat) _ g125694 rfl)
                        have k127841 : wPI H127825 pp = wPI H127762 pp := (wPI_fr w127763 gpp f127830 rfl)
                        have k127842 : H127825 pp 11 = H127762 pp 11 := (f127830 pp 11 _ gpp rfl)
                        have q127843 : H127825 pp 11 = (r127469 : Int) := k127842.trans q127782
                        have k127844 : H127825 r127469 (v125642.toNat) = H127762 r127469 (v125642.toNat) := (f127830 r127469 (v125642.toNat) _ g127471 rfl)
                        have k127845 : H127825 pp 12 = H127762 pp 12 := (f127830 pp 12 _ gpp rfl)
                        have q127846 : H127825 pp 12 = (r127475 : Int) := k127845.trans q127785
                        have k127847 : H127825 r127475 (v125642.toNat) = H127762 r127475 (v125642.toNat) := (f127830 r127475 (v125642.toNat) _ g127477 rfl)
                        exact wp_lc (ks := [5, 6, 4, 3, 2, 1, 0]) (wl_c rfl (wl_c rfl (wl_c rfl (wl_c rfl (wl_c rfl (wl_c rfl wl_n)))))) rfl (by decide) (ih127760 _ (by omega) (v127761 + 1) H127825 w127829 f127835 ⟨by omega, by omega⟩ (by omega) (by omega) (by omega) (by omega) (by omega) rfl)
                      · refine wp_of e206 c206_151 (rw_iload (pc' := 153) (z := v127809) rfl rfl ?_)
                        refine wp_of e206 c206_153 (rw_iload_n (pc' := 154) (z := z110979) rfl rfl ?_)
                        refine wp_of e206 c206_154 (rw_iand (pc' := 155) rfl ?_)
                        obtain ⟨v127848, e127849⟩ : ∃ x : Int, x = wq_and v127809 z110979 := ⟨_, rfl⟩
                        rw [← e127849]
                        have b127850 : 0 ≤ v127848 ∧ v127848 ≤ z110979 := by
                          rw [e127849]
                          exact wq_and_b _ (by omega) (by omega)
                        refine wp_of e206 c206_155 (rw_if_ne (p1 := 178) (p2 := 158) (by decide) rfl ⟨by omega, by omega⟩ (fun c127851 => ?_) (fun c127851 => ?_))
                        · refine wp_of e206 c206_178 (rw_iinc (pc' := 181) (z := v127761) (L' := [(5, vI (v127761 + 1)), (6, vI v127809), (4, vI v127447), (3, vI z125690), (2, vI v125642), (1, vI z110979), (0, .ref r0)]) rfl rfl rfl rfl ?_)
                          refine wp_of e206 c206_181 (rw_goto (p1 := 107) (by decide) ?_)
                          exact wp_lc (ks := [5, 6, 4, 3, 2, 1, 0]) (wl_c rfl (wl_c rfl (wl_c rfl (wl_c rfl (wl_c rfl (wl_c rfl wl_n)))))) rfl (by decide) (ih127760 _ (by omega) (v127761 + 1) H127762 w127763 f127764 ⟨by omega, by omega⟩ (by omega) (by omega) (by omega) (by omega) (by omega) rfl)
                        · refine wp_of e206 c206_158 (rw_aload_n (pc' := 159) (v := .ref r0) rfl rfl rfl ?_)
                          refine wp_of e206 c206_159 (rw_iload_n (pc' := 160) (z := v125642) rfl rfl ?_)
                          refine wp_of e206 c206_160 (rw_iload (pc' := 162) (z := v127447) rfl rfl ?_)
                          refine wp_of e206 c206_162 (rw_iload (pc' := 164) (z := v127761) rfl rfl ?_)
                          refine wp_of e206 c206_164 (rw_iload (pc' := 166) (z := v127809) rfl rfl ?_)
                          refine wp_of e206 c206_166 (rw_aload_n (pc' := 167) (v := .ref r0) rfl rfl rfl ?_)
                          refine wp_of e206 c206_167 (xg_I (pc' := 170) lf_9_343 w127763 g0 sh_42 (by decide) (by decide) ty_42_19 rfl rfl (fun b127852 b127853 => ?_))
                          refine wp_of e206 c206_170 (rw_iload (pc' := 172) (z := v127809) rfl rfl ?_)
                          refine wp_of e206 c206_172 (rw_iconst (pc' := 173) rfl ?_)
                          refine wp_of e206 c206_173 (rw_ixor (pc' := 174) rfl ?_)
                          obtain ⟨v127854, e127855⟩ : ∃ x : Int, x = wq_xor v127809 (-1) := ⟨_, rfl⟩
                          rw [← e127855]
                          have b127856 : -2147483648 ≤ v127854 ∧ v127854 ≤ 2147483647 := by
                            rw [e127855]
                            exact wI_xor _ _
                          refine wp_of e206 c206_174 (rw_iand (pc' := 175) rfl ?_)
                          obtain ⟨v127857, e127858⟩ : ∃ x : Int, x = wq_and (H127762 r0 19) v127854 := ⟨_, rfl⟩
                          rw [← e127858]
                          have b127859 : -2147483648 ≤ v127857 ∧ v127857 ≤ 2147483647 := by
                            rw [e127858]
                            exact wI_and _ _
                          refine wp_of e206 c206_175 (xc_V (pc' := 178) (r := r0) (as := [vI v125642, vI v127447, vI v127761, vI v127809, vI v127857]) (st := []) (lm_9_360) rfl rfl (Nat.le_of_ble_eq_true rfl) w127763 g0 sh_42 (by decide) rfl (by decide) (s_208 w127763 g0 ⟨by omega, by omega⟩ ⟨by omega, by omega⟩ ⟨by omega, by omega⟩ ⟨by omega, by omega⟩ ⟨by omega, by omega⟩ q127776 g125658 (by omega)) (fun R127860 T127861 H127862 p127863 => ?_))
                          obtain ⟨e127864, w127866, f127867, e127865, p127868⟩ := p127863
                          subst e127864
                          subst e127865
                          have f127869 := f127772.tr f127867 rfl
                          have f127870 := f127773.tr f127867 rfl
                          have f127871 := f127774.tr f127867 rfl
                          have f127872 := f127764.tr f127867 rfl
                          show wp _ _ 206 178 [(6, vI v127809), (5, vI v127761), (4, vI v127447), (3, vI z125690), (2, vI v125642), (1, vI z110979), (0, .ref r0)] [] _ H127862 _
                          refine wp_of e206 c206_178 (rw_iinc (pc' := 181) (z := v127761) (L' := [(5, vI (v127761 + 1)), (6, vI v127809), (4, vI v127447), (3, vI z125690), (2, vI v125642), (1, vI z110979), (0, .ref r0)]) rfl rfl rfl rfl ?_)
                          refine wp_of e206 c206_181 (rw_goto (p1 := 107) (by decide) ?_)
                          have k127873 : H127862 r0 21 = H127762 r0 21 := (f127867 r0 21 _ g0 rfl)
                          have q127874 : H127862 r0 21 = (r125656 : Int) := k127873.trans q127776
                          have k127875 : H127862 pp 10 = H127762 pp 10 := (f127867 pp 10 _ gpp rfl)
                          have q127876 : H127862 pp 10 = (r125692 : Int) := k127875.trans q127778
                          have k127877 : H127862 r125692 (v125642.toNat) = H127762 r125692 (v125642.toNat) := (f127867 r125692 (v125642.toNat) _ g125694 rfl)
                          have k127878 : wPI H127862 pp = wPI H127762 pp := (wPI_fr w127763 gpp f127867 rfl)
                          have k127879 : H127862 pp 11 = H127762 pp 11 := (f127867 pp 11 _ gpp rfl)
                          have q127880 : H127862 pp 11 = (r127469 : Int) := k127879.trans q127782
                          have k127881 : H127862 r127469 (v125642.toNat) = H127762 r127469 (v125642.toNat) := (f127867 r127469 (v125642.toNat) _ g127471 rfl)
                          have k127882 : H127862 pp 12 = H127762 pp 12 := (f127867 pp 12 _ gpp rfl)
                          have q127883 : H127862 pp 12 = (r127475 : Int) := k127882.trans q127785
                          have k127884 : H127862 r127475 (v125642.toNat) = H127762 r127475 (v125642.toNat) := (f127867 r127475 (v125642.toNat) _ g127477 rfl)
                          exact wp_lc (ks := [5, 6, 4, 3, 2, 1, 0]) (wl_c rfl (wl_c rfl (wl_c rfl (wl_c rfl (wl_c rfl (wl_c rfl wl_n)))))) rfl (by decide) (ih127760 _ (by omega) (v127761 + 1) H127862 w127866 f127872 ⟨by omega, by omega⟩ (by omega) (by omega) (by omega) (by omega) (by omega) rfl)
                exact wp_lc (ks := [5, 4, 3, 2, 1, 0]) (wl_c rfl (wl_c rfl (wl_c rfl (wl_c rfl (wl_c rfl (wl_c rfl wl_n)))))) rfl (by decide) (lp127758 _ (H127448 r127475 (v125642.toNat)) H127448 w127452 wfr.rf ⟨by omega, by omega⟩ (by omega) (by omega) (by omega) (by omega) (by omega) rfl)
          exact wp_lc (ks := [4, 3, 2, 1, 0]) (wl_c rfl (wl_c rfl (wl_c rfl (wl_c rfl (wl_c rfl wl_n))))) rfl (by decide) (lp127444 _ (H125659 r125692 (v125642.toNat)) H125659 w125661 wfr.rf ⟨by omega, by omega⟩ (by omega) (by omega) (by omega) rfl)
        · refine wp_of e206 c206_37 (rw_aload_n (pc' := 38) (v := .ref r0) rfl rfl rfl ?_)
          refine wp_of e206 c206_38 (rw_iload_n (pc' := 39) (z := v125642) rfl rfl ?_)
          refine wp_of e206 c206_39 (rw_iconst (pc' := 40) rfl ?_)
          refine wp_of e206 c206_40 (rw_iconst (pc' := 41) rfl ?_)
          refine wp_of e206 c206_41 (rw_iconst (pc' := 42) rfl ?_)
          refine wp_of e206 c206_42 (rw_iconst (pc' := 43) rfl ?_)
          have k127885 : H125659 r0 21 = H125643 r0 21 := (wq_u_t e125660 g125658 g0 rfl 21)
          have q127886 : H125659 r0 21 = (r125656 : Int) := k127885.trans q125657
          refine wp_of e206 c206_43 (xc_V (pc' := 46) (r := r0) (as := [vI v125642, vI 0, vI 0, vI 0, vI 0]) (st := []) (lm_9_360) rfl rfl (Nat.le_of_ble_eq_true rfl) w125661 g0 sh_42 (by decide) rfl (by decide) (s_208 w125661 g0 ⟨by omega, by omega⟩ ⟨by omega, by omega⟩ ⟨by omega, by omega⟩ ⟨by omega, by omega⟩ ⟨by omega, by omega⟩ q127886 g125658 (by omega)) (fun R127887 T127888 H127889 p127890 => ?_))
          obtain ⟨e127891, w127893, f127894, e127892, p127895⟩ := p127890
          subst e127891
          subst e127892
          have f127896 := f125662.tr f127894 rfl
          have f127897 := f125663.tr f127894 rfl
          show wp _ _ 206 46 [(2, vI v125642), (1, vI z110979), (0, .ref r0)] [] _ H127889 _
          refine wp_of e206 c206_46 (rw_goto (p1 := 190) (by decide) ?_)
          refine wp_of e206 c206_190 (rw_iinc (pc' := 193) (z := v125642) (L' := [(2, vI (v125642 + 1)), (1, vI z110979), (0, .ref r0)]) rfl rfl rfl rfl ?_)
          refine wp_of e206 c206_193 (rw_goto (p1 := 7) (by decide) ?_)
          have k127898 : wPI H127889 pp = wPI H125643 pp := ((wPI_fr w125661 gpp f127894 rfl).trans (wPI_fr w125644 gpp ((wfr.rf (l := [(45, 999)])).put' e125660 g125658 rfl) rfl))
          exact wp_lc (ks := [2, 1, 0]) (wl_c rfl (wl_c rfl (wl_c rfl wl_n))) rfl (by decide) (ih125641 _ (by omega) (v125642 + 1) H127889 w127893 f127897 ⟨by omega, by omega⟩ (by omega) rfl)
  exact wp_lc (ks := [2, 1, 0]) (wl_c rfl (wl_c rfl (wl_c rfl wl_n))) rfl (by decide) (lp125639 _ 0 H hW wfr.rf ⟨by omega, by omega⟩ (by omega) rfl)
