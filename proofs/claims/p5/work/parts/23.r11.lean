/-! methods of the reference (own work, written by wip/gen2/sx.py) -/
/-! StrikeAwakeModel.part(IZ)I -/
theorem e279 : wq_en 279 = some (9, 7, false, some FieldType.int) := rfl
theorem c279_0 : mc_cd 279 0 = some (.aload_n 0, 1) := by decide +kernel
theorem c279_1 : mc_cd 279 1 = some (.iconst 0, 1) := by decide +kernel
theorem c279_2 : mc_cd 279 2 = some (.putfield 48, 3) := by decide +kernel
theorem c279_5 : mc_cd 279 5 = some (.aload_n 0, 1) := by decide +kernel
theorem c279_6 : mc_cd 279 6 = some (.aload_n 0, 1) := by decide +kernel
theorem c279_7 : mc_cd 279 7 = some (.iload_n 1, 1) := by decide +kernel
theorem c279_8 : mc_cd 279 8 = some (.invokevirtual 487, 3) := by decide +kernel
theorem c279_11 : mc_cd 279 11 = some (.invokevirtual 447, 3) := by decide +kernel
theorem c279_14 : mc_cd 279 14 = some (.istore_n 3, 1) := by decide +kernel
theorem c279_15 : mc_cd 279 15 = some (.iload_n 3, 1) := by decide +kernel
theorem c279_16 : mc_cd 279 16 = some (.ifCond .le 9, 3) := by decide +kernel
theorem c279_19 : mc_cd 279 19 = some (.aload_n 0, 1) := by decide +kernel
theorem c279_20 : mc_cd 279 20 = some (.iload_n 3, 1) := by decide +kernel
theorem c279_21 : mc_cd 279 21 = some (.invokevirtual 490, 3) := by decide +kernel
theorem c279_24 : mc_cd 279 24 = some (.ireturn, 1) := by decide +kernel
theorem c279_25 : mc_cd 279 25 = some (.iconst 0, 1) := by decide +kernel
theorem c279_26 : mc_cd 279 26 = some (.istore 4, 2) := by decide +kernel
theorem c279_28 : mc_cd 279 28 = some (.iconst 0, 1) := by decide +kernel
theorem c279_29 : mc_cd 279 29 = some (.istore 5, 2) := by decide +kernel
theorem c279_31 : mc_cd 279 31 = some (.iload 5, 2) := by decide +kernel
theorem c279_33 : mc_cd 279 33 = some (.aload_n 0, 1) := by decide +kernel
theorem c279_34 : mc_cd 279 34 = some (.getfield 422, 3) := by decide +kernel
theorem c279_37 : mc_cd 279 37 = some (.if_icmp .ge 75, 3) := by decide +kernel
theorem c279_40 : mc_cd 279 40 = some (.aload_n 0, 1) := by decide +kernel
theorem c279_41 : mc_cd 279 41 = some (.aload_n 0, 1) := by decide +kernel
theorem c279_42 : mc_cd 279 42 = some (.getfield 42, 3) := by decide +kernel
theorem c279_45 : mc_cd 279 45 = some (.iload 5, 2) := by decide +kernel
theorem c279_47 : mc_cd 279 47 = some (.iaload, 1) := by decide +kernel
theorem c279_48 : mc_cd 279 48 = some (.invokevirtual 425, 3) := by decide +kernel
theorem c279_51 : mc_cd 279 51 = some (.aload_n 0, 1) := by decide +kernel
theorem c279_52 : mc_cd 279 52 = some (.getfield 17, 3) := by decide +kernel
theorem c279_55 : mc_cd 279 55 = some (.iload_n 1, 1) := by decide +kernel
theorem c279_56 : mc_cd 279 56 = some (.iaload, 1) := by decide +kernel
theorem c279_57 : mc_cd 279 57 = some (.iconst 1, 1) := by decide +kernel
theorem c279_58 : mc_cd 279 58 = some (.isub, 1) := by decide +kernel
theorem c279_59 : mc_cd 279 59 = some (.aload_n 0, 1) := by decide +kernel
theorem c279_60 : mc_cd 279 60 = some (.aload_n 0, 1) := by decide +kernel
theorem c279_61 : mc_cd 279 61 = some (.getfield 39, 3) := by decide +kernel
theorem c279_64 : mc_cd 279 64 = some (.iload_n 1, 1) := by decide +kernel
theorem c279_65 : mc_cd 279 65 = some (.invokevirtual 386, 3) := by decide +kernel
theorem c279_68 : mc_cd 279 68 = some (.isub, 1) := by decide +kernel
theorem c279_69 : mc_cd 279 69 = some (.istore 6, 2) := by decide +kernel
theorem c279_71 : mc_cd 279 71 = some (.iload 5, 2) := by decide +kernel
theorem c279_73 : mc_cd 279 73 = some (.ifCond .eq 24, 3) := by decide +kernel
theorem c279_76 : mc_cd 279 76 = some (.iload_n 2, 1) := by decide +kernel
theorem c279_77 : mc_cd 279 77 = some (.ifCond .eq 13, 3) := by decide +kernel
theorem c279_80 : mc_cd 279 80 = some (.iload 6, 2) := by decide +kernel
theorem c279_82 : mc_cd 279 82 = some (.iload 4, 2) := by decide +kernel
theorem c279_84 : mc_cd 279 84 = some (.if_icmp .le 18, 3) := by decide +kernel
theorem c279_87 : mc_cd 279 87 = some (.goto 10, 3) := by decide +kernel
theorem c279_90 : mc_cd 279 90 = some (.iload 6, 2) := by decide +kernel
theorem c279_92 : mc_cd 279 92 = some (.iload 4, 2) := by decide +kernel
theorem c279_94 : mc_cd 279 94 = some (.if_icmp .ge 8, 3) := by decide +kernel
theorem c279_97 : mc_cd 279 97 = some (.iload 6, 2) := by decide +kernel
theorem c279_99 : mc_cd 279 99 = some (.goto 5, 3) := by decide +kernel
theorem c279_102 : mc_cd 279 102 = some (.iload 4, 2) := by decide +kernel
theorem c279_104 : mc_cd 279 104 = some (.istore 4, 2) := by decide +kernel
theorem c279_106 : mc_cd 279 106 = some (.iinc 5 1, 3) := by decide +kernel
theorem c279_109 : mc_cd 279 109 = some (.goto (-78), 3) := by decide +kernel
theorem c279_112 : mc_cd 279 112 = some (.aload_n 0, 1) := by decide +kernel
theorem c279_113 : mc_cd 279 113 = some (.iload 4, 2) := by decide +kernel
theorem c279_115 : mc_cd 279 115 = some (.invokevirtual 58, 3) := by decide +kernel
theorem c279_118 : mc_cd 279 118 = some (.ireturn, 1) := by decide +kernel
abbrev q_279 (r0 : Nat) (a1 : Int) (a2 : Int) (T : wq_T) (H : wq_H) : Option Value → wq_T → wq_H → Prop := fun r T' H' => T = T' ∧ WT T H' ∧ wfr [(42, 0), (42, 1), (42, 2), (42, 28), (42, 29), (51, 999), (52, 999)] T H H' ∧ ∃ z : Int, some (vI z) = r ∧ ((-2147483648) ≤ z ∧ z ≤ 2147483647) ∧ (wKI H' r0 = 1) ∧ (H' r0 2 = -1)
set_option maxHeartbeats 4000000 in
theorem s_279 {kt : Nat → Option mc_E} {T : wq_T} {H : wq_H} {r0 : Nat} {a1 : Int} {a2 : Int} (hW : WT T H) (g0 : T.2.2.2 r0 = some 42) (i1 : (-2147483648) ≤ a1 ∧ a1 ≤ 2147483647) (i2 : 0 ≤ a2 ∧ a2 ≤ 1) (p0 : wKI H r0 = 1) : wpc kt 9 279 [.ref r0, vI a1, vI a2] T H (q_279 r0 a1 a2 T H) := by
  refine wp_enter e279 (Nat.le_of_ble_eq_true rfl) rfl ?_
  have f0 : wfr [(42, 0), (42, 1), (42, 2), (42, 28), (42, 29), (51, 999), (52, 999)] T H H := wfr.rf
  show wp _ _ 279 0 [(0, .ref r0), (1, vI a1), (2, vI a2)] [] _ H _
  refine wp_of e279 c279_0 (rw_aload_n (pc' := 1) (v := .ref r0) rfl rfl rfl ?_)
  refine wp_of e279 c279_1 (rw_iconst (pc' := 2) rfl ?_)
  refine wp_of e279 c279_2 (xp_I (pc' := 5) lf_9_48 hW g0 sh_42 (by decide) (by decide) ty_42_0 rfl rfl (by omega) (by omega) ⟨by omega, by omega⟩ rfl (fun H215018 e215019 w215020 => ?_))
  have f215021 := f0.put' e215019 g0 rfl
  have k215022 : H215018 r0 0 = 0 := wq_u_s e215019
  refine wp_of e279 c279_5 (rw_aload_n (pc' := 6) (v := .ref r0) rfl rfl rfl ?_)
  refine wp_of e279 c279_6 (rw_aload_n (pc' := 7) (v := .ref r0) rfl rfl rfl ?_)
  refine wp_of e279 c279_7 (rw_iload_n (pc' := 8) (z := a1) rfl rfl ?_)
  refine wp_of e279 c279_8 (xc_V (pc' := 11) (r := r0) (as := [vI a1]) (st := [.ref r0]) (lm_9_487) rfl rfl (Nat.le_of_ble_eq_true rfl) w215020 g0 sh_42 (by decide) rfl (by decide) (s_280 w215020 g0 ⟨by omega, by omega⟩) (fun R215023 T215024 H215025 p215026 => ?_))
  obtain ⟨e215027, e215029, z215031, e215028, b215032, p215030⟩ := p215026
  subst e215027
  subst e215028
  subst e215029
  show wp _ _ 279 11 [(0, .ref r0), (1, vI a1), (2, vI a2)] [vI z215031, .ref r0] _ H215018 _
  have k215033 : wKI H215018 r0 = wKI H r0 := (wKI_fr hW g0 ((wfr.rf (l := [(42, 0)])).put' e215019 g0 rfl) rfl)
  refine wp_of e279 c279_11 (xc_V (pc' := 14) (r := r0) (as := [vI z215031]) (st := []) (lm_9_447) rfl rfl (Nat.le_of_ble_eq_true rfl) w215020 g0 sh_42 (by decide) rfl (by decide) (s_253 w215020 g0 ⟨by omega, by omega⟩ (by omega) (by omega)) (fun R215034 T215035 H215036 p215037 => ?_))
  obtain ⟨e215038, w215040, f215041, z215046, e215039, b215047, p215042, p215043, p215044, p215045⟩ := p215037
  subst e215038
  subst e215039
  have f215048 := f215021.tr f215041 rfl
  show wp _ _ 279 14 [(0, .ref r0), (1, vI a1), (2, vI a2)] [vI z215046] _ H215036 _
  refine wp_of e279 c279_14 (rw_istore_n (pc' := 15) (z := z215046) (L' := [(3, vI z215046), (0, .ref r0), (1, vI a1), (2, vI a2)]) rfl rfl rfl ?_)
  refine wp_of e279 c279_15 (rw_iload_n (pc' := 16) (z := z215046) rfl rfl ?_)
  refine wp_of e279 c279_16 (rw_if_le (p1 := 25) (p2 := 19) (by decide) rfl ⟨by omega, by omega⟩ (fun c215049 => ?_) (fun c215049 => ?_))
  · refine wp_of e279 c279_25 (rw_iconst (pc' := 26) rfl ?_)
    refine wp_of e279 c279_26 (rw_istore (pc' := 28) (z := 0) (L' := [(4, vI 0), (3, vI z215046), (0, .ref r0), (1, vI a1), (2, vI a2)]) rfl rfl rfl ?_)
    refine wp_of e279 c279_28 (rw_iconst (pc' := 29) rfl ?_)
    refine wp_of e279 c279_29 (rw_istore (pc' := 31) (z := 0) (L' := [(5, vI 0), (4, vI 0), (3, vI z215046), (0, .ref r0), (1, vI a1), (2, vI a2)]) rfl rfl rfl ?_)
    have lp215447 : ∀ (n215448 : Nat) (v215450 : Int) (v215451 : Int) (H215452 : wq_H), WT T H215452 → wfr [(51, 999)] T H215036 H215452 → (0 ≤ v215450 ∧ v215450 ≤ 20000) → ((-2147483648) ≤ v215451 ∧ v215451 ≤ 2147483647) → (20000 - v215450).toNat = n215448 → wp kt 8 279 31 [(5, vI v215450), (4, vI v215451), (0, .ref r0), (1, vI a1), (2, vI a2)] [] T H215452 (q_279 r0 a1 a2 T H) := by
      intro n215448
      induction n215448 using Nat.strongRecOn with
      | _ n215448 ih215449 =>
        intro v215450 v215451 H215452 w215453 f215454 b215455 b215456 m215457
        have f215458 := f215048.tr f215454 rfl
        refine wp_of e279 c279_31 (rw_iload (pc' := 33) (z := v215450) rfl rfl ?_)
        refine wp_of e279 c279_33 (rw_aload_n (pc' := 34) (v := .ref r0) rfl rfl rfl ?_)
        have k215459 : H215452 r0 29 = H215036 r0 29 := (f215454 r0 29 _ g0 rfl)
        refine wp_of e279 c279_34 (xg_I (pc' := 37) lf_9_422 w215453 g0 sh_42 (by decide) (by decide) ty_42_29 rfl rfl (fun b215460 b215461 => ?_))
        refine wp_of e279 c279_37 (rw_icmp_ge (p1 := 112) (p2 := 40) (by decide) rfl ⟨by omega, by omega⟩ ⟨by omega, by omega⟩ (fun c215462 => ?_) (fun c215462 => ?_))
        · refine wp_of e279 c279_112 (rw_aload_n (pc' := 113) (v := .ref r0) rfl rfl rfl ?_)
          refine wp_of e279 c279_113 (rw_iload (pc' := 115) (z := v215451) rfl rfl ?_)
          refine wp_of e279 c279_115 (xc_V (pc' := 118) (r := r0) (as := [vI v215451]) (st := []) (lm_9_58) rfl rfl (Nat.le_of_ble_eq_true rfl) w215453 g0 sh_42 (by decide) rfl (by decide) (s_209 w215453 g0 ⟨by omega, by omega⟩) (fun R215463 T215464 H215465 p215466 => ?_))
          obtain ⟨e215467, w215469, f215470, z215472, e215468, b215473, p215471⟩ := p215466
          subst e215467
          subst e215468
          have f215474 := f215458.tr f215470 rfl
          show wp _ _ 279 118 [(5, vI v215450), (4, vI v215451), (0, .ref r0), (1, vI a1), (2, vI a2)] [vI z215472] _ H215465 _
          have k215475 : wKI H215465 r0 = wKI H215036 r0 := ((wKI_fr w215453 g0 f215470 rfl).trans (wKI_fr w215040 g0 f215454 rfl))
          exact wp_ireturn e279 c279_118 rfl ⟨rfl, w215469, f215474, z215472, rfl, ⟨by omega, by omega⟩, by omega, by omega⟩
        · refine wp_of e279 c279_40 (rw_aload_n (pc' := 41) (v := .ref r0) rfl rfl rfl ?_)
          refine wp_of e279 c279_41 (rw_aload_n (pc' := 42) (v := .ref r0) rfl rfl rfl ?_)
          refine wp_of e279 c279_42 (xg_R (pc' := 45) lf_9_42 w215453 g0 sh_42 (by decide) (by decide) ty_42_30 rfl rfl (fun r215476 q215477 g215478 => ?_))
          refine wp_of e279 c279_45 (rw_iload (pc' := 47) (z := v215450) rfl rfl ?_)
          refine wp_of e279 c279_47 (xa_I (so := 0) (pc' := 48) w215453 g215478 sh_52 (by decide) (ty_52 _) (by omega) (by omega) rfl (fun b215479 b215480 => ?_))
          have k215481 : wLM H215452 r0 = wLM H215036 r0 := (wLM_fr w215040 g0 f215454 rfl)
          have k215482 : H215452 r0 3 = H215018 r0 3 := ((f215454 r0 3 _ g0 rfl).trans (f215041 r0 3 _ g0 rfl))
          obtain ⟨r215483, q215484, g215485⟩ := (w215453.opt g0 (t' := 54) (n := 33) (j := 3) (p := 0) (q := 0) rfl (by decide) rfl).resolve_left (by omega)
          refine wp_of e279 c279_48 (xc_V (pc' := 51) (r := r0) (as := [vI (H215452 r215476 (v215450.toNat))]) (st := []) (lm_9_425) rfl rfl (Nat.le_of_ble_eq_true rfl) w215453 g0 sh_42 (by decide) rfl (by decide) (s_243 w215453 g0 ⟨by omega, by omega⟩ q215484 g215485 (by omega)) (fun R215486 T215487 H215488 p215489 => ?_))
          obtain ⟨e215490, w215492, f215493, e215491⟩ := p215489
          subst e215490
          subst e215491
          have f215494 := f215458.tr f215493 rfl
          have f215495 := f215454.tr f215493 rfl
          show wp _ _ 279 51 [(5, vI v215450), (4, vI v215451), (0, .ref r0), (1, vI a1), (2, vI a2)] [] _ H215488 _
          refine wp_of e279 c279_51 (rw_aload_n (pc' := 52) (v := .ref r0) rfl rfl rfl ?_)
          refine wp_of e279 c279_52 (xg_R (pc' := 55) lf_9_17 w215492 g0 sh_42 (by decide) (by decide) ty_42_20 rfl rfl (fun r215496 q215497 g215498 => ?_))
          refine wp_of e279 c279_55 (rw_iload_n (pc' := 56) (z := a1) rfl rfl ?_)
          refine wp_of e279 c279_56 (xa_I (so := 0) (pc' := 57) w215492 g215498 sh_44 (by decide) (ty_44 _) (by omega) (by omega) rfl (fun b215499 b215500 => ?_))
          refine wp_of e279 c279_57 (rw_iconst (pc' := 58) rfl ?_)
          refine wp_of e279 c279_58 (rw_isubw (pc' := 59) rfl ?_)
          obtain ⟨v215501, e215502⟩ : ∃ x : Int, x = wq_w ((H215488 r215496 (a1.toNat)) - 1) := ⟨_, rfl⟩
          rw [← e215502]
          have b215503 : -2147483648 ≤ v215501 ∧ v215501 ≤ 2147483647 := by
            rw [e215502]
            exact wI_w _
          refine wp_of e279 c279_59 (rw_aload_n (pc' := 60) (v := .ref r0) rfl rfl rfl ?_)
          refine wp_of e279 c279_60 (rw_aload_n (pc' := 61) (v := .ref r0) rfl rfl rfl ?_)
          refine wp_of e279 c279_61 (xg_R (pc' := 64) lf_9_39 w215492 g0 sh_42 (by decide) (by decide) ty_42_27 rfl rfl (fun r215504 q215505 g215506 => ?_))
          refine wp_of e279 c279_64 (rw_iload_n (pc' := 65) (z := a1) rfl rfl ?_)
          have k215507 : H215488 r0 3 = H215452 r0 3 := (f215493 r0 3 _ g0 rfl)
          have q215508 : H215488 r0 3 = (r215483 : Int) := k215507.trans q215484
          refine wp_of e279 c279_65 (xc_V (pc' := 68) (r := r0) (as := [.ref r215504, vI a1]) (st := [vI v215501]) (lm_9_386) rfl rfl (Nat.le_of_ble_eq_true rfl) w215492 g0 sh_42 (by decide) rfl (by decide) (s_228_m_lot w215492 g0 g215506 ⟨by omega, by omega⟩ q215508 g215485) (fun R215509 T215510 H215511 p215512 => ?_))
          obtain ⟨e215513, e215515, z215516, e215514, b215517⟩ := p215512
          subst e215513
          subst e215514
          subst e215515
          show wp _ _ 279 68 [(5, vI v215450), (4, vI v215451), (0, .ref r0), (1, vI a1), (2, vI a2)] [vI z215516, vI v215501] _ H215488 _
          refine wp_of e279 c279_68 (rw_isubw (pc' := 69) rfl ?_)
          obtain ⟨v215518, e215519⟩ : ∃ x : Int, x = wq_w (v215501 - z215516) := ⟨_, rfl⟩
          rw [← e215519]
          have b215520 : -2147483648 ≤ v215518 ∧ v215518 ≤ 2147483647 := by
            rw [e215519]
            exact wI_w _
          refine wp_of e279 c279_69 (rw_istore (pc' := 71) (z := v215518) (L' := [(6, vI v215518), (5, vI v215450), (4, vI v215451), (0, .ref r0), (1, vI a1), (2, vI a2)]) rfl rfl rfl ?_)
          refine wp_of e279 c279_71 (rw_iload (pc' := 73) (z := v215450) rfl rfl ?_)
          refine wp_of e279 c279_73 (rw_if_eq (p1 := 97) (p2 := 76) (by decide) rfl ⟨by omega, by omega⟩ (fun c215521 => ?_) (fun c215521 => ?_))
          · refine wp_of e279 c279_97 (rw_iload (pc' := 99) (z := v215518) rfl rfl ?_)
            refine wp_of e279 c279_99 (rw_goto (p1 := 104) (by decide) ?_)
            refine wp_of e279 c279_104 (rw_istore (pc' := 106) (z := v215518) (L' := [(4, vI v215518), (6, vI v215518), (5, vI v215450), (0, .ref r0), (1, vI a1), (2, vI a2)]) rfl rfl rfl ?_)
            refine wp_of e279 c279_106 (rw_iinc (pc' := 109) (z := v215450) (L' := [(5, vI (v215450 + 1)), (4, vI v215518), (6, vI v215518), (0, .ref r0), (1, vI a1), (2, vI a2)]) rfl rfl rfl rfl ?_)
            refine wp_of e279 c279_109 (rw_goto (p1 := 31) (by decide) ?_)
            exact wp_lc (ks := [5, 4, 6, 0, 1, 2]) (wl_c rfl (wl_c rfl (wl_c rfl (wl_c rfl (wl_c rfl wl_n))))) rfl (by decide) (ih215449 _ (by omega) (v215450 + 1) v215518 H215488 w215492 f215495 ⟨by omega, by omega⟩ ⟨by omega, by omega⟩ rfl)
          · refine wp_of e279 c279_76 (rw_iload_n (pc' := 77) (z := a2) rfl rfl ?_)
            refine wp_of e279 c279_77 (rw_if_eq (p1 := 90) (p2 := 80) (by decide) rfl ⟨by omega, by omega⟩ (fun c215522 => ?_) (fun c215522 => ?_))
            · refine wp_of e279 c279_90 (rw_iload (pc' := 92) (z := v215518) rfl rfl ?_)
              refine wp_of e279 c279_92 (rw_iload (pc' := 94) (z := v215451) rfl rfl ?_)
              refine wp_of e279 c279_94 (rw_icmp_ge (p1 := 102) (p2 := 97) (by decide) rfl ⟨by omega, by omega⟩ ⟨by omega, by omega⟩ (fun c215523 => ?_) (fun c215523 => ?_))
              · refine wp_of e279 c279_102 (rw_iload (pc' := 104) (z := v215451) rfl rfl ?_)
                refine wp_of e279 c279_104 (rw_istore (pc' := 106) (z := v215451) (L' := [(4, vI v215451), (6, vI v215518), (5, vI v215450), (0, .ref r0), (1, vI a1), (2, vI a2)]) rfl rfl rfl ?_)
                refine wp_of e279 c279_106 (rw_iinc (pc' := 109) (z := v215450) (L' := [(5, vI (v215450 + 1)), (4, vI v215451), (6, vI v215518), (0, .ref r0), (1, vI a1), (2, vI a2)]) rfl rfl rfl rfl ?_)
                refine wp_of e279 c279_109 (rw_goto (p1 := 31) (by decide) ?_)
                exact wp_lc (ks := [5, 4, 6, 0, 1, 2]) (wl_c rfl (wl_c rfl (wl_c rfl (wl_c rfl (wl_c rfl wl_n))))) rfl (by decide) (ih215449 _ (by omega) (v215450 + 1) v215451 H215488 w215492 f215495 ⟨by omega, by omega⟩ ⟨by omega, by omega⟩ rfl)
              · refine wp_of e279 c279_97 (rw_iload (pc' := 99) (z := v215518) rfl rfl ?_)
                refine wp_of e279 c279_99 (rw_goto (p1 := 104) (by decide) ?_)
                refine wp_of e279 c279_104 (rw_istore (pc' := 106) (z := v215518) (L' := [(4, vI v215518), (6, vI v215518), (5, vI v215450), (0, .ref r0), (1, vI a1), (2, vI a2)]) rfl rfl rfl ?_)
                refine wp_of e279 c279_106 (rw_iinc (pc' := 109) (z := v215450) (L' := [(5, vI (v215450 + 1)), (4, vI v215518), (6, vI v215518), (0, .ref r0), (1, vI a1), (2, vI a2)]) rfl rfl rfl rfl ?_)
                refine wp_of e279 c279_109 (rw_goto (p1 := 31) (by decide) ?_)
                exact wp_lc (ks := [5, 4, 6, 0, 1, 2]) (wl_c rfl (wl_c rfl (wl_c rfl (wl_c rfl (wl_c rfl wl_n))))) rfl (by decide) (ih215449 _ (by omega) (v215450 + 1) v215518 H215488 w215492 f215495 ⟨by omega, by omega⟩ ⟨by omega, by omega⟩ rfl)
            · refine wp_of e279 c279_80 (rw_iload (pc' := 82) (z := v215518) rfl rfl ?_)
              refine wp_of e279 c279_82 (rw_iload (pc' := 84) (z := v215451) rfl rfl ?_)
              refine wp_of e279 c279_84 (rw_icmp_le (p1 := 102) (p2 := 87) (by decide) rfl ⟨by omega, by omega⟩ ⟨by omega, by omega⟩ (fun c215524 => ?_) (fun c215524 => ?_))
              · refine wp_of e279 c279_102 (rw_iload (pc' := 104) (z := v215451) rfl rfl ?_)
                refine wp_of e279 c279_104 (rw_istore (pc' := 106) (z := v215451) (L' := [(4, vI v215451), (6, vI v215518), (5, vI v215450), (0, .ref r0), (1, vI a1), (2, vI a2)]) rfl rfl rfl ?_)
                refine wp_of e279 c279_106 (rw_iinc (pc' := 109) (z := v215450) (L' := [(5, vI (v215450 + 1)), (4, vI v215451), (6, vI v215518), (0, .ref r0), (1, vI a1), (2, vI a2)]) rfl rfl rfl rfl ?_)
                refine wp_of e279 c279_109 (rw_goto (p1 := 31) (by decide) ?_)
                exact wp_lc (ks := [5, 4, 6, 0, 1, 2]) (wl_c rfl (wl_c rfl (wl_c rfl (wl_c rfl (wl_c rfl wl_n))))) rfl (by decide) (ih215449 _ (by omega) (v215450 + 1) v215451 H215488 w215492 f215495 ⟨by omega, by omega⟩ ⟨by omega, by omega⟩ rfl)
              · refine wp_of e279 c279_87 (rw_goto (p1 := 97) (by decide) ?_)
                refine wp_of e279 c279_97 (rw_iload (pc' := 99) (z := v215518) rfl rfl ?_)
                refine wp_of e279 c279_99 (rw_goto (p1 := 104) (by decide) ?_)
                refine wp_of e279 c279_104 (rw_istore (pc' := 106) (z := v215518) (L' := [(4, vI v215518), (6, vI v215518), (5, vI v215450), (0, .ref r0), (1, vI a1), (2, vI a2)]) rfl rfl rfl ?_)
                refine wp_of e279 c279_106 (rw_iinc (pc' := 109) (z := v215450) (L' := [(5, vI (v215450 + 1)), (4, vI v215518), (6, vI v215518), (0, .ref r0), (1, vI a1), (2, vI a2)]) rfl rfl rfl rfl ?_)
                refine wp_of e279 c279_109 (rw_goto (p1 := 31) (by decide) ?_)
                exact wp_lc (ks := [5, 4, 6, 0, 1, 2]) (wl_c rfl (wl_c rfl (wl_c rfl (wl_c rfl (wl_c rfl wl_n))))) rfl (by decide) (ih215449 _ (by omega) (v215450 + 1) v215518 H215488 w215492 f215495 ⟨by omega, by omega⟩ ⟨by omega, by omega⟩ rfl)
    exact wp_lc (ks := [5, 4, 3, 0, 1, 2]) (wl_c rfl (wl_c rfl (wl_c rfl (wl_c rfl (wl_c rfl wl_n))))) rfl (by decide) (lp215447 _ 0 0 H215036 w215040 wfr.rf ⟨by omega, by omega⟩ ⟨by omega, by omega⟩ rfl)
  · refine wp_of e279 c279_19 (rw_aload_n (pc' := 20) (v := .ref r0) rfl rfl rfl ?_)
    refine wp_of e279 c279_20 (rw_iload_n (pc' := 21) (z := z215046) rfl rfl ?_)
    refine wp_of e279 c279_21 (xc_V (pc' := 24) (r := r0) (as := [vI z215046]) (st := []) (lm_9_490) rfl rfl (Nat.le_of_ble_eq_true rfl) w215040 g0 sh_42 (by decide) rfl (by decide) (s_281 w215040 g0 ⟨by omega, by omega⟩) (fun R215525 T215526 H215527 p215528 => ?_))
    obtain ⟨e215529, w215531, f215532, z215534, e215530, b215535, p215533⟩ := p215528
    subst e215529
    subst e215530
    have f215536 := f215048.tr f215532 rfl
    show wp _ _ 279 24 [(3, vI z215046), (0, .ref r0), (1, vI a1), (2, vI a2)] [vI z215534] _ H215527 _
    have k215537 : wKI H215527 r0 = wKI H215036 r0 := (wKI_fr w215040 g0 f215532 rfl)
    exact wp_ireturn e279 c279_24 rfl ⟨rfl, w215531, f215536, z215534, rfl, ⟨by omega, by omega⟩, by omega, by omega⟩
/-! StrikeAwakeModel.nothing()I -/
theorem e282 : wq_en 282 = some (9, 5, false, some FieldType.int) := rfl
theorem c282_0 : mc_cd 282 0 = some (.aload_n 0, 1) := by decide +kernel
theorem c282_1 : mc_cd 282 1 = some (.iconst 0, 1) := by decide +kernel
theorem c282_2 : mc_cd 282 2 = some (.putfield 48, 3) := by decide +kernel
theorem c282_5 : mc_cd 282 5 = some (.aload_n 0, 1) := by decide +kernel
theorem c282_6 : mc_cd 282 6 = some (.aload_n 0, 1) := by decide +kernel
theorem c282_7 : mc_cd 282 7 = some (.getfield 337, 3) := by decide +kernel
theorem c282_10 : mc_cd 282 10 = some (.ifnull 7, 3) := by decide +kernel
theorem c282_13 : mc_cd 282 13 = some (.iconst 1, 1) := by decide +kernel
theorem c282_14 : mc_cd 282 14 = some (.goto 4, 3) := by decide +kernel
theorem c282_17 : mc_cd 282 17 = some (.iconst 0, 1) := by decide +kernel
theorem c282_18 : mc_cd 282 18 = some (.invokevirtual 433, 3) := by decide +kernel
theorem c282_21 : mc_cd 282 21 = some (.istore_n 1, 1) := by decide +kernel
theorem c282_22 : mc_cd 282 22 = some (.iload_n 1, 1) := by decide +kernel
theorem c282_23 : mc_cd 282 23 = some (.ifCond .le 9, 3) := by decide +kernel
theorem c282_26 : mc_cd 282 26 = some (.aload_n 0, 1) := by decide +kernel
theorem c282_27 : mc_cd 282 27 = some (.iload_n 1, 1) := by decide +kernel
theorem c282_28 : mc_cd 282 28 = some (.invokevirtual 54, 3) := by decide +kernel
theorem c282_31 : mc_cd 282 31 = some (.ireturn, 1) := by decide +kernel
theorem c282_32 : mc_cd 282 32 = some (.iconst 0, 1) := by decide +kernel
theorem c282_33 : mc_cd 282 33 = some (.istore_n 2, 1) := by decide +kernel
theorem c282_34 : mc_cd 282 34 = some (.iconst 0, 1) := by decide +kernel
theorem c282_35 : mc_cd 282 35 = some (.istore_n 3, 1) := by decide +kernel
theorem c282_36 : mc_cd 282 36 = some (.iload_n 3, 1) := by decide +kernel
theorem c282_37 : mc_cd 282 37 = some (.i2l, 1) := by decide +kernel
theorem c282_38 : mc_cd 282 38 = some (.aload_n 0, 1) := by decide +kernel
theorem c282_39 : mc_cd 282 39 = some (.invokevirtual 376, 3) := by decide +kernel
theorem c282_42 : mc_cd 282 42 = some (.lcmp, 1) := by decide +kernel
theorem c282_43 : mc_cd 282 43 = some (.ifCond .ge 73, 3) := by decide +kernel
theorem c282_46 : mc_cd 282 46 = some (.aload_n 0, 1) := by decide +kernel
theorem c282_47 : mc_cd 282 47 = some (.iload_n 3, 1) := by decide +kernel
theorem c282_48 : mc_cd 282 48 = some (.invokevirtual 425, 3) := by decide +kernel
theorem c282_51 : mc_cd 282 51 = some (.aload_n 0, 1) := by decide +kernel
theorem c282_52 : mc_cd 282 52 = some (.aload_n 0, 1) := by decide +kernel
theorem c282_53 : mc_cd 282 53 = some (.getfield 39, 3) := by decide +kernel
theorem c282_56 : mc_cd 282 56 = some (.invokevirtual 393, 3) := by decide +kernel
theorem c282_59 : mc_cd 282 59 = some (.ifCond .eq 6, 3) := by decide +kernel
theorem c282_62 : mc_cd 282 62 = some (.goto 48, 3) := by decide +kernel
theorem c282_65 : mc_cd 282 65 = some (.iconst 0, 1) := by decide +kernel
theorem c282_66 : mc_cd 282 66 = some (.istore 4, 2) := by decide +kernel
theorem c282_68 : mc_cd 282 68 = some (.iload 4, 2) := by decide +kernel
theorem c282_70 : mc_cd 282 70 = some (.aload_n 0, 1) := by decide +kernel
theorem c282_71 : mc_cd 282 71 = some (.getfield 337, 3) := by decide +kernel
theorem c282_74 : mc_cd 282 74 = some (.getfield 185, 3) := by decide +kernel
theorem c282_77 : mc_cd 282 77 = some (.if_icmp .ge 33, 3) := by decide +kernel
theorem c282_80 : mc_cd 282 80 = some (.iload_n 2, 1) := by decide +kernel
theorem c282_81 : mc_cd 282 81 = some (.aload_n 0, 1) := by decide +kernel
theorem c282_82 : mc_cd 282 82 = some (.aload_n 0, 1) := by decide +kernel
theorem c282_83 : mc_cd 282 83 = some (.getfield 39, 3) := by decide +kernel
theorem c282_86 : mc_cd 282 86 = some (.iload 4, 2) := by decide +kernel
theorem c282_88 : mc_cd 282 88 = some (.invokevirtual 386, 3) := by decide +kernel
theorem c282_91 : mc_cd 282 91 = some (.ifCond .ne 10, 3) := by decide +kernel
theorem c282_94 : mc_cd 282 94 = some (.iconst 1, 1) := by decide +kernel
theorem c282_95 : mc_cd 282 95 = some (.iload 4, 2) := by decide +kernel
theorem c282_97 : mc_cd 282 97 = some (.ishl, 1) := by decide +kernel
theorem c282_98 : mc_cd 282 98 = some (.goto 4, 3) := by decide +kernel
theorem c282_101 : mc_cd 282 101 = some (.iconst 0, 1) := by decide +kernel
theorem c282_102 : mc_cd 282 102 = some (.ior, 1) := by decide +kernel
theorem c282_103 : mc_cd 282 103 = some (.istore_n 2, 1) := by decide +kernel
theorem c282_104 : mc_cd 282 104 = some (.iinc 4 1, 3) := by decide +kernel
theorem c282_107 : mc_cd 282 107 = some (.goto (-39), 3) := by decide +kernel
theorem c282_110 : mc_cd 282 110 = some (.iinc 3 1, 3) := by decide +kernel
theorem c282_113 : mc_cd 282 113 = some (.goto (-77), 3) := by decide +kernel
theorem c282_116 : mc_cd 282 116 = some (.aload_n 0, 1) := by decide +kernel
theorem c282_117 : mc_cd 282 117 = some (.iload_n 2, 1) := by decide +kernel
theorem c282_118 : mc_cd 282 118 = some (.invokevirtual 58, 3) := by decide +kernel
theorem c282_121 : mc_cd 282 121 = some (.ireturn, 1) := by decide +kernel
abbrev q_282 (r0 : Nat) (T : wq_T) (H : wq_H) : Option Value → wq_T → wq_H → Prop := fun r T' H' => T = T' ∧ WT T H' ∧ wfr [(42, 0), (42, 1), (42, 2), (42, 28), (42, 29), (51, 999), (52, 999)] T H H' ∧ ∃ z : Int, some (vI z) = r ∧ ((-2147483648) ≤ z ∧ z ≤ 2147483647) ∧ (wKI H' r0 = 1) ∧ (H' r0 2 = -1)
set_option maxHeartbeats 4000000 in
theorem s_282 {kt : Nat → Option mc_E} {T : wq_T} {H : wq_H} {r0 : Nat} (hW : WT T H) (g0 : T.2.2.2 r0 = some 42) (p0 : wKI H r0 = 1) : wpc kt 8 282 [.ref r0] T H (q_282 r0 T H) := by
  refine wp_enter e282 (Nat.le_of_ble_eq_true rfl) rfl ?_
  have f0 : wfr [(42, 0), (42, 1), (42, 2), (42, 28), (42, 29), (51, 999), (52, 999)] T H H := wfr.rf
  show wp _ _ 282 0 [(0, .ref r0)] [] _ H _
  refine wp_of e282 c282_0 (rw_aload_n (pc' := 1) (v := .ref r0) rfl rfl rfl ?_)
  refine wp_of e282 c282_1 (rw_iconst (pc' := 2) rfl ?_)
  refine wp_of e282 c282_2 (xp_I (pc' := 5) lf_9_48 hW g0 sh_42 (by decide) (by decide) ty_42_0 rfl rfl (by omega) (by omega) ⟨by omega, by omega⟩ rfl (fun H217807 e217808 w217809 => ?_))
  have f217810 := f0.put' e217808 g0 rfl
  have k217811 : H217807 r0 0 = 0 := wq_u_s e217808
  refine wp_of e282 c282_5 (rw_aload_n (pc' := 6) (v := .ref r0) rfl rfl rfl ?_)
  refine wp_of e282 c282_6 (rw_aload_n (pc' := 7) (v := .ref r0) rfl rfl rfl ?_)
  refine wp_of e282 c282_7 (xg_O (pc' := 10) lf_9_337 w217809 g0 sh_42 (by decide) (by decide) ty_42_3 rfl rfl (fun q217813 => ?_) (fun r217812 q217813 g217814 => ?_))
  · refine wp_of e282 c282_10 (rw_ifnull_n (p1 := 17) (p2 := 13) (by decide) rfl ?_)
    refine wp_of e282 c282_17 (rw_iconst (pc' := 18) rfl ?_)
    have k217815 : wKI H217807 r0 = wKI H r0 := (wKI_fr hW g0 ((wfr.rf (l := [(42, 0)])).put' e217808 g0 rfl) rfl)
    refine wp_of e282 c282_18 (xc_V (pc' := 21) (r := r0) (as := [vI 0]) (st := []) (lm_9_433) rfl rfl (Nat.le_of_ble_eq_true rfl) w217809 g0 sh_42 (by decide) rfl (by decide) (s_241 w217809 g0 ⟨by omega, by omega⟩ (by omega) (by omega)) (fun R217816 T217817 H217818 p217819 => ?_))
    obtain ⟨e217820, w217822, f217823, z217828, e217821, b217829, p217824, p217825, p217826, p217827⟩ := p217819
    subst e217820
    subst e217821
    have f217830 := f217810.tr f217823 rfl
    show wp _ _ 282 21 [(0, .ref r0)] [vI z217828] _ H217818 _
    refine wp_of e282 c282_21 (rw_istore_n (pc' := 22) (z := z217828) (L' := [(1, vI z217828), (0, .ref r0)]) rfl rfl rfl ?_)
    refine wp_of e282 c282_22 (rw_iload_n (pc' := 23) (z := z217828) rfl rfl ?_)
    refine wp_of e282 c282_23 (rw_if_le (p1 := 32) (p2 := 26) (by decide) rfl ⟨by omega, by omega⟩ (fun c217831 => ?_) (fun c217831 => ?_))
    · exfalso
      omega
    · refine wp_of e282 c282_26 (rw_aload_n (pc' := 27) (v := .ref r0) rfl rfl rfl ?_)
      refine wp_of e282 c282_27 (rw_iload_n (pc' := 28) (z := z217828) rfl rfl ?_)
      refine wp_of e282 c282_28 (xc_V (pc' := 31) (r := r0) (as := [vI z217828]) (st := []) (lm_9_54) rfl rfl (Nat.le_of_ble_eq_true rfl) w217822 g0 sh_42 (by decide) rfl (by decide) (s_170 w217822 g0 ⟨by omega, by omega⟩) (fun R217832 T217833 H217834 p217835 => ?_))
      obtain ⟨e217836, w217838, f217839, z217841, e217837, b217842, p217840⟩ := p217835
      subst e217836
      subst e217837
      have f217843 := f217830.tr f217839 rfl
      show wp _ _ 282 31 [(1, vI z217828), (0, .ref r0)] [vI z217841] _ H217834 _
      have k217844 : wKI H217834 r0 = wKI H217818 r0 := (wKI_fr w217822 g0 f217839 rfl)
      exact wp_ireturn e282 c282_31 rfl ⟨rfl, w217838, f217843, z217841, rfl, ⟨by omega, by omega⟩, by omega, by omega⟩
  · refine wp_of e282 c282_10 (rw_ifnull_r (p1 := 17) (p2 := 13) (by decide) rfl ?_)
    refine wp_of e282 c282_13 (rw_iconst (pc' := 14) rfl ?_)
    refine wp_of e282 c282_14 (rw_goto (p1 := 18) (by decide) ?_)
    have k217845 : wKI H217807 r0 = wKI H r0 := (wKI_fr hW g0 ((wfr.rf (l := [(42, 0)])).put' e217808 g0 rfl) rfl)
    refine wp_of e282 c282_18 (xc_V (pc' := 21) (r := r0) (as := [vI 1]) (st := []) (lm_9_433) rfl rfl (Nat.le_of_ble_eq_true rfl) w217809 g0 sh_42 (by decide) rfl (by decide) (s_241 w217809 g0 ⟨by omega, by omega⟩ (by omega) (by omega)) (fun R217846 T217847 H217848 p217849 => ?_))
    obtain ⟨e217850, w217852, f217853, z217858, e217851, b217859, p217854, p217855, p217856, p217857⟩ := p217849
    subst e217850
    subst e217851
    have f217860 := f217810.tr f217853 rfl
    show wp _ _ 282 21 [(0, .ref r0)] [vI z217858] _ H217848 _
    refine wp_of e282 c282_21 (rw_istore_n (pc' := 22) (z := z217858) (L' := [(1, vI z217858), (0, .ref r0)]) rfl rfl rfl ?_)
    refine wp_of e282 c282_22 (rw_iload_n (pc' := 23) (z := z217858) rfl rfl ?_)
    refine wp_of e282 c282_23 (rw_if_le (p1 := 32) (p2 := 26) (by decide) rfl ⟨by omega, by omega⟩ (fun c217861 => ?_) (fun c217861 => ?_))
    · refine wp_of e282 c282_32 (rw_iconst (pc' := 33) rfl ?_)
      refine wp_of e282 c282_33 (rw_istore_n (pc' := 34) (z := 0) (L' := [(2, vI 0), (1, vI z217858), (0, .ref r0)]) rfl rfl rfl ?_)
      refine wp_of e282 c282_34 (rw_iconst (pc' := 35) rfl ?_)
      refine wp_of e282 c282_35 (rw_istore_n (pc' := 36) (z := 0) (L' := [(3, vI 0), (2, vI 0), (1, vI z217858), (0, .ref r0)]) rfl rfl rfl ?_)
      have lp219806 : ∀ (n219807 : Nat) (v219809 : Int) (v219810 : Int) (H219811 : wq_H), WT T H219811 → wfr [(51, 999)] T H217848 H219811 → (0 ≤ v219809 ∧ v219809 ≤ 20000) → (0 ≤ v219810 ∧ v219810 ≤ 16777215) → (20000 - v219809).toNat = n219807 → wp kt 7 282 36 [(3, vI v219809), (2, vI v219810), (0, .ref r0)] [] T H219811 (q_282 r0 T H) := by
        intro n219807
        induction n219807 using Nat.strongRecOn with
        | _ n219807 ih219808 =>
          intro v219809 v219810 H219811 w219812 f219813 b219814 b219815 m219816
          have f219817 := f217860.tr f219813 rfl
          refine wp_of e282 c282_36 (rw_iload_n (pc' := 37) (z := v219809) rfl rfl ?_)
          refine wp_of e282 c282_37 (rw_i2l (pc' := 38) rfl ⟨by omega, by omega⟩ ?_)
          refine wp_of e282 c282_38 (rw_aload_n (pc' := 39) (v := .ref r0) rfl rfl rfl ?_)
          have k219818 : wLM H219811 r0 = wLM H217848 r0 := (wLM_fr w217852 g0 f219813 rfl)
          have k219819 : H219811 r0 3 = H217807 r0 3 := ((f219813 r0 3 _ g0 rfl).trans (f217853 r0 3 _ g0 rfl))
          have q219820 : H219811 r0 3 = (r217812 : Int) := k219819.trans q217813
          refine wp_of e282 c282_39 (xc_V (pc' := 42) (r := r0) (as := []) (st := [vL v219809]) (lm_9_376) rfl rfl (Nat.le_of_ble_eq_true rfl) w219812 g0 sh_42 (by decide) rfl (by decide) (s_220 w219812 g0 q219820 g217814) (fun R219821 T219822 H219823 p219824 => ?_))
          obtain ⟨e219825, e219827, z219829, e219826, b219830, p219828⟩ := p219824
          subst e219825
          subst e219826
          subst e219827
          show wp _ _ 282 42 [(3, vI v219809), (2, vI v219810), (0, .ref r0)] [vL z219829, vL v219809] _ H219811 _
          refine wp_of e282 c282_42 (rw_lcmp (pc' := 43) rfl ⟨by omega, by omega⟩ ⟨by omega, by omega⟩ ?_)
          have b219831 := wq_cmp_b v219809 z219829
          refine wp_of e282 c282_43 (rw_if_ge (p1 := 116) (p2 := 46) (by decide) rfl ⟨by omega, by omega⟩ (fun c219832 => ?_) (fun c219832 => ?_))
          · refine wp_of e282 c282_116 (rw_aload_n (pc' := 117) (v := .ref r0) rfl rfl rfl ?_)
            refine wp_of e282 c282_117 (rw_iload_n (pc' := 118) (z := v219810) rfl rfl ?_)
            refine wp_of e282 c282_118 (xc_V (pc' := 121) (r := r0) (as := [vI v219810]) (st := []) (lm_9_58) rfl rfl (Nat.le_of_ble_eq_true rfl) w219812 g0 sh_42 (by decide) rfl (by decide) (s_209 w219812 g0 ⟨by omega, by omega⟩) (fun R219833 T219834 H219835 p219836 => ?_))
            obtain ⟨e219837, w219839, f219840, z219842, e219838, b219843, p219841⟩ := p219836
            subst e219837
            subst e219838
            have f219844 := f219817.tr f219840 rfl
            show wp _ _ 282 121 [(3, vI v219809), (2, vI v219810), (0, .ref r0)] [vI z219842] _ H219835 _
            have k219845 : wKI H219835 r0 = wKI H217848 r0 := ((wKI_fr w219812 g0 f219840 rfl).trans (wKI_fr w217852 g0 f219813 rfl))
            exact wp_ireturn e282 c282_121 rfl ⟨rfl, w219839, f219844, z219842, rfl, ⟨by omega, by omega⟩, by omega, by omega⟩
          · refine wp_of e282 c282_46 (rw_aload_n (pc' := 47) (v := .ref r0) rfl rfl rfl ?_)
            refine wp_of e282 c282_47 (rw_iload_n (pc' := 48) (z := v219809) rfl rfl ?_)
            refine wp_of e282 c282_48 (xc_V (pc' := 51) (r := r0) (as := [vI v219809]) (st := []) (lm_9_425) rfl rfl (Nat.le_of_ble_eq_true rfl) w219812 g0 sh_42 (by decide) rfl (by decide) (s_243 w219812 g0 ⟨by omega, by omega⟩ q219820 g217814 (by omega)) (fun R219846 T219847 H219848 p219849 => ?_))
            obtain ⟨e219850, w219852, f219853, e219851⟩ := p219849
            subst e219850
            subst e219851
            have f219854 := f219817.tr f219853 rfl
            have f219855 := f219813.tr f219853 rfl
            show wp _ _ 282 51 [(3, vI v219809), (2, vI v219810), (0, .ref r0)] [] _ H219848 _
            refine wp_of e282 c282_51 (rw_aload_n (pc' := 52) (v := .ref r0) rfl rfl rfl ?_)
            refine wp_of e282 c282_52 (rw_aload_n (pc' := 53) (v := .ref r0) rfl rfl rfl ?_)
            refine wp_of e282 c282_53 (xg_R (pc' := 56) lf_9_39 w219852 g0 sh_42 (by decide) (by decide) ty_42_27 rfl rfl (fun r219856 q219857 g219858 => ?_))
            have k219859 : H219848 r0 3 = H219811 r0 3 := (f219853 r0 3 _ g0 rfl)
            have q219860 : H219848 r0 3 = (r217812 : Int) := k219859.trans q219820
            refine wp_of e282 c282_56 (xc_V (pc' := 59) (r := r0) (as := [.ref r219856]) (st := []) (lm_9_393) rfl rfl (Nat.le_of_ble_eq_true rfl) w219852 g0 sh_42 (by decide) rfl (by decide) (s_235_m_lot w219852 g0 g219858 q219860 g217814) (fun R219861 T219862 H219863 p219864 => ?_))
            obtain ⟨e219865, e219867, z219868, e219866, b219869⟩ := p219864
            subst e219865
            subst e219866
            subst e219867
            show wp _ _ 282 59 [(3, vI v219809), (2, vI v219810), (0, .ref r0)] [vI z219868] _ H219848 _
            refine wp_of e282 c282_59 (rw_if_eq (p1 := 65) (p2 := 62) (by decide) rfl ⟨by omega, by omega⟩ (fun c219870 => ?_) (fun c219870 => ?_))
            · refine wp_of e282 c282_65 (rw_iconst (pc' := 66) rfl ?_)
              refine wp_of e282 c282_66 (rw_istore (pc' := 68) (z := 0) (L' := [(4, vI 0), (3, vI v219809), (2, vI v219810), (0, .ref r0)]) rfl rfl rfl ?_)
              have lp220055 : ∀ (n220056 : Nat) (v220058 : Int) (v220059 : Int), (0 ≤ v220058 ∧ v220058 ≤ 24) → (0 ≤ v220059 ∧ v220059 ≤ 16777215) → (24 - v220058).toNat = n220056 → wp kt 7 282 68 [(4, vI v220058), (2, vI v220059), (3, vI v219809), (0, .ref r0)] [] T H219848 (q_282 r0 T H) := by
                intro n220056
                induction n220056 using Nat.strongRecOn with
                | _ n220056 ih220057 =>
                  intro v220058 v220059 b220062 b220063 m220064
                  refine wp_of e282 c282_68 (rw_iload (pc' := 70) (z := v220058) rfl rfl ?_)
                  refine wp_of e282 c282_70 (rw_aload_n (pc' := 71) (v := .ref r0) rfl rfl rfl ?_)
                  refine wp_of e282 c282_71 (xg_K (pc' := 74) lf_9_337 w219852 g0 sh_42 (by decide) (by decide) rfl q219860 rfl ?_)
                  refine wp_of e282 c282_74 (xg_I (pc' := 77) lf_9_185 w219852 g217814 sh_54 (by decide) (by decide) ty_54_0 rfl rfl (fun b220065 b220066 => ?_))
                  refine wp_of e282 c282_77 (rw_icmp_ge (p1 := 110) (p2 := 80) (by decide) rfl ⟨by omega, by omega⟩ ⟨by omega, by omega⟩ (fun c220067 => ?_) (fun c220067 => ?_))
                  · refine wp_of e282 c282_110 (rw_iinc (pc' := 113) (z := v219809) (L' := [(3, vI (v219809 + 1)), (4, vI v220058), (2, vI v220059), (0, .ref r0)]) rfl rfl rfl rfl ?_)
                    refine wp_of e282 c282_113 (rw_goto (p1 := 36) (by decide) ?_)
                    exact wp_lc (ks := [3, 4, 2, 0]) (wl_c rfl (wl_c rfl (wl_c rfl wl_n))) rfl (by decide) (ih219808 _ (by omega) (v219809 + 1) v220059 H219848 w219852 f219855 ⟨by omega, by omega⟩ ⟨by omega, by omega⟩ rfl)
                  · refine wp_of e282 c282_80 (rw_iload_n (pc' := 81) (z := v220059) rfl rfl ?_)
                    refine wp_of e282 c282_81 (rw_aload_n (pc' := 82) (v := .ref r0) rfl rfl rfl ?_)
                    refine wp_of e282 c282_82 (rw_aload_n (pc' := 83) (v := .ref r0) rfl rfl rfl ?_)
                    refine wp_of e282 c282_83 (xg_K (pc' := 86) lf_9_39 w219852 g0 sh_42 (by decide) (by decide) rfl q219857 rfl ?_)
                    refine wp_of e282 c282_86 (rw_iload (pc' := 88) (z := v220058) rfl rfl ?_)
                    refine wp_of e282 c282_88 (xc_V (pc' := 91) (r := r0) (as := [.ref r219856, vI v220058]) (st := [vI v220059]) (lm_9_386) rfl rfl (Nat.le_of_ble_eq_true rfl) w219852 g0 sh_42 (by decide) rfl (by decide) (s_228_m_lot w219852 g0 g219858 ⟨by omega, by omega⟩ q219860 g217814) (fun R220068 T220069 H220070 p220071 => ?_))
                    obtain ⟨e220072, e220074, z220075, e220073, b220076⟩ := p220071
                    subst e220072
                    subst e220073
                    subst e220074
                    show wp _ _ 282 91 [(4, vI v220058), (2, vI v220059), (3, vI v219809), (0, .ref r0)] [vI z220075, vI v220059] _ H219848 _
                    refine wp_of e282 c282_91 (rw_if_ne (p1 := 101) (p2 := 94) (by decide) rfl ⟨by omega, by omega⟩ (fun c220077 => ?_) (fun c220077 => ?_))
                    · refine wp_of e282 c282_101 (rw_iconst (pc' := 102) rfl ?_)
                      refine wp_of e282 c282_102 (rw_ior (pc' := 103) rfl ?_)
                      obtain ⟨v220078, e220079⟩ : ∃ x : Int, x = wq_or v220059 0 := ⟨_, rfl⟩
                      rw [← e220079]
                      have b220080 : 0 ≤ v220078 ∧ v220078 ≤ 16777215 := by
                        rw [e220079]
                        exact wq_or_24 ⟨by omega, by omega⟩ ⟨by omega, by omega⟩
                      refine wp_of e282 c282_103 (rw_istore_n (pc' := 104) (z := v220078) (L' := [(2, vI v220078), (4, vI v220058), (3, vI v219809), (0, .ref r0)]) rfl rfl rfl ?_)
                      refine wp_of e282 c282_104 (rw_iinc (pc' := 107) (z := v220058) (L' := [(4, vI (v220058 + 1)), (2, vI v220078), (3, vI v219809), (0, .ref r0)]) rfl rfl rfl rfl ?_)
                      refine wp_of e282 c282_107 (rw_goto (p1 := 68) (by decide) ?_)
                      exact wp_lc (ks := [4, 2, 3, 0]) (wl_c rfl (wl_c rfl (wl_c rfl (wl_c rfl wl_n)))) rfl (by decide) (ih220057 _ (by omega) (v220058 + 1) v220078 ⟨by omega, by omega⟩ ⟨by omega, by omega⟩ rfl)
                    · refine wp_of e282 c282_94 (rw_iconst (pc' := 95) rfl ?_)
                      refine wp_of e282 c282_95 (rw_iload (pc' := 97) (z := v220058) rfl rfl ?_)
                      refine wp_of e282 c282_97 (rw_ishl (pc' := 98) rfl ?_)
                      obtain ⟨v220081, e220082⟩ : ∃ x : Int, x = wq_shl 1 v220058 := ⟨_, rfl⟩
                      rw [← e220082]
                      have b220083 : 1 ≤ v220081 ∧ v220081 ≤ 8388608 := by
                        rw [e220082]
                        exact wq_shl1_24 ⟨by omega, by omega⟩
                      refine wp_of e282 c282_98 (rw_goto (p1 := 102) (by decide) ?_)
                      refine wp_of e282 c282_102 (rw_ior (pc' := 103) rfl ?_)
                      obtain ⟨v220084, e220085⟩ : ∃ x : Int, x = wq_or v220059 v220081 := ⟨_, rfl⟩
                      rw [← e220085]
                      have b220086 : 0 ≤ v220084 ∧ v220084 ≤ 16777215 := by
                        rw [e220085]
                        exact wq_or_24 ⟨by omega, by omega⟩ ⟨by omega, by omega⟩
                      refine wp_of e282 c282_103 (rw_istore_n (pc' := 104) (z := v220084) (L' := [(2, vI v220084), (4, vI v220058), (3, vI v219809), (0, .ref r0)]) rfl rfl rfl ?_)
                      refine wp_of e282 c282_104 (rw_iinc (pc' := 107) (z := v220058) (L' := [(4, vI (v220058 + 1)), (2, vI v220084), (3, vI v219809), (0, .ref r0)]) rfl rfl rfl rfl ?_)
                      refine wp_of e282 c282_107 (rw_goto (p1 := 68) (by decide) ?_)
                      exact wp_lc (ks := [4, 2, 3, 0]) (wl_c rfl (wl_c rfl (wl_c rfl (wl_c rfl wl_n)))) rfl (by decide) (ih220057 _ (by omega) (v220058 + 1) v220084 ⟨by omega, by omega⟩ ⟨by omega, by omega⟩ rfl)
              exact wp_lc (ks := [4, 3, 2, 0]) (wl_c rfl (wl_c rfl (wl_c rfl (wl_c rfl wl_n)))) rfl (by decide) (lp220055 _ 0 v219810 ⟨by omega, by omega⟩ ⟨by omega, by omega⟩ rfl)
            · refine wp_of e282 c282_62 (rw_goto (p1 := 110) (by decide) ?_)
              refine wp_of e282 c282_110 (rw_iinc (pc' := 113) (z := v219809) (L' := [(3, vI (v219809 + 1)), (2, vI v219810), (0, .ref r0)]) rfl rfl rfl rfl ?_)
              refine wp_of e282 c282_113 (rw_goto (p1 := 36) (by decide) ?_)
              exact wp_lc (ks := [3, 2, 0]) (wl_c rfl (wl_c rfl (wl_c rfl wl_n))) rfl (by decide) (ih219808 _ (by omega) (v219809 + 1) v219810 H219848 w219852 f219855 ⟨by omega, by omega⟩ ⟨by omega, by omega⟩ rfl)
      exact wp_lc (ks := [3, 2, 1, 0]) (wl_c rfl (wl_c rfl (wl_c rfl wl_n))) rfl (by decide) (lp219806 _ 0 0 H217848 w217852 wfr.rf ⟨by omega, by omega⟩ ⟨by omega, by omega⟩ rfl)
    · refine wp_of e282 c282_26 (rw_aload_n (pc' := 27) (v := .ref r0) rfl rfl rfl ?_)
      refine wp_of e282 c282_27 (rw_iload_n (pc' := 28) (z := z217858) rfl rfl ?_)
      refine wp_of e282 c282_28 (xc_V (pc' := 31) (r := r0) (as := [vI z217858]) (st := []) (lm_9_54) rfl rfl (Nat.le_of_ble_eq_true rfl) w217852 g0 sh_42 (by decide) rfl (by decide) (s_170 w217852 g0 ⟨by omega, by omega⟩) (fun R220087 T220088 H220089 p220090 => ?_))
      obtain ⟨e220091, w220093, f220094, z220096, e220092, b220097, p220095⟩ := p220090
      subst e220091
      subst e220092
      have f220098 := f217860.tr f220094 rfl
      show wp _ _ 282 31 [(1, vI z217858), (0, .ref r0)] [vI z220096] _ H220089 _
      have k220099 : wKI H220089 r0 = wKI H217848 r0 := (wKI_fr w217852 g0 f220094 rfl)
      exact wp_ireturn e282 c282_31 rfl ⟨rfl, w220093, f220098, z220096, rfl, ⟨by omega, by omega⟩, by omega, by omega⟩
/-! StrikeAwakeModel.keep()I -/
theorem e283 : wq_en 283 = some (9, 5, false, some FieldType.int) := rfl
theorem c283_0 : mc_cd 283 0 = some (.aload_n 0, 1) := by decide +kernel
theorem c283_1 : mc_cd 283 1 = some (.iconst 0, 1) := by decide +kernel
theorem c283_2 : mc_cd 283 2 = some (.putfield 48, 3) := by decide +kernel
theorem c283_5 : mc_cd 283 5 = some (.aload_n 0, 1) := by decide +kernel
theorem c283_6 : mc_cd 283 6 = some (.getfield 337, 3) := by decide +kernel
theorem c283_9 : mc_cd 283 9 = some (.ifnonnull 9, 3) := by decide +kernel
theorem c283_12 : mc_cd 283 12 = some (.aload_n 0, 1) := by decide +kernel
theorem c283_13 : mc_cd 283 13 = some (.iconst 1, 1) := by decide +kernel
theorem c283_14 : mc_cd 283 14 = some (.invokevirtual 54, 3) := by decide +kernel
theorem c283_17 : mc_cd 283 17 = some (.ireturn, 1) := by decide +kernel
theorem c283_18 : mc_cd 283 18 = some (.bipush (-2), 2) := by decide +kernel
theorem c283_20 : mc_cd 283 20 = some (.istore_n 1, 1) := by decide +kernel
theorem c283_21 : mc_cd 283 21 = some (.iconst 0, 1) := by decide +kernel
theorem c283_22 : mc_cd 283 22 = some (.istore_n 2, 1) := by decide +kernel
theorem c283_23 : mc_cd 283 23 = some (.iload_n 2, 1) := by decide +kernel
theorem c283_24 : mc_cd 283 24 = some (.iconst 1, 1) := by decide +kernel
theorem c283_25 : mc_cd 283 25 = some (.aload_n 0, 1) := by decide +kernel
theorem c283_26 : mc_cd 283 26 = some (.getfield 337, 3) := by decide +kernel
theorem c283_29 : mc_cd 283 29 = some (.getfield 321, 3) := by decide +kernel
theorem c283_32 : mc_cd 283 32 = some (.ishl, 1) := by decide +kernel
theorem c283_33 : mc_cd 283 33 = some (.if_icmp .ge 88, 3) := by decide +kernel
theorem c283_36 : mc_cd 283 36 = some (.iconst 0, 1) := by decide +kernel
theorem c283_37 : mc_cd 283 37 = some (.istore_n 3, 1) := by decide +kernel
theorem c283_38 : mc_cd 283 38 = some (.iconst 0, 1) := by decide +kernel
theorem c283_39 : mc_cd 283 39 = some (.istore 4, 2) := by decide +kernel
theorem c283_41 : mc_cd 283 41 = some (.iload 4, 2) := by decide +kernel
theorem c283_43 : mc_cd 283 43 = some (.aload_n 0, 1) := by decide +kernel
theorem c283_44 : mc_cd 283 44 = some (.getfield 337, 3) := by decide +kernel
theorem c283_47 : mc_cd 283 47 = some (.getfield 321, 3) := by decide +kernel
theorem c283_50 : mc_cd 283 50 = some (.if_icmp .ge 35, 3) := by decide +kernel
theorem c283_53 : mc_cd 283 53 = some (.iload_n 3, 1) := by decide +kernel
theorem c283_54 : mc_cd 283 54 = some (.iload_n 2, 1) := by decide +kernel
theorem c283_55 : mc_cd 283 55 = some (.iload 4, 2) := by decide +kernel
theorem c283_57 : mc_cd 283 57 = some (.invokestatic 346, 3) := by decide +kernel
theorem c283_60 : mc_cd 283 60 = some (.ifCond .eq 16, 3) := by decide +kernel
theorem c283_63 : mc_cd 283 63 = some (.aload_n 0, 1) := by decide +kernel
theorem c283_64 : mc_cd 283 64 = some (.getfield 337, 3) := by decide +kernel
theorem c283_67 : mc_cd 283 67 = some (.getfield 327, 3) := by decide +kernel
theorem c283_70 : mc_cd 283 70 = some (.iload 4, 2) := by decide +kernel
theorem c283_72 : mc_cd 283 72 = some (.iaload, 1) := by decide +kernel
theorem c283_73 : mc_cd 283 73 = some (.goto 4, 3) := by decide +kernel
theorem c283_76 : mc_cd 283 76 = some (.iconst 0, 1) := by decide +kernel
theorem c283_77 : mc_cd 283 77 = some (.ior, 1) := by decide +kernel
theorem c283_78 : mc_cd 283 78 = some (.istore_n 3, 1) := by decide +kernel
theorem c283_79 : mc_cd 283 79 = some (.iinc 4 1, 3) := by decide +kernel
theorem c283_82 : mc_cd 283 82 = some (.goto (-41), 3) := by decide +kernel
theorem c283_85 : mc_cd 283 85 = some (.aload_n 0, 1) := by decide +kernel
theorem c283_86 : mc_cd 283 86 = some (.getfield 343, 3) := by decide +kernel
theorem c283_89 : mc_cd 283 89 = some (.iload_n 3, 1) := by decide +kernel
theorem c283_90 : mc_cd 283 90 = some (.iconst (-1), 1) := by decide +kernel
theorem c283_91 : mc_cd 283 91 = some (.ixor, 1) := by decide +kernel
theorem c283_92 : mc_cd 283 92 = some (.iand, 1) := by decide +kernel
theorem c283_93 : mc_cd 283 93 = some (.ifCond .ne 22, 3) := by decide +kernel
theorem c283_96 : mc_cd 283 96 = some (.iload_n 1, 1) := by decide +kernel
theorem c283_97 : mc_cd 283 97 = some (.bipush (-2), 2) := by decide +kernel
theorem c283_99 : mc_cd 283 99 = some (.if_icmp .eq 14, 3) := by decide +kernel
theorem c283_102 : mc_cd 283 102 = some (.iload_n 2, 1) := by decide +kernel
theorem c283_103 : mc_cd 283 103 = some (.invokestatic 462, 3) := by decide +kernel
theorem c283_106 : mc_cd 283 106 = some (.iload_n 1, 1) := by decide +kernel
theorem c283_107 : mc_cd 283 107 = some (.invokestatic 462, 3) := by decide +kernel
theorem c283_110 : mc_cd 283 110 = some (.if_icmp .ge 5, 3) := by decide +kernel
theorem c283_113 : mc_cd 283 113 = some (.iload_n 2, 1) := by decide +kernel
theorem c283_114 : mc_cd 283 114 = some (.istore_n 1, 1) := by decide +kernel
theorem c283_115 : mc_cd 283 115 = some (.iinc 2 1, 3) := by decide +kernel
theorem c283_118 : mc_cd 283 118 = some (.goto (-95), 3) := by decide +kernel
theorem c283_121 : mc_cd 283 121 = some (.aload_n 0, 1) := by decide +kernel
theorem c283_122 : mc_cd 283 122 = some (.iload_n 1, 1) := by decide +kernel
theorem c283_123 : mc_cd 283 123 = some (.invokevirtual 58, 3) := by decide +kernel
theorem c283_126 : mc_cd 283 126 = some (.ireturn, 1) := by decide +kernel
abbrev q_283 (r0 : Nat) (T : wq_T) (H : wq_H) : Option Value → wq_T → wq_H → Prop := fun r T' H' => T = T' ∧ WT T H' ∧ wfr [(42, 0), (42, 1), (42, 2)] T H H' ∧ ∃ z : Int, some (vI z) = r ∧ ((-2147483648) ≤ z ∧ z ≤ 2147483647) ∧ (wKI H' r0 = 1) ∧ (H' r0 2 = -1)
set_option maxHeartbeats 4000000 in
theorem s_283 {kt : Nat → Option mc_E} {T : wq_T} {H : wq_H} {r0 : Nat} (hW : WT T H) (g0 : T.2.2.2 r0 = some 42) (p0 : wKI H r0 = 1) : wpc kt 2 283 [.ref r0] T H (q_283 r0 T H) := by
  refine wp_enter e283 (Nat.le_of_ble_eq_true rfl) rfl ?_
  have f0 : wfr [(42, 0), (42, 1), (42, 2)] T H H := wfr.rf
  show wp _ _ 283 0 [(0, .ref r0)] [] _ H _
  refine wp_of e283 c283_0 (rw_aload_n (pc' := 1) (v := .ref r0) rfl rfl rfl ?_)
  refine wp_of e283 c283_1 (rw_iconst (pc' := 2) rfl ?_)
  refine wp_of e283 c283_2 (xp_I (pc' := 5) lf_9_48 hW g0 sh_42 (by decide) (by decide) ty_42_0 rfl rfl (by omega) (by omega) ⟨by omega, by omega⟩ rfl (fun H222202 e222203 w222204 => ?_))
  have f222205 := f0.put' e222203 g0 rfl
  have k222206 : H222202 r0 0 = 0 := wq_u_s e222203
  refine wp_of e283 c283_5 (rw_aload_n (pc' := 6) (v := .ref r0) rfl rfl rfl ?_)
  refine wp_of e283 c283_6 (xg_O (pc' := 9) lf_9_337 w222204 g0 sh_42 (by decide) (by decide) ty_42_3 rfl rfl (fun q222208 => ?_) (fun r222207 q222208 g222209 => ?_))
  · refine wp_of e283 c283_9 (rw_ifnonnull_n (p1 := 18) (p2 := 12) (by decide) rfl ?_)
    refine wp_of e283 c283_12 (rw_aload_n (pc' := 13) (v := .ref r0) rfl rfl rfl ?_)
    refine wp_of e283 c283_13 (rw_iconst (pc' := 14) rfl ?_)
    refine wp_of e283 c283_14 (xc_V (pc' := 17) (r := r0) (as := [vI 1]) (st := []) (lm_9_54) rfl rfl (Nat.le_of_ble_eq_true rfl) w222204 g0 sh_42 (by decide) rfl (by decide) (s_170 w222204 g0 ⟨by omega, by omega⟩) (fun R222210 T222211 H222212 p222213 => ?_))
    obtain ⟨e222214, w222216, f222217, z222219, e222215, b222220, p222218⟩ := p222213
    subst e222214
    subst e222215
    have f222221 := f222205.tr f222217 rfl
    show wp _ _ 283 17 [(0, .ref r0)] [vI z222219] _ H222212 _
    have k222222 : wKI H222212 r0 = wKI H r0 := ((wKI_fr w222204 g0 f222217 rfl).trans (wKI_fr hW g0 ((wfr.rf (l := [(42, 0)])).put' e222203 g0 rfl) rfl))
    exact wp_ireturn e283 c283_17 rfl ⟨rfl, w222216, f222221, z222219, rfl, ⟨by omega, by omega⟩, by omega, by omega⟩
  · refine wp_of e283 c283_9 (rw_ifnonnull_r (p1 := 18) (p2 := 12) (by decide) rfl ?_)
    refine wp_of e283 c283_18 (rw_bipush (pc' := 20) (z := -2) rfl (by decide) ?_)
    refine wp_of e283 c283_20 (rw_istore_n (pc' := 21) (z := -2) (L' := [(1, vI (-2)), (0, .ref r0)]) rfl rfl rfl ?_)
    refine wp_of e283 c283_21 (rw_iconst (pc' := 22) rfl ?_)
    refine wp_of e283 c283_22 (rw_istore_n (pc' := 23) (z := 0) (L' := [(2, vI 0), (1, vI (-2)), (0, .ref r0)]) rfl rfl rfl ?_)
    have lp224060 : ∀ (n224061 : Nat) (v224063 : Int) (v224064 : Int), (0 ≤ v224063 ∧ v224063 ≤ 64) → ((-2) ≤ v224064 ∧ v224064 ≤ 64) → (v224064 = -2 ∨ 0 ≤ v224064) → (64 - v224063).toNat = n224061 → wp kt 1 283 23 [(2, vI v224063), (1, vI v224064), (0, .ref r0)] [] T H222202 (q_283 r0 T H) := by
      intro n224061
      induction n224061 using Nat.strongRecOn with
      | _ n224061 ih224062 =>
        intro v224063 v224064 b224067 b224068 x224069 m224070
        refine wp_of e283 c283_23 (rw_iload_n (pc' := 24) (z := v224063) rfl rfl ?_)
        refine wp_of e283 c283_24 (rw_iconst (pc' := 25) rfl ?_)
        refine wp_of e283 c283_25 (rw_aload_n (pc' := 26) (v := .ref r0) rfl rfl rfl ?_)
        refine wp_of e283 c283_26 (xg_K (pc' := 29) lf_9_337 w222204 g0 sh_42 (by decide) (by decide) rfl q222208 rfl ?_)
        refine wp_of e283 c283_29 (xg_I (pc' := 32) lf_9_321 w222204 g222209 sh_54 (by decide) (by decide) ty_54_7 rfl rfl (fun b224071 b224072 => ?_))
        refine wp_of e283 c283_32 (rw_ishl (pc' := 33) rfl ?_)
        obtain ⟨v224073, e224074⟩ : ∃ x : Int, x = wq_shl 1 (H222202 r222207 7) := ⟨_, rfl⟩
        rw [← e224074]
        have b224075 : 1 ≤ v224073 ∧ v224073 ≤ 64 := by
          rw [e224074]
          exact wq_shl1_6 ⟨by omega, by omega⟩
        refine wp_of e283 c283_33 (rw_icmp_ge (p1 := 121) (p2 := 36) (by decide) rfl ⟨by omega, by omega⟩ ⟨by omega, by omega⟩ (fun c224076 => ?_) (fun c224076 => ?_))
        · refine wp_of e283 c283_121 (rw_aload_n (pc' := 122) (v := .ref r0) rfl rfl rfl ?_)
          refine wp_of e283 c283_122 (rw_iload_n (pc' := 123) (z := v224064) rfl rfl ?_)
          refine wp_of e283 c283_123 (xc_V (pc' := 126) (r := r0) (as := [vI v224064]) (st := []) (lm_9_58) rfl rfl (Nat.le_of_ble_eq_true rfl) w222204 g0 sh_42 (by decide) rfl (by decide) (s_209 w222204 g0 ⟨by omega, by omega⟩) (fun R224077 T224078 H224079 p224080 => ?_))
          obtain ⟨e224081, w224083, f224084, z224086, e224082, b224087, p224085⟩ := p224080
          subst e224081
          subst e224082
          have f224088 := f222205.tr f224084 rfl
          show wp _ _ 283 126 [(2, vI v224063), (1, vI v224064), (0, .ref r0)] [vI z224086] _ H224079 _
          have k224089 : wKI H224079 r0 = wKI H r0 := ((wKI_fr w222204 g0 f224084 rfl).trans (wKI_fr hW g0 ((wfr.rf (l := [(42, 0)])).put' e222203 g0 rfl) rfl))
          exact wp_ireturn e283 c283_126 rfl ⟨rfl, w224083, f224088, z224086, rfl, ⟨by omega, by omega⟩, by omega, by omega⟩
        · refine wp_of e283 c283_36 (rw_iconst (pc' := 37) rfl ?_)
          refine wp_of e283 c283_37 (rw_istore_n (pc' := 38) (z := 0) (L' := [(3, vI 0), (2, vI v224063), (1, vI v224064), (0, .ref r0)]) rfl rfl rfl ?_)
          refine wp_of e283 c283_38 (rw_iconst (pc' := 39) rfl ?_)
          refine wp_of e283 c283_39 (rw_istore (pc' := 41) (z := 0) (L' := [(4, vI 0), (3, vI 0), (2, vI v224063), (1, vI v224064), (0, .ref r0)]) rfl rfl rfl ?_)
          have lp224265 : ∀ (n224266 : Nat) (v224268 : Int) (v224269 : Int), (0 ≤ v224268 ∧ v224268 ≤ 6) → ((-2147483648) ≤ v224269 ∧ v224269 ≤ 2147483647) → (6 - v224268).toNat = n224266 → wp kt 1 283 41 [(4, vI v224268), (3, vI v224269), (2, vI v224063), (1, vI v224064), (0, .ref r0)] [] T H222202 (q_283 r0 T H) := by
            intro n224266
            induction n224266 using Nat.strongRecOn with
            | _ n224266 ih224267 =>
              intro v224268 v224269 b224272 b224273 m224274
              refine wp_of e283 c283_41 (rw_iload (pc' := 43) (z := v224268) rfl rfl ?_)
              refine wp_of e283 c283_43 (rw_aload_n (pc' := 44) (v := .ref r0) rfl rfl rfl ?_)
              refine wp_of e283 c283_44 (xg_K (pc' := 47) lf_9_337 w222204 g0 sh_42 (by decide) (by decide) rfl q222208 rfl ?_)
              refine wp_of e283 c283_47 (xg_I (pc' := 50) lf_9_321 w222204 g222209 sh_54 (by decide) (by decide) ty_54_7 rfl rfl (fun b224275 b224276 => ?_))
              refine wp_of e283 c283_50 (rw_icmp_ge (p1 := 85) (p2 := 53) (by decide) rfl ⟨by omega, by omega⟩ ⟨by omega, by omega⟩ (fun c224277 => ?_) (fun c224277 => ?_))
              · refine wp_of e283 c283_85 (rw_aload_n (pc' := 86) (v := .ref r0) rfl rfl rfl ?_)
                refine wp_of e283 c283_86 (xg_I (pc' := 89) lf_9_343 w222204 g0 sh_42 (by decide) (by decide) ty_42_19 rfl rfl (fun b224278 b224279 => ?_))
                refine wp_of e283 c283_89 (rw_iload_n (pc' := 90) (z := v224269) rfl rfl ?_)
                refine wp_of e283 c283_90 (rw_iconst (pc' := 91) rfl ?_)
                refine wp_of e283 c283_91 (rw_ixor (pc' := 92) rfl ?_)
                obtain ⟨v224280, e224281⟩ : ∃ x : Int, x = wq_xor v224269 (-1) := ⟨_, rfl⟩
                rw [← e224281]
                have b224282 : -2147483648 ≤ v224280 ∧ v224280 ≤ 2147483647 := by
                  rw [e224281]
                  exact wI_xor _ _
                refine wp_of e283 c283_92 (rw_iand (pc' := 93) rfl ?_)
                obtain ⟨v224283, e224284⟩ : ∃ x : Int, x = wq_and (H222202 r0 19) v224280 := ⟨_, rfl⟩
                rw [← e224284]
                have b224285 : -2147483648 ≤ v224283 ∧ v224283 ≤ 2147483647 := by
                  rw [e224284]
                  exact wI_and _ _
                refine wp_of e283 c283_93 (rw_if_ne (p1 := 115) (p2 := 96) (by decide) rfl ⟨by omega, by omega⟩ (fun c224286 => ?_) (fun c224286 => ?_))
                · refine wp_of e283 c283_115 (rw_iinc (pc' := 118) (z := v224063) (L' := [(2, vI (v224063 + 1)), (4, vI v224268), (3, vI v224269), (1, vI v224064), (0, .ref r0)]) rfl rfl rfl rfl ?_)
                  refine wp_of e283 c283_118 (rw_goto (p1 := 23) (by decide) ?_)
                  exact wp_lc (ks := [2, 4, 3, 1, 0]) (wl_c rfl (wl_c rfl (wl_c rfl wl_n))) rfl (by decide) (ih224062 _ (by omega) (v224063 + 1) v224064 ⟨by omega, by omega⟩ ⟨by omega, by omega⟩ (by omega) rfl)
                · refine wp_of e283 c283_96 (rw_iload_n (pc' := 97) (z := v224064) rfl rfl ?_)
                  refine wp_of e283 c283_97 (rw_bipush (pc' := 99) (z := -2) rfl (by decide) ?_)
                  refine wp_of e283 c283_99 (rw_icmp_eq (p1 := 113) (p2 := 102) (by decide) rfl ⟨by omega, by omega⟩ ⟨by omega, by omega⟩ (fun c224287 => ?_) (fun c224287 => ?_))
                  · refine wp_of e283 c283_113 (rw_iload_n (pc' := 114) (z := v224063) rfl rfl ?_)
                    refine wp_of e283 c283_114 (rw_istore_n (pc' := 115) (z := v224063) (L' := [(1, vI v224063), (4, vI v224268), (3, vI v224269), (2, vI v224063), (0, .ref r0)]) rfl rfl rfl ?_)
                    refine wp_of e283 c283_115 (rw_iinc (pc' := 118) (z := v224063) (L' := [(2, vI (v224063 + 1)), (1, vI v224063), (4, vI v224268), (3, vI v224269), (0, .ref r0)]) rfl rfl rfl rfl ?_)
                    refine wp_of e283 c283_118 (rw_goto (p1 := 23) (by decide) ?_)
                    exact wp_lc (ks := [2, 1, 4, 3, 0]) (wl_c rfl (wl_c rfl (wl_c rfl wl_n))) rfl (by decide) (ih224062 _ (by omega) (v224063 + 1) v224063 ⟨by omega, by omega⟩ ⟨by omega, by omega⟩ (by omega) rfl)
                  · refine wp_of e283 c283_102 (rw_iload_n (pc' := 103) (z := v224063) rfl rfl ?_)
                    refine wp_of e283 c283_103 (xc_S (pc' := 106) (as := [vI v224063]) (st := []) (lm_9_462) rfl rfl (Nat.le_of_ble_eq_true rfl) rfl (by decide) (s_269 w222204 ⟨by omega, by omega⟩) (fun R224288 T224289 H224290 p224291 => ?_))
                    obtain ⟨e224292, e224294, z224295, e224293, b224296⟩ := p224291
                    subst e224292
                    subst e224293
                    subst e224294
                    show wp _ _ 283 106 [(4, vI v224268), (3, vI v224269), (2, vI v224063), (1, vI v224064), (0, .ref r0)] [vI z224295] _ H222202 _
                    refine wp_of e283 c283_106 (rw_iload_n (pc' := 107) (z := v224064) rfl rfl ?_)
                    refine wp_of e283 c283_107 (xc_S (pc' := 110) (as := [vI v224064]) (st := [vI z224295]) (lm_9_462) rfl rfl (Nat.le_of_ble_eq_true rfl) rfl (by decide) (s_269 w222204 ⟨by omega, by omega⟩) (fun R224297 T224298 H224299 p224300 => ?_))
                    obtain ⟨e224301, e224303, z224304, e224302, b224305⟩ := p224300
                    subst e224301
                    subst e224302
                    subst e224303
                    show wp _ _ 283 110 [(4, vI v224268), (3, vI v224269), (2, vI v224063), (1, vI v224064), (0, .ref r0)] [vI z224304, vI z224295] _ H222202 _
                    refine wp_of e283 c283_110 (rw_icmp_ge (p1 := 115) (p2 := 113) (by decide) rfl ⟨by omega, by omega⟩ ⟨by omega, by omega⟩ (fun c224306 => ?_) (fun c224306 => ?_))
                    · refine wp_of e283 c283_115 (rw_iinc (pc' := 118) (z := v224063) (L' := [(2, vI (v224063 + 1)), (4, vI v224268), (3, vI v224269), (1, vI v224064), (0, .ref r0)]) rfl rfl rfl rfl ?_)
                      refine wp_of e283 c283_118 (rw_goto (p1 := 23) (by decide) ?_)
                      exact wp_lc (ks := [2, 4, 3, 1, 0]) (wl_c rfl (wl_c rfl (wl_c rfl wl_n))) rfl (by decide) (ih224062 _ (by omega) (v224063 + 1) v224064 ⟨by omega, by omega⟩ ⟨by omega, by omega⟩ (by omega) rfl)
                    · refine wp_of e283 c283_113 (rw_iload_n (pc' := 114) (z := v224063) rfl rfl ?_)
                      refine wp_of e283 c283_114 (rw_istore_n (pc' := 115) (z := v224063) (L' := [(1, vI v224063), (4, vI v224268), (3, vI v224269), (2, vI v224063), (0, .ref r0)]) rfl rfl rfl ?_)
                      refine wp_of e283 c283_115 (rw_iinc (pc' := 118) (z := v224063) (L' := [(2, vI (v224063 + 1)), (1, vI v224063), (4, vI v224268), (3, vI v224269), (0, .ref r0)]) rfl rfl rfl rfl ?_)
                      refine wp_of e283 c283_118 (rw_goto (p1 := 23) (by decide) ?_)
                      exact wp_lc (ks := [2, 1, 4, 3, 0]) (wl_c rfl (wl_c rfl (wl_c rfl wl_n))) rfl (by decide) (ih224062 _ (by omega) (v224063 + 1) v224063 ⟨by omega, by omega⟩ ⟨by omega, by omega⟩ (by omega) rfl)
              · refine wp_of e283 c283_53 (rw_iload_n (pc' := 54) (z := v224269) rfl rfl ?_)
                refine wp_of e283 c283_54 (rw_iload_n (pc' := 55) (z := v224063) rfl rfl ?_)
                refine wp_of e283 c283_55 (rw_iload (pc' := 57) (z := v224268) rfl rfl ?_)
                refine wp_of e283 c283_57 (xc_S (pc' := 60) (as := [vI v224063, vI v224268]) (st := [vI v224269]) (lm_9_346) rfl rfl (Nat.le_of_ble_eq_true rfl) rfl (by decide) (s_205 w222204 ⟨by omega, by omega⟩ ⟨by omega, by omega⟩) (fun R224307 T224308 H224309 p224310 => ?_))
                obtain ⟨e224311, e224313, z224314, e224312, b224315⟩ := p224310
                subst e224311
                subst e224312
                subst e224313
                show wp _ _ 283 60 [(4, vI v224268), (3, vI v224269), (2, vI v224063), (1, vI v224064), (0, .ref r0)] [vI z224314, vI v224269] _ H222202 _
                refine wp_of e283 c283_60 (rw_if_eq (p1 := 76) (p2 := 63) (by decide) rfl ⟨by omega, by omega⟩ (fun c224316 => ?_) (fun c224316 => ?_))
                · refine wp_of e283 c283_76 (rw_iconst (pc' := 77) rfl ?_)
                  refine wp_of e283 c283_77 (rw_ior (pc' := 78) rfl ?_)
                  obtain ⟨v224317, e224318⟩ : ∃ x : Int, x = wq_or v224269 0 := ⟨_, rfl⟩
                  rw [← e224318]
                  have b224319 : -2147483648 ≤ v224317 ∧ v224317 ≤ 2147483647 := by
                    rw [e224318]
                    exact wI_or _ _
                  refine wp_of e283 c283_78 (rw_istore_n (pc' := 79) (z := v224317) (L' := [(3, vI v224317), (4, vI v224268), (2, vI v224063), (1, vI v224064), (0, .ref r0)]) rfl rfl rfl ?_)
                  refine wp_of e283 c283_79 (rw_iinc (pc' := 82) (z := v224268) (L' := [(4, vI (v224268 + 1)), (3, vI v224317), (2, vI v224063), (1, vI v224064), (0, .ref r0)]) rfl rfl rfl rfl ?_)
                  refine wp_of e283 c283_82 (rw_goto (p1 := 41) (by decide) ?_)
                  exact wp_lc (ks := [4, 3, 2, 1, 0]) (wl_c rfl (wl_c rfl (wl_c rfl (wl_c rfl (wl_c rfl wl_n))))) rfl (by decide) (ih224267 _ (by omega) (v224268 + 1) v224317 ⟨by omega, by omega⟩ ⟨by omega, by omega⟩ rfl)
                · refine wp_of e283 c283_63 (rw_aload_n (pc' := 64) (v := .ref r0) rfl rfl rfl ?_)
                  refine wp_of e283 c283_64 (xg_K (pc' := 67) lf_9_337 w222204 g0 sh_42 (by decide) (by decide) rfl q222208 rfl ?_)
                  refine wp_of e283 c283_67 (xg_R (pc' := 70) lf_9_327 w222204 g222209 sh_54 (by decide) (by decide) ty_54_26 rfl rfl (fun r224320 q224321 g224322 => ?_))
                  refine wp_of e283 c283_70 (rw_iload (pc' := 72) (z := v224268) rfl rfl ?_)
                  refine wp_of e283 c283_72 (xa_I (so := 0) (pc' := 73) w222204 g224322 sh_72 (by decide) (ty_72 _) (by omega) (by omega) rfl (fun b224323 b224324 => ?_))
                  refine wp_of e283 c283_73 (rw_goto (p1 := 77) (by decide) ?_)
                  refine wp_of e283 c283_77 (rw_ior (pc' := 78) rfl ?_)
                  obtain ⟨v224325, e224326⟩ : ∃ x : Int, x = wq_or v224269 (H222202 r224320 (v224268.toNat)) := ⟨_, rfl⟩
                  rw [← e224326]
                  have b224327 : -2147483648 ≤ v224325 ∧ v224325 ≤ 2147483647 := by
                    rw [e224326]
                    exact wI_or _ _
                  refine wp_of e283 c283_78 (rw_istore_n (pc' := 79) (z := v224325) (L' := [(3, vI v224325), (4, vI v224268), (2, vI v224063), (1, vI v224064), (0, .ref r0)]) rfl rfl rfl ?_)
                  refine wp_of e283 c283_79 (rw_iinc (pc' := 82) (z := v224268) (L' := [(4, vI (v224268 + 1)), (3, vI v224325), (2, vI v224063), (1, vI v224064), (0, .ref r0)]) rfl rfl rfl rfl ?_)
                  refine wp_of e283 c283_82 (rw_goto (p1 := 41) (by decide) ?_)
                  exact wp_lc (ks := [4, 3, 2, 1, 0]) (wl_c rfl (wl_c rfl (wl_c rfl (wl_c rfl (wl_c rfl wl_n))))) rfl (by decide) (ih224267 _ (by omega) (v224268 + 1) v224325 ⟨by omega, by omega⟩ ⟨by omega, by omega⟩ rfl)
          exact wp_lc (ks := [4, 3, 2, 1, 0]) (wl_c rfl (wl_c rfl (wl_c rfl (wl_c rfl (wl_c rfl wl_n))))) rfl (by decide) (lp224265 _ 0 0 ⟨by omega, by omega⟩ ⟨by omega, by omega⟩ rfl)
    exact wp_lc (ks := [2, 1, 0]) (wl_c rfl (wl_c rfl (wl_c rfl wl_n))) rfl (by decide) (lp224060 _ 0 (-2) ⟨by omega, by omega⟩ ⟨by omega, by omega⟩ (by omega) rfl)
/-! StrikeAwakeModel.quiet(I)I -/
theorem e284 : wq_en 284 = some (9, 4, false, some FieldType.int) := rfl
theorem c284_0 : mc_cd 284 0 = some (.aload_n 0, 1) := by decide +kernel
theorem c284_1 : mc_cd 284 1 = some (.iconst 0, 1) := by decide +kernel
theorem c284_2 : mc_cd 284 2 = some (.putfield 48, 3) := by decide +kernel
theorem c284_5 : mc_cd 284 5 = some (.aload_n 0, 1) := by decide +kernel
theorem c284_6 : mc_cd 284 6 = some (.getfield 337, 3) := by decide +kernel
theorem c284_9 : mc_cd 284 9 = some (.ifnonnull 9, 3) := by decide +kernel
theorem c284_12 : mc_cd 284 12 = some (.aload_n 0, 1) := by decide +kernel
theorem c284_13 : mc_cd 284 13 = some (.iconst 1, 1) := by decide +kernel
theorem c284_14 : mc_cd 284 14 = some (.invokevirtual 54, 3) := by decide +kernel
theorem c284_17 : mc_cd 284 17 = some (.ireturn, 1) := by decide +kernel
theorem c284_18 : mc_cd 284 18 = some (.iload_n 1, 1) := by decide +kernel
theorem c284_19 : mc_cd 284 19 = some (.iconst 0, 1) := by decide +kernel
theorem c284_20 : mc_cd 284 20 = some (.bipush 99, 2) := by decide +kernel
theorem c284_22 : mc_cd 284 22 = some (.invokestatic 125, 3) := by decide +kernel
theorem c284_25 : mc_cd 284 25 = some (.ifCond .ne 9, 3) := by decide +kernel
theorem c284_28 : mc_cd 284 28 = some (.aload_n 0, 1) := by decide +kernel
theorem c284_29 : mc_cd 284 29 = some (.iconst 2, 1) := by decide +kernel
theorem c284_30 : mc_cd 284 30 = some (.invokevirtual 54, 3) := by decide +kernel
theorem c284_33 : mc_cd 284 33 = some (.ireturn, 1) := by decide +kernel
theorem c284_34 : mc_cd 284 34 = some (.iconst 0, 1) := by decide +kernel
theorem c284_35 : mc_cd 284 35 = some (.istore_n 2, 1) := by decide +kernel
theorem c284_36 : mc_cd 284 36 = some (.iconst 0, 1) := by decide +kernel
theorem c284_37 : mc_cd 284 37 = some (.istore_n 3, 1) := by decide +kernel
theorem c284_38 : mc_cd 284 38 = some (.iload_n 3, 1) := by decide +kernel
theorem c284_39 : mc_cd 284 39 = some (.aload_n 0, 1) := by decide +kernel
theorem c284_40 : mc_cd 284 40 = some (.getfield 337, 3) := by decide +kernel
theorem c284_43 : mc_cd 284 43 = some (.getfield 185, 3) := by decide +kernel
theorem c284_46 : mc_cd 284 46 = some (.if_icmp .ge 40, 3) := by decide +kernel
theorem c284_49 : mc_cd 284 49 = some (.iload_n 2, 1) := by decide +kernel
theorem c284_50 : mc_cd 284 50 = some (.aload_n 0, 1) := by decide +kernel
theorem c284_51 : mc_cd 284 51 = some (.getfield 17, 3) := by decide +kernel
theorem c284_54 : mc_cd 284 54 = some (.iload_n 3, 1) := by decide +kernel
theorem c284_55 : mc_cd 284 55 = some (.iaload, 1) := by decide +kernel
theorem c284_56 : mc_cd 284 56 = some (.ifCond .le 21, 3) := by decide +kernel
theorem c284_59 : mc_cd 284 59 = some (.aload_n 0, 1) := by decide +kernel
theorem c284_60 : mc_cd 284 60 = some (.getfield 17, 3) := by decide +kernel
theorem c284_63 : mc_cd 284 63 = some (.iload_n 3, 1) := by decide +kernel
theorem c284_64 : mc_cd 284 64 = some (.iaload, 1) := by decide +kernel
theorem c284_65 : mc_cd 284 65 = some (.iconst 1, 1) := by decide +kernel
theorem c284_66 : mc_cd 284 66 = some (.isub, 1) := by decide +kernel
theorem c284_67 : mc_cd 284 67 = some (.iload_n 1, 1) := by decide +kernel
theorem c284_68 : mc_cd 284 68 = some (.if_icmp .gt 9, 3) := by decide +kernel
theorem c284_71 : mc_cd 284 71 = some (.iconst 1, 1) := by decide +kernel
theorem c284_72 : mc_cd 284 72 = some (.iload_n 3, 1) := by decide +kernel
theorem c284_73 : mc_cd 284 73 = some (.ishl, 1) := by decide +kernel
theorem c284_74 : mc_cd 284 74 = some (.goto 4, 3) := by decide +kernel
theorem c284_77 : mc_cd 284 77 = some (.iconst 0, 1) := by decide +kernel
theorem c284_78 : mc_cd 284 78 = some (.ior, 1) := by decide +kernel
theorem c284_79 : mc_cd 284 79 = some (.istore_n 2, 1) := by decide +kernel
theorem c284_80 : mc_cd 284 80 = some (.iinc 3 1, 3) := by decide +kernel
theorem c284_83 : mc_cd 284 83 = some (.goto (-45), 3) := by decide +kernel
theorem c284_86 : mc_cd 284 86 = some (.aload_n 0, 1) := by decide +kernel
theorem c284_87 : mc_cd 284 87 = some (.iload_n 2, 1) := by decide +kernel
theorem c284_88 : mc_cd 284 88 = some (.invokevirtual 58, 3) := by decide +kernel
theorem c284_91 : mc_cd 284 91 = some (.ireturn, 1) := by decide +kernel
abbrev q_284 (r0 : Nat) (a1 : Int) (T : wq_T) (H : wq_H) : Option Value → wq_T → wq_H → Prop := fun r T' H' => T = T' ∧ WT T H' ∧ wfr [(42, 0), (42, 1), (42, 2)] T H H' ∧ ∃ z : Int, some (vI z) = r ∧ ((-2147483648) ≤ z ∧ z ≤ 2147483647) ∧ (wKI H' r0 = 1) ∧ (H' r0 2 = -1)
set_option maxHeartbeats 4000000 in
theorem s_284 {kt : Nat → Option mc_E} {T : wq_T} {H : wq_H} {r0 : Nat} {a1 : Int} (hW : WT T H) (g0 : T.2.2.2 r0 = some 42) (i1 : (-2147483648) ≤ a1 ∧ a1 ≤ 2147483647) (p0 : wKI H r0 = 1) : wpc kt 2 284 [.ref r0, vI a1] T H (q_284 r0 a1 T H) := by
  refine wp_enter e284 (Nat.le_of_ble_eq_true rfl) rfl ?_
  have f0 : wfr [(42, 0), (42, 1), (42, 2)] T H H := wfr.rf
  show wp _ _ 284 0 [(0, .ref r0), (1, vI a1)] [] _ H _
  refine wp_of e284 c284_0 (rw_aload_n (pc' := 1) (v := .ref r0) rfl rfl rfl ?_)
  refine wp_of e284 c284_1 (rw_iconst (pc' := 2) rfl ?_)
  refine wp_of e284 c284_2 (xp_I (pc' := 5) lf_9_48 hW g0 sh_42 (by decide) (by decide) ty_42_0 rfl rfl (by omega) (by omega) ⟨by omega, by omega⟩ rfl (fun H224583 e224584 w224585 => ?_))
  have f224586 := f0.put' e224584 g0 rfl
  have k224587 : H224583 r0 0 = 0 := wq_u_s e224584
  refine wp_of e284 c284_5 (rw_aload_n (pc' := 6) (v := .ref r0) rfl rfl rfl ?_)
  refine wp_of e284 c284_6 (xg_O (pc' := 9) lf_9_337 w224585 g0 sh_42 (by decide) (by decide) ty_42_3 rfl rfl (fun q224589 => ?_) (fun r224588 q224589 g224590 => ?_))
  · refine wp_of e284 c284_9 (rw_ifnonnull_n (p1 := 18) (p2 := 12) (by decide) rfl ?_)
    refine wp_of e284 c284_12 (rw_aload_n (pc' := 13) (v := .ref r0) rfl rfl rfl ?_)
    refine wp_of e284 c284_13 (rw_iconst (pc' := 14) rfl ?_)
    refine wp_of e284 c284_14 (xc_V (pc' := 17) (r := r0) (as := [vI 1]) (st := []) (lm_9_54) rfl rfl (Nat.le_of_ble_eq_true rfl) w224585 g0 sh_42 (by decide) rfl (by decide) (s_170 w224585 g0 ⟨by omega, by omega⟩) (fun R224591 T224592 H224593 p224594 => ?_))
    obtain ⟨e224595, w224597, f224598, z224600, e224596, b224601, p224599⟩ := p224594
    subst e224595
    subst e224596
    have f224602 := f224586.tr f224598 rfl
    show wp _ _ 284 17 [(0, .ref r0), (1, vI a1)] [vI z224600] _ H224593 _
    have k224603 : wKI H224593 r0 = wKI H r0 := ((wKI_fr w224585 g0 f224598 rfl).trans (wKI_fr hW g0 ((wfr.rf (l := [(42, 0)])).put' e224584 g0 rfl) rfl))
    exact wp_ireturn e284 c284_17 rfl ⟨rfl, w224597, f224602, z224600, rfl, ⟨by omega, by omega⟩, by omega, by omega⟩
  · refine wp_of e284 c284_9 (rw_ifnonnull_r (p1 := 18) (p2 := 12) (by decide) rfl ?_)
    refine wp_of e284 c284_18 (rw_iload_n (pc' := 19) (z := a1) rfl rfl ?_)
    refine wp_of e284 c284_19 (rw_iconst (pc' := 20) rfl ?_)
    refine wp_of e284 c284_20 (rw_bipush (pc' := 22) (z := 99) rfl (by decide) ?_)
    refine wp_of e284 c284_22 (xc_S (pc' := 25) (as := [vI a1, vI 0, vI 99]) (st := []) (lm_9_125) rfl rfl (Nat.le_of_ble_eq_true rfl) rfl (by decide) (s_186 w224585 ⟨by omega, by omega⟩ ⟨by omega, by omega⟩ ⟨by omega, by omega⟩) (fun R224604 T224605 H224606 p224607 => ?_))
    obtain ⟨e224608, e224610, z224612, e224609, b224613, p224611⟩ := p224607
    subst e224608
    subst e224609
    subst e224610
    show wp _ _ 284 25 [(0, .ref r0), (1, vI a1)] [vI z224612] _ H224583 _
    refine wp_of e284 c284_25 (rw_if_ne (p1 := 34) (p2 := 28) (by decide) rfl ⟨by omega, by omega⟩ (fun c224614 => ?_) (fun c224614 => ?_))
    · refine wp_of e284 c284_34 (rw_iconst (pc' := 35) rfl ?_)
      refine wp_of e284 c284_35 (rw_istore_n (pc' := 36) (z := 0) (L' := [(2, vI 0), (0, .ref r0), (1, vI a1)]) rfl rfl rfl ?_)
      refine wp_of e284 c284_36 (rw_iconst (pc' := 37) rfl ?_)
      refine wp_of e284 c284_37 (rw_istore_n (pc' := 38) (z := 0) (L' := [(3, vI 0), (2, vI 0), (0, .ref r0), (1, vI a1)]) rfl rfl rfl ?_)
      have lp224791 : ∀ (n224792 : Nat) (v224794 : Int) (v224795 : Int), (0 ≤ v224794 ∧ v224794 ≤ 24) → (0 ≤ v224795 ∧ v224795 ≤ 16777215) → (24 - v224794).toNat = n224792 → wp kt 1 284 38 [(3, vI v224794), (2, vI v224795), (0, .ref r0), (1, vI a1)] [] T H224583 (q_284 r0 a1 T H) := by
        intro n224792
        induction n224792 using Nat.strongRecOn with
        | _ n224792 ih224793 =>
          intro v224794 v224795 b224798 b224799 m224800
          refine wp_of e284 c284_38 (rw_iload_n (pc' := 39) (z := v224794) rfl rfl ?_)
          refine wp_of e284 c284_39 (rw_aload_n (pc' := 40) (v := .ref r0) rfl rfl rfl ?_)
          refine wp_of e284 c284_40 (xg_K (pc' := 43) lf_9_337 w224585 g0 sh_42 (by decide) (by decide) rfl q224589 rfl ?_)
          refine wp_of e284 c284_43 (xg_I (pc' := 46) lf_9_185 w224585 g224590 sh_54 (by decide) (by decide) ty_54_0 rfl rfl (fun b224801 b224802 => ?_))
          refine wp_of e284 c284_46 (rw_icmp_ge (p1 := 86) (p2 := 49) (by decide) rfl ⟨by omega, by omega⟩ ⟨by omega, by omega⟩ (fun c224803 => ?_) (fun c224803 => ?_))
          · refine wp_of e284 c284_86 (rw_aload_n (pc' := 87) (v := .ref r0) rfl rfl rfl ?_)
            refine wp_of e284 c284_87 (rw_iload_n (pc' := 88) (z := v224795) rfl rfl ?_)
            refine wp_of e284 c284_88 (xc_V (pc' := 91) (r := r0) (as := [vI v224795]) (st := []) (lm_9_58) rfl rfl (Nat.le_of_ble_eq_true rfl) w224585 g0 sh_42 (by decide) rfl (by decide) (s_209 w224585 g0 ⟨by omega, by omega⟩) (fun R224804 T224805 H224806 p224807 => ?_))
            obtain ⟨e224808, w224810, f224811, z224813, e224809, b224814, p224812⟩ := p224807
            subst e224808
            subst e224809
            have f224815 := f224586.tr f224811 rfl
            show wp _ _ 284 91 [(3, vI v224794), (2, vI v224795), (0, .ref r0), (1, vI a1)] [vI z224813] _ H224806 _
            have k224816 : wKI H224806 r0 = wKI H r0 := ((wKI_fr w224585 g0 f224811 rfl).trans (wKI_fr hW g0 ((wfr.rf (l := [(42, 0)])).put' e224584 g0 rfl) rfl))
            exact wp_ireturn e284 c284_91 rfl ⟨rfl, w224810, f224815, z224813, rfl, ⟨by omega, by omega⟩, by omega, by omega⟩
          · refine wp_of e284 c284_49 (rw_iload_n (pc' := 50) (z := v224795) rfl rfl ?_)
            refine wp_of e284 c284_50 (rw_aload_n (pc' := 51) (v := .ref r0) rfl rfl rfl ?_)
            refine wp_of e284 c284_51 (xg_R (pc' := 54) lf_9_17 w224585 g0 sh_42 (by decide) (by decide) ty_42_20 rfl rfl (fun r224817 q224818 g224819 => ?_))
            refine wp_of e284 c284_54 (rw_iload_n (pc' := 55) (z := v224794) rfl rfl ?_)
            refine wp_of e284 c284_55 (xa_I (so := 0) (pc' := 56) w224585 g224819 sh_44 (by decide) (ty_44 _) (by omega) (by omega) rfl (fun b224820 b224821 => ?_))
            refine wp_of e284 c284_56 (rw_if_le (p1 := 77) (p2 := 59) (by decide) rfl ⟨by omega, by omega⟩ (fun c224822 => ?_) (fun c224822 => ?_))
            · refine wp_of e284 c284_77 (rw_iconst (pc' := 78) rfl ?_)
              refine wp_of e284 c284_78 (rw_ior (pc' := 79) rfl ?_)
              obtain ⟨v224823, e224824⟩ : ∃ x : Int, x = wq_or v224795 0 := ⟨_, rfl⟩
              rw [← e224824]
              have b224825 : 0 ≤ v224823 ∧ v224823 ≤ 16777215 := by
                rw [e224824]
                exact wq_or_24 ⟨by omega, by omega⟩ ⟨by omega, by omega⟩
              refine wp_of e284 c284_79 (rw_istore_n (pc' := 80) (z := v224823) (L' := [(2, vI v224823), (3, vI v224794), (0, .ref r0), (1, vI a1)]) rfl rfl rfl ?_)
              refine wp_of e284 c284_80 (rw_iinc (pc' := 83) (z := v224794) (L' := [(3, vI (v224794 + 1)), (2, vI v224823), (0, .ref r0), (1, vI a1)]) rfl rfl rfl rfl ?_)
              refine wp_of e284 c284_83 (rw_goto (p1 := 38) (by decide) ?_)
              exact wp_lc (ks := [3, 2, 0, 1]) (wl_c rfl (wl_c rfl (wl_c rfl (wl_c rfl wl_n)))) rfl (by decide) (ih224793 _ (by omega) (v224794 + 1) v224823 ⟨by omega, by omega⟩ ⟨by omega, by omega⟩ rfl)
            · refine wp_of e284 c284_59 (rw_aload_n (pc' := 60) (v := .ref r0) rfl rfl rfl ?_)
              refine wp_of e284 c284_60 (xg_K (pc' := 63) lf_9_17 w224585 g0 sh_42 (by decide) (by decide) rfl q224818 rfl ?_)
              refine wp_of e284 c284_63 (rw_iload_n (pc' := 64) (z := v224794) rfl rfl ?_)
              refine wp_of e284 c284_64 (xa_I (so := 0) (pc' := 65) w224585 g224819 sh_44 (by decide) (ty_44 _) (by omega) (by omega) rfl (fun b224826 b224827 => ?_))
              refine wp_of e284 c284_65 (rw_iconst (pc' := 66) rfl ?_)
              refine wp_of e284 c284_66 (rw_isub (pc' := 67) rfl ?_)
              refine wp_of e284 c284_67 (rw_iload_n (pc' := 68) (z := a1) rfl rfl ?_)
              refine wp_of e284 c284_68 (rw_icmp_gt (p1 := 77) (p2 := 71) (by decide) rfl ⟨by omega, by omega⟩ ⟨by omega, by omega⟩ (fun c224828 => ?_) (fun c224828 => ?_))
              · refine wp_of e284 c284_77 (rw_iconst (pc' := 78) rfl ?_)
                refine wp_of e284 c284_78 (rw_ior (pc' := 79) rfl ?_)
                obtain ⟨v224829, e224830⟩ : ∃ x : Int, x = wq_or v224795 0 := ⟨_, rfl⟩
                rw [← e224830]
                have b224831 : 0 ≤ v224829 ∧ v224829 ≤ 16777215 := by
                  rw [e224830]
                  exact wq_or_24 ⟨by omega, by omega⟩ ⟨by omega, by omega⟩
                refine wp_of e284 c284_79 (rw_istore_n (pc' := 80) (z := v224829) (L' := [(2, vI v224829), (3, vI v224794), (0, .ref r0), (1, vI a1)]) rfl rfl rfl ?_)
                refine wp_of e284 c284_80 (rw_iinc (pc' := 83) (z := v224794) (L' := [(3, vI (v224794 + 1)), (2, vI v224829), (0, .ref r0), (1, vI a1)]) rfl rfl rfl rfl ?_)
                refine wp_of e284 c284_83 (rw_goto (p1 := 38) (by decide) ?_)
                exact wp_lc (ks := [3, 2, 0, 1]) (wl_c rfl (wl_c rfl (wl_c rfl (wl_c rfl wl_n)))) rfl (by decide) (ih224793 _ (by omega) (v224794 + 1) v224829 ⟨by omega, by omega⟩ ⟨by omega, by omega⟩ rfl)
              · refine wp_of e284 c284_71 (rw_iconst (pc' := 72) rfl ?_)
                refine wp_of e284 c284_72 (rw_iload_n (pc' := 73) (z := v224794) rfl rfl ?_)
                refine wp_of e284 c284_73 (rw_ishl (pc' := 74) rfl ?_)
                obtain ⟨v224832, e224833⟩ : ∃ x : Int, x = wq_shl 1 v224794 := ⟨_, rfl⟩
                rw [← e224833]
                have b224834 : 1 ≤ v224832 ∧ v224832 ≤ 8388608 := by
                  rw [e224833]
                  exact wq_shl1_24 ⟨by omega, by omega⟩
                refine wp_of e284 c284_74 (rw_goto (p1 := 78) (by decide) ?_)
                refine wp_of e284 c284_78 (rw_ior (pc' := 79) rfl ?_)
                obtain ⟨v224835, e224836⟩ : ∃ x : Int, x = wq_or v224795 v224832 := ⟨_, rfl⟩
                rw [← e224836]
                have b224837 : 0 ≤ v224835 ∧ v224835 ≤ 16777215 := by
                  rw [e224836]
                  exact wq_or_24 ⟨by omega, by omega⟩ ⟨by omega, by omega⟩
                refine wp_of e284 c284_79 (rw_istore_n (pc' := 80) (z := v224835) (L' := [(2, vI v224835), (3, vI v224794), (0, .ref r0), (1, vI a1)]) rfl rfl rfl ?_)
                refine wp_of e284 c284_80 (rw_iinc (pc' := 83) (z := v224794) (L' := [(3, vI (v224794 + 1)), (2, vI v224835), (0, .ref r0), (1, vI a1)]) rfl rfl rfl rfl ?_)
                refine wp_of e284 c284_83 (rw_goto (p1 := 38) (by decide) ?_)
                exact wp_lc (ks := [3, 2, 0, 1]) (wl_c rfl (wl_c rfl (wl_c rfl (wl_c rfl wl_n)))) rfl (by decide) (ih224793 _ (by omega) (v224794 + 1) v224835 ⟨by omega, by omega⟩ ⟨by omega, by omega⟩ rfl)
      exact wp_lc (ks := [3, 2, 0, 1]) (wl_c rfl (wl_c rfl (wl_c rfl (wl_c rfl wl_n)))) rfl (by decide) (lp224791 _ 0 0 ⟨by omega, by omega⟩ ⟨by omega, by omega⟩ rfl)
    · refine wp_of e284 c284_28 (rw_aload_n (pc' := 29) (v := .ref r0) rfl rfl rfl ?_)
      refine wp_of e284 c284_29 (rw_iconst (pc' := 30) rfl ?_)
      refine wp_of e284 c284_30 (xc_V (pc' := 33) (r := r0) (as := [vI 2]) (st := []) (lm_9_54) rfl rfl (Nat.le_of_ble_eq_true rfl) w224585 g0 sh_42 (by decide) rfl (by decide) (s_170 w224585 g0 ⟨by omega, by omega⟩) (fun R224838 T224839 H224840 p224841 => ?_))
      obtain ⟨e224842, w224844, f224845, z224847, e224843, b224848, p224846⟩ := p224841
      subst e224842
      subst e224843
      have f224849 := f224586.tr f224845 rfl
      show wp _ _ 284 33 [(0, .ref r0), (1, vI a1)] [vI z224847] _ H224840 _
      have k224850 : wKI H224840 r0 = wKI H r0 := ((wKI_fr w224585 g0 f224845 rfl).trans (wKI_fr hW g0 ((wfr.rf (l := [(42, 0)])).put' e224584 g0 rfl) rfl))
      exact wp_ireturn e284 c284_33 rfl ⟨rfl, w224844, f224849, z224847, rfl, ⟨by omega, by omega⟩, by omega, by omega⟩
/-! StrikeAwakeModel.strike(II)I -/
theorem e285 : wq_en 285 = some (9, 3, false, some FieldType.int) := rfl
theorem c285_0 : mc_cd 285 0 = some (.aload_n 0, 1) := by decide +kernel
theorem c285_1 : mc_cd 285 1 = some (.iconst 0, 1) := by decide +kernel
theorem c285_2 : mc_cd 285 2 = some (.putfield 48, 3) := by decide +kernel
theorem c285_5 : mc_cd 285 5 = some (.aload_n 0, 1) := by decide +kernel
theorem c285_6 : mc_cd 285 6 = some (.iload_n 1, 1) := by decide +kernel
theorem c285_7 : mc_cd 285 7 = some (.invokevirtual 373, 3) := by decide +kernel
theorem c285_10 : mc_cd 285 10 = some (.ifCond .ne 9, 3) := by decide +kernel
theorem c285_13 : mc_cd 285 13 = some (.aload_n 0, 1) := by decide +kernel
theorem c285_14 : mc_cd 285 14 = some (.iconst 1, 1) := by decide +kernel
theorem c285_15 : mc_cd 285 15 = some (.invokevirtual 54, 3) := by decide +kernel
theorem c285_18 : mc_cd 285 18 = some (.ireturn, 1) := by decide +kernel
theorem c285_19 : mc_cd 285 19 = some (.iload_n 2, 1) := by decide +kernel
theorem c285_20 : mc_cd 285 20 = some (.iconst 0, 1) := by decide +kernel
theorem c285_21 : mc_cd 285 21 = some (.bipush 99, 2) := by decide +kernel
theorem c285_23 : mc_cd 285 23 = some (.invokestatic 125, 3) := by decide +kernel
theorem c285_26 : mc_cd 285 26 = some (.ifCond .ne 9, 3) := by decide +kernel
theorem c285_29 : mc_cd 285 29 = some (.aload_n 0, 1) := by decide +kernel
theorem c285_30 : mc_cd 285 30 = some (.iconst 2, 1) := by decide +kernel
theorem c285_31 : mc_cd 285 31 = some (.invokevirtual 54, 3) := by decide +kernel
theorem c285_34 : mc_cd 285 34 = some (.ireturn, 1) := by decide +kernel
theorem c285_35 : mc_cd 285 35 = some (.aload_n 0, 1) := by decide +kernel
theorem c285_36 : mc_cd 285 36 = some (.getfield 17, 3) := by decide +kernel
theorem c285_39 : mc_cd 285 39 = some (.iload_n 1, 1) := by decide +kernel
theorem c285_40 : mc_cd 285 40 = some (.iload_n 2, 1) := by decide +kernel
theorem c285_41 : mc_cd 285 41 = some (.iconst 1, 1) := by decide +kernel
theorem c285_42 : mc_cd 285 42 = some (.iadd, 1) := by decide +kernel
theorem c285_43 : mc_cd 285 43 = some (.iastore, 1) := by decide +kernel
theorem c285_44 : mc_cd 285 44 = some (.aload_n 0, 1) := by decide +kernel
theorem c285_45 : mc_cd 285 45 = some (.iconst 0, 1) := by decide +kernel
theorem c285_46 : mc_cd 285 46 = some (.putfield 353, 3) := by decide +kernel
theorem c285_49 : mc_cd 285 49 = some (.aload_n 0, 1) := by decide +kernel
theorem c285_50 : mc_cd 285 50 = some (.aload_n 0, 1) := by decide +kernel
theorem c285_51 : mc_cd 285 51 = some (.invokevirtual 357, 3) := by decide +kernel
theorem c285_54 : mc_cd 285 54 = some (.invokestatic 462, 3) := by decide +kernel
theorem c285_57 : mc_cd 285 57 = some (.invokevirtual 58, 3) := by decide +kernel
theorem c285_60 : mc_cd 285 60 = some (.ireturn, 1) := by decide +kernel
abbrev q_285 (r0 : Nat) (a1 : Int) (a2 : Int) (T : wq_T) (H : wq_H) : Option Value → wq_T → wq_H → Prop := fun r T' H' => T = T' ∧ WT T H' ∧ wfr [(42, 0), (42, 1), (42, 2), (42, 28), (44, 999)] T H H' ∧ ∃ z : Int, some (vI z) = r ∧ ((-2147483648) ≤ z ∧ z ≤ 2147483647) ∧ (wKI H' r0 = 1) ∧ (H' r0 2 = -1)
set_option maxHeartbeats 4000000 in
theorem s_285 {kt : Nat → Option mc_E} {T : wq_T} {H : wq_H} {r0 : Nat} {a1 : Int} {a2 : Int} (hW : WT T H) (g0 : T.2.2.2 r0 = some 42) (i1 : (-2147483648) ≤ a1 ∧ a1 ≤ 2147483647) (i2 : (-2147483648) ≤ a2 ∧ a2 ≤ 2147483647) (p0 : wKI H r0 = 1) : wpc kt 2 285 [.ref r0, vI a1, vI a2] T H (q_285 r0 a1 a2 T H) := by
  refine wp_enter e285 (Nat.le_of_ble_eq_true rfl) rfl ?_
  have f0 : wfr [(42, 0), (42, 1), (42, 2), (42, 28), (44, 999)] T H H := wfr.rf
  show wp _ _ 285 0 [(0, .ref r0), (1, vI a1), (2, vI a2)] [] _ H _
  refine wp_of e285 c285_0 (rw_aload_n (pc' := 1) (v := .ref r0) rfl rfl rfl ?_)
  refine wp_of e285 c285_1 (rw_iconst (pc' := 2) rfl ?_)
  refine wp_of e285 c285_2 (xp_I (pc' := 5) lf_9_48 hW g0 sh_42 (by decide) (by decide) ty_42_0 rfl rfl (by omega) (by omega) ⟨by omega, by omega⟩ rfl (fun H224950 e224951 w224952 => ?_))
  have f224953 := f0.put' e224951 g0 rfl
  have k224954 : H224950 r0 0 = 0 := wq_u_s e224951
  refine wp_of e285 c285_5 (rw_aload_n (pc' := 6) (v := .ref r0) rfl rfl rfl ?_)
  refine wp_of e285 c285_6 (rw_iload_n (pc' := 7) (z := a1) rfl rfl ?_)
  refine wp_of e285 c285_7 (xc_V (pc' := 10) (r := r0) (as := [vI a1]) (st := []) (lm_9_373) rfl rfl (Nat.le_of_ble_eq_true rfl) w224952 g0 sh_42 (by decide) rfl (by decide) (s_218 w224952 g0 ⟨by omega, by omega⟩) (fun R224955 T224956 H224957 p224958 => ?_))
  obtain ⟨e224959, e224961, z224963, e224960, b224964, p224962⟩ := p224958
  subst e224959
  subst e224960
  subst e224961
  show wp _ _ 285 10 [(0, .ref r0), (1, vI a1), (2, vI a2)] [vI z224963] _ H224950 _
  refine wp_of e285 c285_10 (rw_if_ne (p1 := 19) (p2 := 13) (by decide) rfl ⟨by omega, by omega⟩ (fun c224965 => ?_) (fun c224965 => ?_))
  · refine wp_of e285 c285_19 (rw_iload_n (pc' := 20) (z := a2) rfl rfl ?_)
    refine wp_of e285 c285_20 (rw_iconst (pc' := 21) rfl ?_)
    refine wp_of e285 c285_21 (rw_bipush (pc' := 23) (z := 99) rfl (by decide) ?_)
    refine wp_of e285 c285_23 (xc_S (pc' := 26) (as := [vI a2, vI 0, vI 99]) (st := []) (lm_9_125) rfl rfl (Nat.le_of_ble_eq_true rfl) rfl (by decide) (s_186 w224952 ⟨by omega, by omega⟩ ⟨by omega, by omega⟩ ⟨by omega, by omega⟩) (fun R224966 T224967 H224968 p224969 => ?_))
    obtain ⟨e224970, e224972, z224974, e224971, b224975, p224973⟩ := p224969
    subst e224970
    subst e224971
    subst e224972
    show wp _ _ 285 26 [(0, .ref r0), (1, vI a1), (2, vI a2)] [vI z224974] _ H224950 _
    refine wp_of e285 c285_26 (rw_if_ne (p1 := 35) (p2 := 29) (by decide) rfl ⟨by omega, by omega⟩ (fun c224976 => ?_) (fun c224976 => ?_))
    · refine wp_of e285 c285_35 (rw_aload_n (pc' := 36) (v := .ref r0) rfl rfl rfl ?_)
      refine wp_of e285 c285_36 (xg_R (pc' := 39) lf_9_17 w224952 g0 sh_42 (by decide) (by decide) ty_42_20 rfl rfl (fun r224977 q224978 g224979 => ?_))
      refine wp_of e285 c285_39 (rw_iload_n (pc' := 40) (z := a1) rfl rfl ?_)
      refine wp_of e285 c285_40 (rw_iload_n (pc' := 41) (z := a2) rfl rfl ?_)
      refine wp_of e285 c285_41 (rw_iconst (pc' := 42) rfl ?_)
      refine wp_of e285 c285_42 (rw_iaddw (pc' := 43) rfl ?_)
      obtain ⟨v224980, e224981⟩ : ∃ x : Int, x = wq_w (a2 + 1) := ⟨_, rfl⟩
      rw [← e224981]
      have b224982 : -2147483648 ≤ v224980 ∧ v224980 ≤ 2147483647 := by
        rw [e224981]
        exact wI_w _
      refine wp_of e285 c285_43 (xs_I (pc' := 44) w224952 g224979 (by decide) sh_44 (by decide) (ty_44 _) (by omega) (by omega) ⟨by omega, by omega⟩ (by omega) (by omega) rfl (fun H224983 e224984 w224985 => ?_))
      have f224986 := f224953.put' e224984 g224979 rfl
      refine wp_of e285 c285_44 (rw_aload_n (pc' := 45) (v := .ref r0) rfl rfl rfl ?_)
      refine wp_of e285 c285_45 (rw_iconst (pc' := 46) rfl ?_)
      refine wp_of e285 c285_46 (xp_Z (pc' := 49) lf_9_353 w224985 g0 sh_42 (by decide) (by decide) ty_42_28 rfl rfl (by omega) (by omega) rfl (fun H224987 e224988 w224989 => ?_))
      have f224990 := f224986.put' e224988 g0 rfl
      have k224991 : H224987 r0 28 = 0 := wq_u_s e224988
      refine wp_of e285 c285_49 (rw_aload_n (pc' := 50) (v := .ref r0) rfl rfl rfl ?_)
      refine wp_of e285 c285_50 (rw_aload_n (pc' := 51) (v := .ref r0) rfl rfl rfl ?_)
      refine wp_of e285 c285_51 (xc_V (pc' := 54) (r := r0) (as := []) (st := [.ref r0]) (lm_9_357) rfl rfl (Nat.le_of_ble_eq_true rfl) w224989 g0 sh_42 (by decide) rfl (by decide) (s_207 w224989 g0) (fun R224992 T224993 H224994 p224995 => ?_))
      obtain ⟨e224996, e224998, z224999, e224997, b225000⟩ := p224995
      subst e224996
      subst e224997
      subst e224998
      show wp _ _ 285 54 [(0, .ref r0), (1, vI a1), (2, vI a2)] [vI z224999, .ref r0] _ H224987 _
      refine wp_of e285 c285_54 (xc_S (pc' := 57) (as := [vI z224999]) (st := [.ref r0]) (lm_9_462) rfl rfl (Nat.le_of_ble_eq_true rfl) rfl (by decide) (s_269 w224989 ⟨by omega, by omega⟩) (fun R225001 T225002 H225003 p225004 => ?_))
      obtain ⟨e225005, e225007, z225008, e225006, b225009⟩ := p225004
      subst e225005
      subst e225006
      subst e225007
      show wp _ _ 285 57 [(0, .ref r0), (1, vI a1), (2, vI a2)] [vI z225008, .ref r0] _ H224987 _
      refine wp_of e285 c285_57 (xc_V (pc' := 60) (r := r0) (as := [vI z225008]) (st := []) (lm_9_58) rfl rfl (Nat.le_of_ble_eq_true rfl) w224989 g0 sh_42 (by decide) rfl (by decide) (s_209 w224989 g0 ⟨by omega, by omega⟩) (fun R225010 T225011 H225012 p225013 => ?_))
      obtain ⟨e225014, w225016, f225017, z225019, e225015, b225020, p225018⟩ := p225013
      subst e225014
      subst e225015
      have f225021 := f224990.tr f225017 rfl
      show wp _ _ 285 60 [(0, .ref r0), (1, vI a1), (2, vI a2)] [vI z225019] _ H225012 _
      have k225022 : H225012 r0 28 = H224987 r0 28 := (f225017 r0 28 _ g0 rfl)
      have k225023 : wKI H225012 r0 = 1 := wKI_1.mpr (by omega)
      exact wp_ireturn e285 c285_60 rfl ⟨rfl, w225016, f225021, z225019, rfl, ⟨by omega, by omega⟩, by omega, by omega⟩
    · refine wp_of e285 c285_29 (rw_aload_n (pc' := 30) (v := .ref r0) rfl rfl rfl ?_)
      refine wp_of e285 c285_30 (rw_iconst (pc' := 31) rfl ?_)
      refine wp_of e285 c285_31 (xc_V (pc' := 34) (r := r0) (as := [vI 2]) (st := []) (lm_9_54) rfl rfl (Nat.le_of_ble_eq_true rfl) w224952 g0 sh_42 (by decide) rfl (by decide) (s_170 w224952 g0 ⟨by omega, by omega⟩) (fun R225024 T225025 H225026 p225027 => ?_))
      obtain ⟨e225028, w225030, f225031, z225033, e225029, b225034, p225032⟩ := p225027
      subst e225028
      subst e225029
      have f225035 := f224953.tr f225031 rfl
      show wp _ _ 285 34 [(0, .ref r0), (1, vI a1), (2, vI a2)] [vI z225033] _ H225026 _
      have k225036 : wKI H225026 r0 = wKI H r0 := ((wKI_fr w224952 g0 f225031 rfl).trans (wKI_fr hW g0 ((wfr.rf (l := [(42, 0)])).put' e224951 g0 rfl) rfl))
      exact wp_ireturn e285 c285_34 rfl ⟨rfl, w225030, f225035, z225033, rfl, ⟨by omega, by omega⟩, by omega, by omega⟩
  · refine wp_of e285 c285_13 (rw_aload_n (pc' := 14) (v := .ref r0) rfl rfl rfl ?_)
    refine wp_of e285 c285_14 (rw_iconst (pc' := 15) rfl ?_)
    refine wp_of e285 c285_15 (xc_V (pc' := 18) (r := r0) (as := [vI 1]) (st := []) (lm_9_54) rfl rfl (Nat.le_of_ble_eq_true rfl) w224952 g0 sh_42 (by decide) rfl (by decide) (s_170 w224952 g0 ⟨by omega, by omega⟩) (fun R225037 T225038 H225039 p225040 => ?_))
    obtain ⟨e225041, w225043, f225044, z225046, e225042, b225047, p225045⟩ := p225040
    subst e225041
    subst e225042
    have f225048 := f224953.tr f225044 rfl
    show wp _ _ 285 18 [(0, .ref r0), (1, vI a1), (2, vI a2)] [vI z225046] _ H225039 _
    have k225049 : wKI H225039 r0 = wKI H r0 := ((wKI_fr w224952 g0 f225044 rfl).trans (wKI_fr hW g0 ((wfr.rf (l := [(42, 0)])).put' e224951 g0 rfl) rfl))
    exact wp_ireturn e285 c285_18 rfl ⟨rfl, w225043, f225048, z225046, rfl, ⟨by omega, by omega⟩, by omega, by omega⟩
/-! StrikeAwakeModel.still(I)Z -/
theorem e286 : wq_en 286 = some (9, 2, false, some FieldType.boolean) := rfl
theorem c286_0 : mc_cd 286 0 = some (.aload_n 0, 1) := by decide +kernel
theorem c286_1 : mc_cd 286 1 = some (.iconst 0, 1) := by decide +kernel
theorem c286_2 : mc_cd 286 2 = some (.putfield 48, 3) := by decide +kernel
theorem c286_5 : mc_cd 286 5 = some (.aload_n 0, 1) := by decide +kernel
theorem c286_6 : mc_cd 286 6 = some (.iload_n 1, 1) := by decide +kernel
theorem c286_7 : mc_cd 286 7 = some (.invokevirtual 487, 3) := by decide +kernel
theorem c286_10 : mc_cd 286 10 = some (.ifCond .ne 9, 3) := by decide +kernel
theorem c286_13 : mc_cd 286 13 = some (.aload_n 0, 1) := by decide +kernel
theorem c286_14 : mc_cd 286 14 = some (.iconst 1, 1) := by decide +kernel
theorem c286_15 : mc_cd 286 15 = some (.invokevirtual 400, 3) := by decide +kernel
theorem c286_18 : mc_cd 286 18 = some (.ireturn, 1) := by decide +kernel
theorem c286_19 : mc_cd 286 19 = some (.aload_n 0, 1) := by decide +kernel
theorem c286_20 : mc_cd 286 20 = some (.getfield 17, 3) := by decide +kernel
theorem c286_23 : mc_cd 286 23 = some (.iload_n 1, 1) := by decide +kernel
theorem c286_24 : mc_cd 286 24 = some (.iconst 0, 1) := by decide +kernel
theorem c286_25 : mc_cd 286 25 = some (.iastore, 1) := by decide +kernel
theorem c286_26 : mc_cd 286 26 = some (.aload_n 0, 1) := by decide +kernel
theorem c286_27 : mc_cd 286 27 = some (.iconst 0, 1) := by decide +kernel
theorem c286_28 : mc_cd 286 28 = some (.putfield 353, 3) := by decide +kernel
theorem c286_31 : mc_cd 286 31 = some (.aload_n 0, 1) := by decide +kernel
theorem c286_32 : mc_cd 286 32 = some (.invokevirtual 403, 3) := by decide +kernel
theorem c286_35 : mc_cd 286 35 = some (.ireturn, 1) := by decide +kernel
abbrev q_286 (r0 : Nat) (a1 : Int) (T : wq_T) (H : wq_H) : Option Value → wq_T → wq_H → Prop := fun r T' H' => T = T' ∧ WT T H' ∧ wfr [(42, 0), (42, 1), (42, 2), (42, 28), (44, 999)] T H H' ∧ ∃ z : Int, some (vI z) = r ∧ (0 ≤ z ∧ z ≤ 1) ∧ (wKI H' r0 = 1) ∧ (H' r0 2 = -1)
set_option maxHeartbeats 4000000 in
theorem s_286 {kt : Nat → Option mc_E} {T : wq_T} {H : wq_H} {r0 : Nat} {a1 : Int} (hW : WT T H) (g0 : T.2.2.2 r0 = some 42) (i1 : (-2147483648) ≤ a1 ∧ a1 ≤ 2147483647) (p0 : wKI H r0 = 1) : wpc kt 3 286 [.ref r0, vI a1] T H (q_286 r0 a1 T H) := by
  refine wp_enter e286 (Nat.le_of_ble_eq_true rfl) rfl ?_
  have f0 : wfr [(42, 0), (42, 1), (42, 2), (42, 28), (44, 999)] T H H := wfr.rf
  show wp _ _ 286 0 [(0, .ref r0), (1, vI a1)] [] _ H _
  refine wp_of e286 c286_0 (rw_aload_n (pc' := 1) (v := .ref r0) rfl rfl rfl ?_)
  refine wp_of e286 c286_1 (rw_iconst (pc' := 2) rfl ?_)
  refine wp_of e286 c286_2 (xp_I (pc' := 5) lf_9_48 hW g0 sh_42 (by decide) (by decide) ty_42_0 rfl rfl (by omega) (by omega) ⟨by omega, by omega⟩ rfl (fun H225105 e225106 w225107 => ?_))
  have f225108 := f0.put' e225106 g0 rfl
  have k225109 : H225105 r0 0 = 0 := wq_u_s e225106
  refine wp_of e286 c286_5 (rw_aload_n (pc' := 6) (v := .ref r0) rfl rfl rfl ?_)
  refine wp_of e286 c286_6 (rw_iload_n (pc' := 7) (z := a1) rfl rfl ?_)
  refine wp_of e286 c286_7 (xc_V (pc' := 10) (r := r0) (as := [vI a1]) (st := []) (lm_9_487) rfl rfl (Nat.le_of_ble_eq_true rfl) w225107 g0 sh_42 (by decide) rfl (by decide) (s_280 w225107 g0 ⟨by omega, by omega⟩) (fun R225110 T225111 H225112 p225113 => ?_))
  obtain ⟨e225114, e225116, z225118, e225115, b225119, p225117⟩ := p225113
  subst e225114
  subst e225115
  subst e225116
  show wp _ _ 286 10 [(0, .ref r0), (1, vI a1)] [vI z225118] _ H225105 _
  refine wp_of e286 c286_10 (rw_if_ne (p1 := 19) (p2 := 13) (by decide) rfl ⟨by omega, by omega⟩ (fun c225120 => ?_) (fun c225120 => ?_))
  · refine wp_of e286 c286_19 (rw_aload_n (pc' := 20) (v := .ref r0) rfl rfl rfl ?_)
    refine wp_of e286 c286_20 (xg_R (pc' := 23) lf_9_17 w225107 g0 sh_42 (by decide) (by decide) ty_42_20 rfl rfl (fun r225121 q225122 g225123 => ?_))
    refine wp_of e286 c286_23 (rw_iload_n (pc' := 24) (z := a1) rfl rfl ?_)
    refine wp_of e286 c286_24 (rw_iconst (pc' := 25) rfl ?_)
    refine wp_of e286 c286_25 (xs_I (pc' := 26) w225107 g225123 (by decide) sh_44 (by decide) (ty_44 _) (by omega) (by omega) ⟨by omega, by omega⟩ (by omega) (by omega) rfl (fun H225124 e225125 w225126 => ?_))
    have f225127 := f225108.put' e225125 g225123 rfl
    refine wp_of e286 c286_26 (rw_aload_n (pc' := 27) (v := .ref r0) rfl rfl rfl ?_)
    refine wp_of e286 c286_27 (rw_iconst (pc' := 28) rfl ?_)
    refine wp_of e286 c286_28 (xp_Z (pc' := 31) lf_9_353 w225126 g0 sh_42 (by decide) (by decide) ty_42_28 rfl rfl (by omega) (by omega) rfl (fun H225128 e225129 w225130 => ?_))
    have f225131 := f225127.put' e225129 g0 rfl
    have k225132 : H225128 r0 28 = 0 := wq_u_s e225129
    refine wp_of e286 c286_31 (rw_aload_n (pc' := 32) (v := .ref r0) rfl rfl rfl ?_)
    refine wp_of e286 c286_32 (xc_V (pc' := 35) (r := r0) (as := []) (st := []) (lm_9_403) rfl rfl (Nat.le_of_ble_eq_true rfl) w225130 g0 sh_42 (by decide) rfl (by decide) (s_224 w225130 g0) (fun R225133 T225134 H225135 p225136 => ?_))
    obtain ⟨e225137, w225139, f225140, z225142, e225138, b225143, p225141⟩ := p225136
    subst e225137
    subst e225138
    have f225144 := f225131.tr f225140 rfl
    show wp _ _ 286 35 [(0, .ref r0), (1, vI a1)] [vI z225142] _ H225135 _
    have k225145 : H225135 r0 28 = H225128 r0 28 := (f225140 r0 28 _ g0 rfl)
    have k225146 : wKI H225135 r0 = 1 := wKI_1.mpr (by omega)
    exact wp_zreturn e286 c286_35 rfl (by omega) ⟨rfl, w225139, f225144, z225142, rfl, ⟨by omega, by omega⟩, by omega, by omega⟩
  · refine wp_of e286 c286_13 (rw_aload_n (pc' := 14) (v := .ref r0) rfl rfl rfl ?_)
    refine wp_of e286 c286_14 (rw_iconst (pc' := 15) rfl ?_)
    refine wp_of e286 c286_15 (xc_V (pc' := 18) (r := r0) (as := [vI 1]) (st := []) (lm_9_400) rfl rfl (Nat.le_of_ble_eq_true rfl) w225107 g0 sh_42 (by decide) rfl (by decide) (s_223 w225107 g0 ⟨by omega, by omega⟩) (fun R225147 T225148 H225149 p225150 => ?_))
    obtain ⟨e225151, w225153, f225154, z225156, e225152, b225157, p225155⟩ := p225150
    subst e225151
    subst e225152
    have f225158 := f225108.tr f225154 rfl
    show wp _ _ 286 18 [(0, .ref r0), (1, vI a1)] [vI z225156] _ H225149 _
    have k225159 : wKI H225149 r0 = wKI H r0 := ((wKI_fr w225107 g0 f225154 rfl).trans (wKI_fr hW g0 ((wfr.rf (l := [(42, 0)])).put' e225106 g0 rfl) rfl))
    exact wp_zreturn e286 c286_18 rfl (by omega) ⟨rfl, w225153, f225158, z225156, rfl, ⟨by omega, by omega⟩, by omega, by omega⟩
