section
/-! methods of the reference (own work, written by wip/gen2/sx.py) -/
/-! StrikeAwakeModel.struck(I)I -/
theorem e287 : wq_en 287 = some (9, 2, false, some FieldType.int) := rfl
theorem cg287_0 : mc_cd 287 0 = some (.aload_n 0, 1) ∧ mc_cd 287 1 = some (.iconst 0, 1) ∧ mc_cd 287 2 = some (.putfield 48, 3) ∧ mc_cd 287 5 = some (.aload_n 0, 1) ∧ mc_cd 287 6 = some (.iload_n 1, 1) ∧ mc_cd 287 7 = some (.invokevirtual 373, 3) ∧ mc_cd 287 10 = some (.ifCond .ne 9, 3) ∧ mc_cd 287 13 = some (.aload_n 0, 1) := by decide +kernel
theorem c287_0 : mc_cd 287 0 = some (.aload_n 0, 1) := cg287_0.1
theorem c287_1 : mc_cd 287 1 = some (.iconst 0, 1) := cg287_0.2.1
theorem c287_2 : mc_cd 287 2 = some (.putfield 48, 3) := cg287_0.2.2.1
theorem c287_5 : mc_cd 287 5 = some (.aload_n 0, 1) := cg287_0.2.2.2.1
theorem c287_6 : mc_cd 287 6 = some (.iload_n 1, 1) := cg287_0.2.2.2.2.1
theorem c287_7 : mc_cd 287 7 = some (.invokevirtual 373, 3) := cg287_0.2.2.2.2.2.1
theorem c287_10 : mc_cd 287 10 = some (.ifCond .ne 9, 3) := cg287_0.2.2.2.2.2.2.1
theorem c287_13 : mc_cd 287 13 = some (.aload_n 0, 1) := cg287_0.2.2.2.2.2.2.2
theorem cg287_14 : mc_cd 287 14 = some (.iconst 1, 1) ∧ mc_cd 287 15 = some (.invokevirtual 54, 3) ∧ mc_cd 287 18 = some (.ireturn, 1) ∧ mc_cd 287 19 = some (.aload_n 0, 1) ∧ mc_cd 287 20 = some (.aload_n 0, 1) ∧ mc_cd 287 21 = some (.getfield 17, 3) ∧ mc_cd 287 24 = some (.iload_n 1, 1) ∧ mc_cd 287 25 = some (.iaload, 1) := by decide +kernel
theorem c287_14 : mc_cd 287 14 = some (.iconst 1, 1) := cg287_14.1
theorem c287_15 : mc_cd 287 15 = some (.invokevirtual 54, 3) := cg287_14.2.1
theorem c287_18 : mc_cd 287 18 = some (.ireturn, 1) := cg287_14.2.2.1
theorem c287_19 : mc_cd 287 19 = some (.aload_n 0, 1) := cg287_14.2.2.2.1
theorem c287_20 : mc_cd 287 20 = some (.aload_n 0, 1) := cg287_14.2.2.2.2.1
theorem c287_21 : mc_cd 287 21 = some (.getfield 17, 3) := cg287_14.2.2.2.2.2.1
theorem c287_24 : mc_cd 287 24 = some (.iload_n 1, 1) := cg287_14.2.2.2.2.2.2.1
theorem c287_25 : mc_cd 287 25 = some (.iaload, 1) := cg287_14.2.2.2.2.2.2.2
theorem cg287_26 : mc_cd 287 26 = some (.ifCond .ne 8, 3) ∧ mc_cd 287 29 = some (.bipush (-2), 2) ∧ mc_cd 287 31 = some (.goto 11, 3) ∧ mc_cd 287 34 = some (.aload_n 0, 1) ∧ mc_cd 287 35 = some (.getfield 17, 3) ∧ mc_cd 287 38 = some (.iload_n 1, 1) ∧ mc_cd 287 39 = some (.iaload, 1) ∧ mc_cd 287 40 = some (.iconst 1, 1) := by decide +kernel
theorem c287_26 : mc_cd 287 26 = some (.ifCond .ne 8, 3) := cg287_26.1
theorem c287_29 : mc_cd 287 29 = some (.bipush (-2), 2) := cg287_26.2.1
theorem c287_31 : mc_cd 287 31 = some (.goto 11, 3) := cg287_26.2.2.1
theorem c287_34 : mc_cd 287 34 = some (.aload_n 0, 1) := cg287_26.2.2.2.1
theorem c287_35 : mc_cd 287 35 = some (.getfield 17, 3) := cg287_26.2.2.2.2.1
theorem c287_38 : mc_cd 287 38 = some (.iload_n 1, 1) := cg287_26.2.2.2.2.2.1
theorem c287_39 : mc_cd 287 39 = some (.iaload, 1) := cg287_26.2.2.2.2.2.2.1
theorem c287_40 : mc_cd 287 40 = some (.iconst 1, 1) := cg287_26.2.2.2.2.2.2.2
theorem cg287_41 : mc_cd 287 41 = some (.isub, 1) ∧ mc_cd 287 42 = some (.invokevirtual 58, 3) ∧ mc_cd 287 45 = some (.ireturn, 1) := by decide +kernel
theorem c287_41 : mc_cd 287 41 = some (.isub, 1) := cg287_41.1
theorem c287_42 : mc_cd 287 42 = some (.invokevirtual 58, 3) := cg287_41.2.1
theorem c287_45 : mc_cd 287 45 = some (.ireturn, 1) := cg287_41.2.2
abbrev q_287 (r0 : Nat) (a1 : Int) (T : wq_T) (H : wq_H) : Option Value → wq_T → wq_H → Prop := fun r T' H' => T = T' ∧ WT T H' ∧ wfr [(42, 0), (42, 1), (42, 2)] T H H' ∧ ∃ z : Int, some (vI z) = r ∧ ((-2147483648) ≤ z ∧ z ≤ 2147483647) ∧ (wKI H' r0 = 1)
set_option maxHeartbeats 4000000 in
theorem s_287 {kt : Nat → Option mc_E} {T : wq_T} {H : wq_H} {r0 : Nat} {a1 : Int} (hW : WT T H) (g0 : T.2.2.2 r0 = some 42) (i1 : (-2147483648) ≤ a1 ∧ a1 ≤ 2147483647) (p0 : wKI H r0 = 1) : wpc kt 2 287 [.ref r0, vI a1] T H (q_287 r0 a1 T H) := by
  refine wp_enter e287 (Nat.le_of_ble_eq_true rfl) rfl ?_
  have f0 : wfr [(42, 0), (42, 1), (42, 2)] T H H := wfr.rf
  show wp _ _ 287 0 [(0, .ref r0), (1, vI a1)] [] _ H _
  refine wp_of e287 c287_0 (rw_aload_n (pc' := 1) (v := .ref r0) rfl rfl rfl ?_)
  refine wp_of e287 c287_1 (rw_iconst (pc' := 2) rfl ?_)
  refine wp_of e287 c287_2 (xp_I (pc' := 5) lf_9_48 hW g0 sh_42 (by decide) (by decide) ty_42_0 rfl rfl (by omega) (by omega) ⟨by omega, by omega⟩ rfl (fun H224634 e224635 w224636 => ?_))
  have f224637 := f0.put' e224635 g0 rfl
  have k224638 : H224634 r0 0 = 0 := wq_u_s e224635
  refine wp_of e287 c287_5 (rw_aload_n (pc' := 6) (v := .ref r0) rfl rfl rfl ?_)
  refine wp_of e287 c287_6 (rw_iload_n (pc' := 7) (z := a1) rfl rfl ?_)
  refine wp_of e287 c287_7 (xc_V (pc' := 10) (r := r0) (as := [vI a1]) (st := []) (lm_9_373) rfl rfl (Nat.le_of_ble_eq_true rfl) w224636 g0 sh_42 (by decide) rfl (by decide) (s_218 w224636 g0 ⟨by omega, by omega⟩) (fun R224639 T224640 H224641 p224642 => ?_))
  obtain ⟨e224643, e224645, z224647, e224644, b224648, p224646⟩ := p224642
  subst e224643
  subst e224644
  subst e224645
  show wp _ _ 287 10 [(0, .ref r0), (1, vI a1)] [vI z224647] _ H224634 _
  refine wp_of e287 c287_10 (rw_if_ne (p1 := 19) (p2 := 13) (by decide) rfl ⟨by omega, by omega⟩ (fun c224649 => ?_) (fun c224649 => ?_))
  · refine wp_of e287 c287_19 (rw_aload_n (pc' := 20) (v := .ref r0) rfl rfl rfl ?_)
    refine wp_of e287 c287_20 (rw_aload_n (pc' := 21) (v := .ref r0) rfl rfl rfl ?_)
    refine wp_of e287 c287_21 (xg_R (pc' := 24) lf_9_17 w224636 g0 sh_42 (by decide) (by decide) ty_42_20 rfl rfl (fun r224650 q224651 g224652 => ?_))
    refine wp_of e287 c287_24 (rw_iload_n (pc' := 25) (z := a1) rfl rfl ?_)
    refine wp_of e287 c287_25 (xa_I (so := 0) (pc' := 26) w224636 g224652 sh_44 (by decide) (ty_44 _) (by omega) (by omega) rfl (fun b224653 b224654 => ?_))
    refine wp_of e287 c287_26 (rw_if_ne (p1 := 34) (p2 := 29) (by decide) rfl ⟨by omega, by omega⟩ (fun c224655 => ?_) (fun c224655 => ?_))
    · refine wp_of e287 c287_34 (rw_aload_n (pc' := 35) (v := .ref r0) rfl rfl rfl ?_)
      refine wp_of e287 c287_35 (xg_K (pc' := 38) lf_9_17 w224636 g0 sh_42 (by decide) (by decide) rfl q224651 rfl ?_)
      refine wp_of e287 c287_38 (rw_iload_n (pc' := 39) (z := a1) rfl rfl ?_)
      refine wp_of e287 c287_39 (xa_I (so := 0) (pc' := 40) w224636 g224652 sh_44 (by decide) (ty_44 _) (by omega) (by omega) rfl (fun b224656 b224657 => ?_))
      refine wp_of e287 c287_40 (rw_iconst (pc' := 41) rfl ?_)
      refine wp_of e287 c287_41 (rw_isubw (pc' := 42) rfl ?_)
      obtain ⟨v224658, e224659⟩ : ∃ x : Int, x = wq_w ((H224634 r224650 (a1.toNat)) - 1) := ⟨_, rfl⟩
      rw [← e224659]
      have b224660 : -2147483648 ≤ v224658 ∧ v224658 ≤ 2147483647 := by
        rw [e224659]
        exact wI_w _
      refine wp_of e287 c287_42 (xc_V (pc' := 45) (r := r0) (as := [vI v224658]) (st := []) (lm_9_58) rfl rfl (Nat.le_of_ble_eq_true rfl) w224636 g0 sh_42 (by decide) rfl (by decide) (s_209 w224636 g0 ⟨by omega, by omega⟩) (fun R224661 T224662 H224663 p224664 => ?_))
      obtain ⟨e224665, w224667, f224668, z224669, e224666, b224670⟩ := p224664
      subst e224665
      subst e224666
      have f224671 := f224637.tr f224668 rfl
      show wp _ _ 287 45 [(0, .ref r0), (1, vI a1)] [vI z224669] _ H224663 _
      have k224672 : wKI H224663 r0 = wKI H r0 := ((wKI_fr w224636 g0 f224668 rfl).trans (wKI_fr hW g0 ((wfr.rf (l := [(42, 0)])).put' e224635 g0 rfl) rfl))
      exact wp_ireturn e287 c287_45 rfl ⟨rfl, w224667, f224671, z224669, rfl, ⟨by omega, by omega⟩, by omega⟩
    · refine wp_of e287 c287_29 (rw_bipush (pc' := 31) (z := -2) rfl (by decide) ?_)
      refine wp_of e287 c287_31 (rw_goto (p1 := 42) (by decide) ?_)
      refine wp_of e287 c287_42 (xc_V (pc' := 45) (r := r0) (as := [vI (-2)]) (st := []) (lm_9_58) rfl rfl (Nat.le_of_ble_eq_true rfl) w224636 g0 sh_42 (by decide) rfl (by decide) (s_209 w224636 g0 ⟨by omega, by omega⟩) (fun R224673 T224674 H224675 p224676 => ?_))
      obtain ⟨e224677, w224679, f224680, z224681, e224678, b224682⟩ := p224676
      subst e224677
      subst e224678
      have f224683 := f224637.tr f224680 rfl
      show wp _ _ 287 45 [(0, .ref r0), (1, vI a1)] [vI z224681] _ H224675 _
      have k224684 : wKI H224675 r0 = wKI H r0 := ((wKI_fr w224636 g0 f224680 rfl).trans (wKI_fr hW g0 ((wfr.rf (l := [(42, 0)])).put' e224635 g0 rfl) rfl))
      exact wp_ireturn e287 c287_45 rfl ⟨rfl, w224679, f224683, z224681, rfl, ⟨by omega, by omega⟩, by omega⟩
  · refine wp_of e287 c287_13 (rw_aload_n (pc' := 14) (v := .ref r0) rfl rfl rfl ?_)
    refine wp_of e287 c287_14 (rw_iconst (pc' := 15) rfl ?_)
    refine wp_of e287 c287_15 (xc_V (pc' := 18) (r := r0) (as := [vI 1]) (st := []) (lm_9_54) rfl rfl (Nat.le_of_ble_eq_true rfl) w224636 g0 sh_42 (by decide) rfl (by decide) (s_170 w224636 g0 ⟨by omega, by omega⟩) (fun R224685 T224686 H224687 p224688 => ?_))
    obtain ⟨e224689, w224691, f224692, z224693, e224690, b224694⟩ := p224688
    subst e224689
    subst e224690
    have f224695 := f224637.tr f224692 rfl
    show wp _ _ 287 18 [(0, .ref r0), (1, vI a1)] [vI z224693] _ H224687 _
    have k224696 : wKI H224687 r0 = wKI H r0 := ((wKI_fr w224636 g0 f224692 rfl).trans (wKI_fr hW g0 ((wfr.rf (l := [(42, 0)])).put' e224635 g0 rfl) rfl))
    exact wp_ireturn e287 c287_18 rfl ⟨rfl, w224691, f224695, z224693, rfl, ⟨by omega, by omega⟩, by omega⟩
/-! StrikeAwakeModel.seek()I -/
theorem e288 : wq_en 288 = some (9, 3, false, some FieldType.int) := rfl
theorem cg288_0 : mc_cd 288 0 = some (.aload_n 0, 1) ∧ mc_cd 288 1 = some (.iconst 0, 1) ∧ mc_cd 288 2 = some (.putfield 48, 3) ∧ mc_cd 288 5 = some (.aload_n 0, 1) ∧ mc_cd 288 6 = some (.aload_n 0, 1) ∧ mc_cd 288 7 = some (.getfield 337, 3) ∧ mc_cd 288 10 = some (.ifnull 7, 3) ∧ mc_cd 288 13 = some (.iconst 1, 1) := by decide +kernel
theorem c288_0 : mc_cd 288 0 = some (.aload_n 0, 1) := cg288_0.1
theorem c288_1 : mc_cd 288 1 = some (.iconst 0, 1) := cg288_0.2.1
theorem c288_2 : mc_cd 288 2 = some (.putfield 48, 3) := cg288_0.2.2.1
theorem c288_5 : mc_cd 288 5 = some (.aload_n 0, 1) := cg288_0.2.2.2.1
theorem c288_6 : mc_cd 288 6 = some (.aload_n 0, 1) := cg288_0.2.2.2.2.1
theorem c288_7 : mc_cd 288 7 = some (.getfield 337, 3) := cg288_0.2.2.2.2.2.1
theorem c288_10 : mc_cd 288 10 = some (.ifnull 7, 3) := cg288_0.2.2.2.2.2.2.1
theorem c288_13 : mc_cd 288 13 = some (.iconst 1, 1) := cg288_0.2.2.2.2.2.2.2
theorem cg288_14 : mc_cd 288 14 = some (.goto 4, 3) ∧ mc_cd 288 17 = some (.iconst 0, 1) ∧ mc_cd 288 18 = some (.invokevirtual 433, 3) ∧ mc_cd 288 21 = some (.istore_n 1, 1) ∧ mc_cd 288 22 = some (.iload_n 1, 1) ∧ mc_cd 288 23 = some (.ifCond .le 9, 3) ∧ mc_cd 288 26 = some (.aload_n 0, 1) ∧ mc_cd 288 27 = some (.iload_n 1, 1) := by decide +kernel
theorem c288_14 : mc_cd 288 14 = some (.goto 4, 3) := cg288_14.1
theorem c288_17 : mc_cd 288 17 = some (.iconst 0, 1) := cg288_14.2.1
theorem c288_18 : mc_cd 288 18 = some (.invokevirtual 433, 3) := cg288_14.2.2.1
theorem c288_21 : mc_cd 288 21 = some (.istore_n 1, 1) := cg288_14.2.2.2.1
theorem c288_22 : mc_cd 288 22 = some (.iload_n 1, 1) := cg288_14.2.2.2.2.1
theorem c288_23 : mc_cd 288 23 = some (.ifCond .le 9, 3) := cg288_14.2.2.2.2.2.1
theorem c288_26 : mc_cd 288 26 = some (.aload_n 0, 1) := cg288_14.2.2.2.2.2.2.1
theorem c288_27 : mc_cd 288 27 = some (.iload_n 1, 1) := cg288_14.2.2.2.2.2.2.2
theorem cg288_28 : mc_cd 288 28 = some (.invokevirtual 54, 3) ∧ mc_cd 288 31 = some (.ireturn, 1) ∧ mc_cd 288 32 = some (.iconst 0, 1) ∧ mc_cd 288 33 = some (.istore_n 2, 1) ∧ mc_cd 288 34 = some (.iload_n 2, 1) ∧ mc_cd 288 35 = some (.aload_n 0, 1) ∧ mc_cd 288 36 = some (.getfield 422, 3) ∧ mc_cd 288 39 = some (.if_icmp .ge 48, 3) := by decide +kernel
theorem c288_28 : mc_cd 288 28 = some (.invokevirtual 54, 3) := cg288_28.1
theorem c288_31 : mc_cd 288 31 = some (.ireturn, 1) := cg288_28.2.1
theorem c288_32 : mc_cd 288 32 = some (.iconst 0, 1) := cg288_28.2.2.1
theorem c288_33 : mc_cd 288 33 = some (.istore_n 2, 1) := cg288_28.2.2.2.1
theorem c288_34 : mc_cd 288 34 = some (.iload_n 2, 1) := cg288_28.2.2.2.2.1
theorem c288_35 : mc_cd 288 35 = some (.aload_n 0, 1) := cg288_28.2.2.2.2.2.1
theorem c288_36 : mc_cd 288 36 = some (.getfield 422, 3) := cg288_28.2.2.2.2.2.2.1
theorem c288_39 : mc_cd 288 39 = some (.if_icmp .ge 48, 3) := cg288_28.2.2.2.2.2.2.2
theorem cg288_42 : mc_cd 288 42 = some (.aload_n 0, 1) ∧ mc_cd 288 43 = some (.getfield 42, 3) ∧ mc_cd 288 46 = some (.iload_n 2, 1) ∧ mc_cd 288 47 = some (.iaload, 1) ∧ mc_cd 288 48 = some (.aload_n 0, 1) ∧ mc_cd 288 49 = some (.getfield 340, 3) ∧ mc_cd 288 52 = some (.if_icmp .ge 6, 3) ∧ mc_cd 288 55 = some (.goto 26, 3) := by decide +kernel
theorem c288_42 : mc_cd 288 42 = some (.aload_n 0, 1) := cg288_42.1
theorem c288_43 : mc_cd 288 43 = some (.getfield 42, 3) := cg288_42.2.1
theorem c288_46 : mc_cd 288 46 = some (.iload_n 2, 1) := cg288_42.2.2.1
theorem c288_47 : mc_cd 288 47 = some (.iaload, 1) := cg288_42.2.2.2.1
theorem c288_48 : mc_cd 288 48 = some (.aload_n 0, 1) := cg288_42.2.2.2.2.1
theorem c288_49 : mc_cd 288 49 = some (.getfield 340, 3) := cg288_42.2.2.2.2.2.1
theorem c288_52 : mc_cd 288 52 = some (.if_icmp .ge 6, 3) := cg288_42.2.2.2.2.2.2.1
theorem c288_55 : mc_cd 288 55 = some (.goto 26, 3) := cg288_42.2.2.2.2.2.2.2
theorem cg288_58 : mc_cd 288 58 = some (.aload_n 0, 1) ∧ mc_cd 288 59 = some (.aload_n 0, 1) ∧ mc_cd 288 60 = some (.getfield 42, 3) ∧ mc_cd 288 63 = some (.iload_n 2, 1) ∧ mc_cd 288 64 = some (.iaload, 1) ∧ mc_cd 288 65 = some (.iconst 1, 1) ∧ mc_cd 288 66 = some (.iadd, 1) ∧ mc_cd 288 67 = some (.putfield 340, 3) := by decide +kernel
theorem c288_58 : mc_cd 288 58 = some (.aload_n 0, 1) := cg288_58.1
theorem c288_59 : mc_cd 288 59 = some (.aload_n 0, 1) := cg288_58.2.1
theorem c288_60 : mc_cd 288 60 = some (.getfield 42, 3) := cg288_58.2.2.1
theorem c288_63 : mc_cd 288 63 = some (.iload_n 2, 1) := cg288_58.2.2.2.1
theorem c288_64 : mc_cd 288 64 = some (.iaload, 1) := cg288_58.2.2.2.2.1
theorem c288_65 : mc_cd 288 65 = some (.iconst 1, 1) := cg288_58.2.2.2.2.2.1
theorem c288_66 : mc_cd 288 66 = some (.iadd, 1) := cg288_58.2.2.2.2.2.2.1
theorem c288_67 : mc_cd 288 67 = some (.putfield 340, 3) := cg288_58.2.2.2.2.2.2.2
theorem cg288_70 : mc_cd 288 70 = some (.aload_n 0, 1) ∧ mc_cd 288 71 = some (.aload_n 0, 1) ∧ mc_cd 288 72 = some (.getfield 42, 3) ∧ mc_cd 288 75 = some (.iload_n 2, 1) ∧ mc_cd 288 76 = some (.iaload, 1) ∧ mc_cd 288 77 = some (.invokevirtual 58, 3) ∧ mc_cd 288 80 = some (.ireturn, 1) ∧ mc_cd 288 81 = some (.iinc 2 1, 3) := by decide +kernel
theorem c288_70 : mc_cd 288 70 = some (.aload_n 0, 1) := cg288_70.1
theorem c288_71 : mc_cd 288 71 = some (.aload_n 0, 1) := cg288_70.2.1
theorem c288_72 : mc_cd 288 72 = some (.getfield 42, 3) := cg288_70.2.2.1
theorem c288_75 : mc_cd 288 75 = some (.iload_n 2, 1) := cg288_70.2.2.2.1
theorem c288_76 : mc_cd 288 76 = some (.iaload, 1) := cg288_70.2.2.2.2.1
theorem c288_77 : mc_cd 288 77 = some (.invokevirtual 58, 3) := cg288_70.2.2.2.2.2.1
theorem c288_80 : mc_cd 288 80 = some (.ireturn, 1) := cg288_70.2.2.2.2.2.2.1
theorem c288_81 : mc_cd 288 81 = some (.iinc 2 1, 3) := cg288_70.2.2.2.2.2.2.2
theorem cg288_84 : mc_cd 288 84 = some (.goto (-50), 3) ∧ mc_cd 288 87 = some (.aload_n 0, 1) ∧ mc_cd 288 88 = some (.bipush 6, 2) ∧ mc_cd 288 90 = some (.invokevirtual 54, 3) ∧ mc_cd 288 93 = some (.ireturn, 1) := by decide +kernel
theorem c288_84 : mc_cd 288 84 = some (.goto (-50), 3) := cg288_84.1
theorem c288_87 : mc_cd 288 87 = some (.aload_n 0, 1) := cg288_84.2.1
theorem c288_88 : mc_cd 288 88 = some (.bipush 6, 2) := cg288_84.2.2.1
theorem c288_90 : mc_cd 288 90 = some (.invokevirtual 54, 3) := cg288_84.2.2.2.1
theorem c288_93 : mc_cd 288 93 = some (.ireturn, 1) := cg288_84.2.2.2.2
/-! StrikeAwakeModel.lot(II)I -/
theorem e289 : wq_en 289 = some (9, 3, false, some FieldType.int) := rfl
theorem cg289_0 : mc_cd 289 0 = some (.aload_n 0, 1) ∧ mc_cd 289 1 = some (.iconst 0, 1) ∧ mc_cd 289 2 = some (.putfield 48, 3) ∧ mc_cd 289 5 = some (.aload_n 0, 1) ∧ mc_cd 289 6 = some (.iload_n 2, 1) ∧ mc_cd 289 7 = some (.invokevirtual 364, 3) ∧ mc_cd 289 10 = some (.ifCond .eq 7, 3) ∧ mc_cd 289 13 = some (.iload_n 1, 1) := by decide +kernel
theorem c289_0 : mc_cd 289 0 = some (.aload_n 0, 1) := cg289_0.1
theorem c289_1 : mc_cd 289 1 = some (.iconst 0, 1) := cg289_0.2.1
theorem c289_2 : mc_cd 289 2 = some (.putfield 48, 3) := cg289_0.2.2.1
theorem c289_5 : mc_cd 289 5 = some (.aload_n 0, 1) := cg289_0.2.2.2.1
theorem c289_6 : mc_cd 289 6 = some (.iload_n 2, 1) := cg289_0.2.2.2.2.1
theorem c289_7 : mc_cd 289 7 = some (.invokevirtual 364, 3) := cg289_0.2.2.2.2.2.1
theorem c289_10 : mc_cd 289 10 = some (.ifCond .eq 7, 3) := cg289_0.2.2.2.2.2.2.1
theorem c289_13 : mc_cd 289 13 = some (.iload_n 1, 1) := cg289_0.2.2.2.2.2.2.2
theorem cg289_14 : mc_cd 289 14 = some (.ifCond .ge 9, 3) ∧ mc_cd 289 17 = some (.aload_n 0, 1) ∧ mc_cd 289 18 = some (.iconst 1, 1) ∧ mc_cd 289 19 = some (.invokevirtual 54, 3) ∧ mc_cd 289 22 = some (.ireturn, 1) ∧ mc_cd 289 23 = some (.aload_n 0, 1) ∧ mc_cd 289 24 = some (.invokevirtual 376, 3) ∧ mc_cd 289 27 = some (.ldc2_w 428, 3) := by decide +kernel
theorem c289_14 : mc_cd 289 14 = some (.ifCond .ge 9, 3) := cg289_14.1
theorem c289_17 : mc_cd 289 17 = some (.aload_n 0, 1) := cg289_14.2.1
theorem c289_18 : mc_cd 289 18 = some (.iconst 1, 1) := cg289_14.2.2.1
theorem c289_19 : mc_cd 289 19 = some (.invokevirtual 54, 3) := cg289_14.2.2.2.1
theorem c289_22 : mc_cd 289 22 = some (.ireturn, 1) := cg289_14.2.2.2.2.1
theorem c289_23 : mc_cd 289 23 = some (.aload_n 0, 1) := cg289_14.2.2.2.2.2.1
theorem c289_24 : mc_cd 289 24 = some (.invokevirtual 376, 3) := cg289_14.2.2.2.2.2.2.1
theorem c289_27 : mc_cd 289 27 = some (.ldc2_w 428, 3) := cg289_14.2.2.2.2.2.2.2
theorem cg289_30 : mc_cd 289 30 = some (.lcmp, 1) ∧ mc_cd 289 31 = some (.ifCond .le 9, 3) ∧ mc_cd 289 34 = some (.aload_n 0, 1) ∧ mc_cd 289 35 = some (.iconst 3, 1) ∧ mc_cd 289 36 = some (.invokevirtual 54, 3) ∧ mc_cd 289 39 = some (.ireturn, 1) ∧ mc_cd 289 40 = some (.iload_n 1, 1) ∧ mc_cd 289 41 = some (.i2l, 1) := by decide +kernel
theorem c289_30 : mc_cd 289 30 = some (.lcmp, 1) := cg289_30.1
theorem c289_31 : mc_cd 289 31 = some (.ifCond .le 9, 3) := cg289_30.2.1
theorem c289_34 : mc_cd 289 34 = some (.aload_n 0, 1) := cg289_30.2.2.1
theorem c289_35 : mc_cd 289 35 = some (.iconst 3, 1) := cg289_30.2.2.2.1
theorem c289_36 : mc_cd 289 36 = some (.invokevirtual 54, 3) := cg289_30.2.2.2.2.1
theorem c289_39 : mc_cd 289 39 = some (.ireturn, 1) := cg289_30.2.2.2.2.2.1
theorem c289_40 : mc_cd 289 40 = some (.iload_n 1, 1) := cg289_30.2.2.2.2.2.2.1
theorem c289_41 : mc_cd 289 41 = some (.i2l, 1) := cg289_30.2.2.2.2.2.2.2
theorem cg289_42 : mc_cd 289 42 = some (.aload_n 0, 1) ∧ mc_cd 289 43 = some (.invokevirtual 376, 3) ∧ mc_cd 289 46 = some (.lcmp, 1) ∧ mc_cd 289 47 = some (.ifCond .lt 9, 3) ∧ mc_cd 289 50 = some (.aload_n 0, 1) ∧ mc_cd 289 51 = some (.iconst 1, 1) ∧ mc_cd 289 52 = some (.invokevirtual 54, 3) ∧ mc_cd 289 55 = some (.ireturn, 1) := by decide +kernel
theorem c289_42 : mc_cd 289 42 = some (.aload_n 0, 1) := cg289_42.1
theorem c289_43 : mc_cd 289 43 = some (.invokevirtual 376, 3) := cg289_42.2.1
theorem c289_46 : mc_cd 289 46 = some (.lcmp, 1) := cg289_42.2.2.1
theorem c289_47 : mc_cd 289 47 = some (.ifCond .lt 9, 3) := cg289_42.2.2.2.1
theorem c289_50 : mc_cd 289 50 = some (.aload_n 0, 1) := cg289_42.2.2.2.2.1
theorem c289_51 : mc_cd 289 51 = some (.iconst 1, 1) := cg289_42.2.2.2.2.2.1
theorem c289_52 : mc_cd 289 52 = some (.invokevirtual 54, 3) := cg289_42.2.2.2.2.2.2.1
theorem c289_55 : mc_cd 289 55 = some (.ireturn, 1) := cg289_42.2.2.2.2.2.2.2
theorem cg289_56 : mc_cd 289 56 = some (.aload_n 0, 1) ∧ mc_cd 289 57 = some (.iload_n 1, 1) ∧ mc_cd 289 58 = some (.invokevirtual 425, 3) ∧ mc_cd 289 61 = some (.aload_n 0, 1) ∧ mc_cd 289 62 = some (.aload_n 0, 1) ∧ mc_cd 289 63 = some (.getfield 39, 3) ∧ mc_cd 289 66 = some (.iload_n 2, 1) ∧ mc_cd 289 67 = some (.iaload, 1) := by decide +kernel
theorem c289_56 : mc_cd 289 56 = some (.aload_n 0, 1) := cg289_56.1
theorem c289_57 : mc_cd 289 57 = some (.iload_n 1, 1) := cg289_56.2.1
theorem c289_58 : mc_cd 289 58 = some (.invokevirtual 425, 3) := cg289_56.2.2.1
theorem c289_61 : mc_cd 289 61 = some (.aload_n 0, 1) := cg289_56.2.2.2.1
theorem c289_62 : mc_cd 289 62 = some (.aload_n 0, 1) := cg289_56.2.2.2.2.1
theorem c289_63 : mc_cd 289 63 = some (.getfield 39, 3) := cg289_56.2.2.2.2.2.1
theorem c289_66 : mc_cd 289 66 = some (.iload_n 2, 1) := cg289_56.2.2.2.2.2.2.1
theorem c289_67 : mc_cd 289 67 = some (.iaload, 1) := cg289_56.2.2.2.2.2.2.2
theorem cg289_68 : mc_cd 289 68 = some (.invokevirtual 58, 3) ∧ mc_cd 289 71 = some (.ireturn, 1) := by decide +kernel
theorem c289_68 : mc_cd 289 68 = some (.invokevirtual 58, 3) := cg289_68.1
theorem c289_71 : mc_cd 289 71 = some (.ireturn, 1) := cg289_68.2
abbrev q_289 (r0 : Nat) (a1 : Int) (a2 : Int) (T : wq_T) (H : wq_H) : Option Value → wq_T → wq_H → Prop := fun r T' H' => T = T' ∧ WT T H' ∧ wfr [(42, 0), (42, 1), (42, 2), (51, 999)] T H H' ∧ ∃ z : Int, some (vI z) = r ∧ ((-2147483648) ≤ z ∧ z ≤ 2147483647) ∧ (wKI H' r0 = 1)
set_option maxHeartbeats 4000000 in
theorem s_289 {kt : Nat → Option mc_E} {T : wq_T} {H : wq_H} {r0 : Nat} {a1 : Int} {a2 : Int} (hW : WT T H) (g0 : T.2.2.2 r0 = some 42) (i1 : (-2147483648) ≤ a1 ∧ a1 ≤ 2147483647) (i2 : (-2147483648) ≤ a2 ∧ a2 ≤ 2147483647) (p0 : wKI H r0 = 1) : wpc kt 2 289 [.ref r0, vI a1, vI a2] T H (q_289 r0 a1 a2 T H) := by
  refine wp_enter e289 (Nat.le_of_ble_eq_true rfl) rfl ?_
  have f0 : wfr [(42, 0), (42, 1), (42, 2), (51, 999)] T H H := wfr.rf
  show wp _ _ 289 0 [(0, .ref r0), (1, vI a1), (2, vI a2)] [] _ H _
  refine wp_of e289 c289_0 (rw_aload_n (pc' := 1) (v := .ref r0) rfl rfl rfl ?_)
  refine wp_of e289 c289_1 (rw_iconst (pc' := 2) rfl ?_)
  refine wp_of e289 c289_2 (xp_I (pc' := 5) lf_9_48 hW g0 sh_42 (by decide) (by decide) ty_42_0 rfl rfl (by omega) (by omega) ⟨by omega, by omega⟩ rfl (fun H225243 e225244 w225245 => ?_))
  have f225246 := f0.put' e225244 g0 rfl
  have k225247 : H225243 r0 0 = 0 := wq_u_s e225244
  refine wp_of e289 c289_5 (rw_aload_n (pc' := 6) (v := .ref r0) rfl rfl rfl ?_)
  refine wp_of e289 c289_6 (rw_iload_n (pc' := 7) (z := a2) rfl rfl ?_)
  refine wp_of e289 c289_7 (xc_V (pc' := 10) (r := r0) (as := [vI a2]) (st := []) (lm_9_364) rfl rfl (Nat.le_of_ble_eq_true rfl) w225245 g0 sh_42 (by decide) rfl (by decide) (s_213 w225245 g0 ⟨by omega, by omega⟩) (fun R225248 T225249 H225250 p225251 => ?_))
  obtain ⟨e225252, e225254, z225256, e225253, b225257, p225255⟩ := p225251
  subst e225252
  subst e225253
  subst e225254
  show wp _ _ 289 10 [(0, .ref r0), (1, vI a1), (2, vI a2)] [vI z225256] _ H225243 _
  refine wp_of e289 c289_10 (rw_if_eq (p1 := 17) (p2 := 13) (by decide) rfl ⟨by omega, by omega⟩ (fun c225258 => ?_) (fun c225258 => ?_))
  · refine wp_of e289 c289_17 (rw_aload_n (pc' := 18) (v := .ref r0) rfl rfl rfl ?_)
    refine wp_of e289 c289_18 (rw_iconst (pc' := 19) rfl ?_)
    refine wp_of e289 c289_19 (xc_V (pc' := 22) (r := r0) (as := [vI 1]) (st := []) (lm_9_54) rfl rfl (Nat.le_of_ble_eq_true rfl) w225245 g0 sh_42 (by decide) rfl (by decide) (s_170 w225245 g0 ⟨by omega, by omega⟩) (fun R225259 T225260 H225261 p225262 => ?_))
    obtain ⟨e225263, w225265, f225266, z225267, e225264, b225268⟩ := p225262
    subst e225263
    subst e225264
    have f225269 := f225246.tr f225266 rfl
    show wp _ _ 289 22 [(0, .ref r0), (1, vI a1), (2, vI a2)] [vI z225267] _ H225261 _
    have k225270 : wKI H225261 r0 = wKI H r0 := ((wKI_fr w225245 g0 f225266 rfl).trans (wKI_fr hW g0 ((wfr.rf (l := [(42, 0)])).put' e225244 g0 rfl) rfl))
    exact wp_ireturn e289 c289_22 rfl ⟨rfl, w225265, f225269, z225267, rfl, ⟨by omega, by omega⟩, by omega⟩
  · refine wp_of e289 c289_13 (rw_iload_n (pc' := 14) (z := a1) rfl rfl ?_)
    refine wp_of e289 c289_14 (rw_if_ge (p1 := 23) (p2 := 17) (by decide) rfl ⟨by omega, by omega⟩ (fun c225271 => ?_) (fun c225271 => ?_))
    · refine wp_of e289 c289_23 (rw_aload_n (pc' := 24) (v := .ref r0) rfl rfl rfl ?_)
      have k225272 : wLM H225243 r0 = wLM H r0 := (wLM_fr hW g0 ((wfr.rf (l := [(42, 0)])).put' e225244 g0 rfl) rfl)
      obtain ⟨r225273, q225274, g225275⟩ := (w225245.opt g0 (t' := 54) (n := 33) (j := 3) (p := 0) (q := 0) rfl (by decide) rfl).resolve_left (by omega)
      refine wp_of e289 c289_24 (xc_V (pc' := 27) (r := r0) (as := []) (st := []) (lm_9_376) rfl rfl (Nat.le_of_ble_eq_true rfl) w225245 g0 sh_42 (by decide) rfl (by decide) (s_220 w225245 g0 q225274 g225275) (fun R225276 T225277 H225278 p225279 => ?_))
      obtain ⟨e225280, e225282, z225284, e225281, b225285, p225283⟩ := p225279
      subst e225280
      subst e225281
      subst e225282
      show wp _ _ 289 27 [(0, .ref r0), (1, vI a1), (2, vI a2)] [vL z225284] _ H225243 _
      refine wp_of e289 c289_27 (rw_ldc2 (pc' := 30) (z := 20000) rfl rfl rfl ?_)
      refine wp_of e289 c289_30 (rw_lcmp (pc' := 31) rfl ⟨by omega, by omega⟩ ⟨by omega, by omega⟩ ?_)
      have b225286 := wq_cmp_b z225284 20000
      refine wp_of e289 c289_31 (rw_if_le (p1 := 40) (p2 := 34) (by decide) rfl ⟨by omega, by omega⟩ (fun c225287 => ?_) (fun c225287 => ?_))
      · refine wp_of e289 c289_40 (rw_iload_n (pc' := 41) (z := a1) rfl rfl ?_)
        refine wp_of e289 c289_41 (rw_i2l (pc' := 42) rfl ⟨by omega, by omega⟩ ?_)
        refine wp_of e289 c289_42 (rw_aload_n (pc' := 43) (v := .ref r0) rfl rfl rfl ?_)
        refine wp_of e289 c289_43 (xc_V (pc' := 46) (r := r0) (as := []) (st := [vL a1]) (lm_9_376) rfl rfl (Nat.le_of_ble_eq_true rfl) w225245 g0 sh_42 (by decide) rfl (by decide) (s_220 w225245 g0 q225274 g225275) (fun R225288 T225289 H225290 p225291 => ?_))
        obtain ⟨e225292, e225294, z225296, e225293, b225297, p225295⟩ := p225291
        subst e225292
        subst e225293
        subst e225294
        show wp _ _ 289 46 [(0, .ref r0), (1, vI a1), (2, vI a2)] [vL z225296, vL a1] _ H225243 _
        refine wp_of e289 c289_46 (rw_lcmp (pc' := 47) rfl ⟨by omega, by omega⟩ ⟨by omega, by omega⟩ ?_)
        have b225298 := wq_cmp_b a1 z225296
        refine wp_of e289 c289_47 (rw_if_lt (p1 := 56) (p2 := 50) (by decide) rfl ⟨by omega, by omega⟩ (fun c225299 => ?_) (fun c225299 => ?_))
        · refine wp_of e289 c289_56 (rw_aload_n (pc' := 57) (v := .ref r0) rfl rfl rfl ?_)
          refine wp_of e289 c289_57 (rw_iload_n (pc' := 58) (z := a1) rfl rfl ?_)
          refine wp_of e289 c289_58 (xc_V (pc' := 61) (r := r0) (as := [vI a1]) (st := []) (lm_9_425) rfl rfl (Nat.le_of_ble_eq_true rfl) w225245 g0 sh_42 (by decide) rfl (by decide) (s_243 w225245 g0 ⟨by omega, by omega⟩ q225274 g225275 (by omega)) (fun R225300 T225301 H225302 p225303 => ?_))
          obtain ⟨e225304, w225306, f225307, e225305⟩ := p225303
          subst e225304
          subst e225305
          have f225308 := f225246.tr f225307 rfl
          show wp _ _ 289 61 [(0, .ref r0), (1, vI a1), (2, vI a2)] [] _ H225302 _
          refine wp_of e289 c289_61 (rw_aload_n (pc' := 62) (v := .ref r0) rfl rfl rfl ?_)
          refine wp_of e289 c289_62 (rw_aload_n (pc' := 63) (v := .ref r0) rfl rfl rfl ?_)
          refine wp_of e289 c289_63 (xg_R (pc' := 66) lf_9_39 w225306 g0 sh_42 (by decide) (by decide) ty_42_27 rfl rfl (fun r225309 q225310 g225311 => ?_))
          refine wp_of e289 c289_66 (rw_iload_n (pc' := 67) (z := a2) rfl rfl ?_)
          refine wp_of e289 c289_67 (xa_I (so := 0) (pc' := 68) w225306 g225311 sh_51 (by decide) (ty_51 _) (by omega) (by omega) rfl (fun b225312 b225313 => ?_))
          refine wp_of e289 c289_68 (xc_V (pc' := 71) (r := r0) (as := [vI (H225302 r225309 (a2.toNat))]) (st := []) (lm_9_58) rfl rfl (Nat.le_of_ble_eq_true rfl) w225306 g0 sh_42 (by decide) rfl (by decide) (s_209 w225306 g0 ⟨by omega, by omega⟩) (fun R225314 T225315 H225316 p225317 => ?_))
          obtain ⟨e225318, w225320, f225321, z225322, e225319, b225323⟩ := p225317
          subst e225318
          subst e225319
          have f225324 := f225308.tr f225321 rfl
          show wp _ _ 289 71 [(0, .ref r0), (1, vI a1), (2, vI a2)] [vI z225322] _ H225316 _
          have k225325 : wKI H225316 r0 = wKI H r0 := ((wKI_fr w225306 g0 f225321 rfl).trans ((wKI_fr w225245 g0 f225307 rfl).trans (wKI_fr hW g0 ((wfr.rf (l := [(42, 0)])).put' e225244 g0 rfl) rfl)))
          exact wp_ireturn e289 c289_71 rfl ⟨rfl, w225320, f225324, z225322, rfl, ⟨by omega, by omega⟩, by omega⟩
        · refine wp_of e289 c289_50 (rw_aload_n (pc' := 51) (v := .ref r0) rfl rfl rfl ?_)
          refine wp_of e289 c289_51 (rw_iconst (pc' := 52) rfl ?_)
          refine wp_of e289 c289_52 (xc_V (pc' := 55) (r := r0) (as := [vI 1]) (st := []) (lm_9_54) rfl rfl (Nat.le_of_ble_eq_true rfl) w225245 g0 sh_42 (by decide) rfl (by decide) (s_170 w225245 g0 ⟨by omega, by omega⟩) (fun R225326 T225327 H225328 p225329 => ?_))
          obtain ⟨e225330, w225332, f225333, z225334, e225331, b225335⟩ := p225329
          subst e225330
          subst e225331
          have f225336 := f225246.tr f225333 rfl
          show wp _ _ 289 55 [(0, .ref r0), (1, vI a1), (2, vI a2)] [vI z225334] _ H225328 _
          have k225337 : wKI H225328 r0 = wKI H r0 := ((wKI_fr w225245 g0 f225333 rfl).trans (wKI_fr hW g0 ((wfr.rf (l := [(42, 0)])).put' e225244 g0 rfl) rfl))
          exact wp_ireturn e289 c289_55 rfl ⟨rfl, w225332, f225336, z225334, rfl, ⟨by omega, by omega⟩, by omega⟩
      · refine wp_of e289 c289_34 (rw_aload_n (pc' := 35) (v := .ref r0) rfl rfl rfl ?_)
        refine wp_of e289 c289_35 (rw_iconst (pc' := 36) rfl ?_)
        refine wp_of e289 c289_36 (xc_V (pc' := 39) (r := r0) (as := [vI 3]) (st := []) (lm_9_54) rfl rfl (Nat.le_of_ble_eq_true rfl) w225245 g0 sh_42 (by decide) rfl (by decide) (s_170 w225245 g0 ⟨by omega, by omega⟩) (fun R225338 T225339 H225340 p225341 => ?_))
        obtain ⟨e225342, w225344, f225345, z225346, e225343, b225347⟩ := p225341
        subst e225342
        subst e225343
        have f225348 := f225246.tr f225345 rfl
        show wp _ _ 289 39 [(0, .ref r0), (1, vI a1), (2, vI a2)] [vI z225346] _ H225340 _
        have k225349 : wKI H225340 r0 = wKI H r0 := ((wKI_fr w225245 g0 f225345 rfl).trans (wKI_fr hW g0 ((wfr.rf (l := [(42, 0)])).put' e225244 g0 rfl) rfl))
        exact wp_ireturn e289 c289_39 rfl ⟨rfl, w225344, f225348, z225346, rfl, ⟨by omega, by omega⟩, by omega⟩
    · refine wp_of e289 c289_17 (rw_aload_n (pc' := 18) (v := .ref r0) rfl rfl rfl ?_)
      refine wp_of e289 c289_18 (rw_iconst (pc' := 19) rfl ?_)
      refine wp_of e289 c289_19 (xc_V (pc' := 22) (r := r0) (as := [vI 1]) (st := []) (lm_9_54) rfl rfl (Nat.le_of_ble_eq_true rfl) w225245 g0 sh_42 (by decide) rfl (by decide) (s_170 w225245 g0 ⟨by omega, by omega⟩) (fun R225350 T225351 H225352 p225353 => ?_))
      obtain ⟨e225354, w225356, f225357, z225358, e225355, b225359⟩ := p225353
      subst e225354
      subst e225355
      have f225360 := f225246.tr f225357 rfl
      show wp _ _ 289 22 [(0, .ref r0), (1, vI a1), (2, vI a2)] [vI z225358] _ H225352 _
      have k225361 : wKI H225352 r0 = wKI H r0 := ((wKI_fr w225245 g0 f225357 rfl).trans (wKI_fr hW g0 ((wfr.rf (l := [(42, 0)])).put' e225244 g0 rfl) rfl))
      exact wp_ireturn e289 c289_22 rfl ⟨rfl, w225356, f225360, z225358, rfl, ⟨by omega, by omega⟩, by omega⟩
/-! StrikeAwakeModel.again()Z -/
theorem e290 : wq_en 290 = some (9, 1, false, some FieldType.boolean) := rfl
theorem cg290_0 : mc_cd 290 0 = some (.aload_n 0, 1) ∧ mc_cd 290 1 = some (.iconst 0, 1) ∧ mc_cd 290 2 = some (.putfield 48, 3) ∧ mc_cd 290 5 = some (.aload_n 0, 1) ∧ mc_cd 290 6 = some (.getfield 337, 3) ∧ mc_cd 290 9 = some (.ifnonnull 9, 3) ∧ mc_cd 290 12 = some (.aload_n 0, 1) ∧ mc_cd 290 13 = some (.iconst 1, 1) := by decide +kernel
theorem c290_0 : mc_cd 290 0 = some (.aload_n 0, 1) := cg290_0.1
theorem c290_1 : mc_cd 290 1 = some (.iconst 0, 1) := cg290_0.2.1
theorem c290_2 : mc_cd 290 2 = some (.putfield 48, 3) := cg290_0.2.2.1
theorem c290_5 : mc_cd 290 5 = some (.aload_n 0, 1) := cg290_0.2.2.2.1
theorem c290_6 : mc_cd 290 6 = some (.getfield 337, 3) := cg290_0.2.2.2.2.1
theorem c290_9 : mc_cd 290 9 = some (.ifnonnull 9, 3) := cg290_0.2.2.2.2.2.1
theorem c290_12 : mc_cd 290 12 = some (.aload_n 0, 1) := cg290_0.2.2.2.2.2.2.1
theorem c290_13 : mc_cd 290 13 = some (.iconst 1, 1) := cg290_0.2.2.2.2.2.2.2
theorem cg290_14 : mc_cd 290 14 = some (.invokevirtual 400, 3) ∧ mc_cd 290 17 = some (.ireturn, 1) ∧ mc_cd 290 18 = some (.aload_n 0, 1) ∧ mc_cd 290 19 = some (.iconst 0, 1) ∧ mc_cd 290 20 = some (.putfield 340, 3) ∧ mc_cd 290 23 = some (.aload_n 0, 1) ∧ mc_cd 290 24 = some (.invokevirtual 403, 3) ∧ mc_cd 290 27 = some (.ireturn, 1) := by decide +kernel
theorem c290_14 : mc_cd 290 14 = some (.invokevirtual 400, 3) := cg290_14.1
theorem c290_17 : mc_cd 290 17 = some (.ireturn, 1) := cg290_14.2.1
theorem c290_18 : mc_cd 290 18 = some (.aload_n 0, 1) := cg290_14.2.2.1
theorem c290_19 : mc_cd 290 19 = some (.iconst 0, 1) := cg290_14.2.2.2.1
theorem c290_20 : mc_cd 290 20 = some (.putfield 340, 3) := cg290_14.2.2.2.2.1
theorem c290_23 : mc_cd 290 23 = some (.aload_n 0, 1) := cg290_14.2.2.2.2.2.1
theorem c290_24 : mc_cd 290 24 = some (.invokevirtual 403, 3) := cg290_14.2.2.2.2.2.2.1
theorem c290_27 : mc_cd 290 27 = some (.ireturn, 1) := cg290_14.2.2.2.2.2.2.2
abbrev q_290 (r0 : Nat) (T : wq_T) (H : wq_H) : Option Value → wq_T → wq_H → Prop := fun r T' H' => T = T' ∧ WT T H' ∧ wfr [(42, 0), (42, 1), (42, 2), (42, 32)] T H H' ∧ ∃ z : Int, some (vI z) = r ∧ (0 ≤ z ∧ z ≤ 1) ∧ (wKI H' r0 = 1)
set_option maxHeartbeats 4000000 in
theorem s_290 {kt : Nat → Option mc_E} {T : wq_T} {H : wq_H} {r0 : Nat} (hW : WT T H) (g0 : T.2.2.2 r0 = some 42) (p0 : wKI H r0 = 1) : wpc kt 3 290 [.ref r0] T H (q_290 r0 T H) := by
  refine wp_enter e290 (Nat.le_of_ble_eq_true rfl) rfl ?_
  have f0 : wfr [(42, 0), (42, 1), (42, 2), (42, 32)] T H H := wfr.rf
  show wp _ _ 290 0 [(0, .ref r0)] [] _ H _
  refine wp_of e290 c290_0 (rw_aload_n (pc' := 1) (v := .ref r0) rfl rfl rfl ?_)
  refine wp_of e290 c290_1 (rw_iconst (pc' := 2) rfl ?_)
  refine wp_of e290 c290_2 (xp_I (pc' := 5) lf_9_48 hW g0 sh_42 (by decide) (by decide) ty_42_0 rfl rfl (by omega) (by omega) ⟨by omega, by omega⟩ rfl (fun H225399 e225400 w225401 => ?_))
  have f225402 := f0.put' e225400 g0 rfl
  have k225403 : H225399 r0 0 = 0 := wq_u_s e225400
  refine wp_of e290 c290_5 (rw_aload_n (pc' := 6) (v := .ref r0) rfl rfl rfl ?_)
  refine wp_of e290 c290_6 (xg_O (pc' := 9) lf_9_337 w225401 g0 sh_42 (by decide) (by decide) ty_42_3 rfl rfl (fun q225405 => ?_) (fun r225404 q225405 g225406 => ?_))
  · refine wp_of e290 c290_9 (rw_ifnonnull_n (p1 := 18) (p2 := 12) (by decide) rfl ?_)
    refine wp_of e290 c290_12 (rw_aload_n (pc' := 13) (v := .ref r0) rfl rfl rfl ?_)
    refine wp_of e290 c290_13 (rw_iconst (pc' := 14) rfl ?_)
    refine wp_of e290 c290_14 (xc_V (pc' := 17) (r := r0) (as := [vI 1]) (st := []) (lm_9_400) rfl rfl (Nat.le_of_ble_eq_true rfl) w225401 g0 sh_42 (by decide) rfl (by decide) (s_223 w225401 g0 ⟨by omega, by omega⟩) (fun R225407 T225408 H225409 p225410 => ?_))
    obtain ⟨e225411, w225413, f225414, z225415, e225412, b225416⟩ := p225410
    subst e225411
    subst e225412
    have f225417 := f225402.tr f225414 rfl
    show wp _ _ 290 17 [(0, .ref r0)] [vI z225415] _ H225409 _
    have k225418 : wKI H225409 r0 = wKI H r0 := ((wKI_fr w225401 g0 f225414 rfl).trans (wKI_fr hW g0 ((wfr.rf (l := [(42, 0)])).put' e225400 g0 rfl) rfl))
    exact wp_zreturn e290 c290_17 rfl (by omega) ⟨rfl, w225413, f225417, z225415, rfl, ⟨by omega, by omega⟩, by omega⟩
  · refine wp_of e290 c290_9 (rw_ifnonnull_r (p1 := 18) (p2 := 12) (by decide) rfl ?_)
    refine wp_of e290 c290_18 (rw_aload_n (pc' := 19) (v := .ref r0) rfl rfl rfl ?_)
    refine wp_of e290 c290_19 (rw_iconst (pc' := 20) rfl ?_)
    refine wp_of e290 c290_20 (xp_I (pc' := 23) lf_9_340 w225401 g0 sh_42 (by decide) (by decide) ty_42_32 rfl rfl (by omega) (by omega) ⟨by omega, by omega⟩ rfl (fun H225419 e225420 w225421 => ?_))
    have f225422 := f225402.put' e225420 g0 rfl
    have k225423 : H225419 r0 32 = 0 := wq_u_s e225420
    refine wp_of e290 c290_23 (rw_aload_n (pc' := 24) (v := .ref r0) rfl rfl rfl ?_)
    refine wp_of e290 c290_24 (xc_V (pc' := 27) (r := r0) (as := []) (st := []) (lm_9_403) rfl rfl (Nat.le_of_ble_eq_true rfl) w225421 g0 sh_42 (by decide) rfl (by decide) (s_224 w225421 g0) (fun R225424 T225425 H225426 p225427 => ?_))
    obtain ⟨e225428, w225430, f225431, z225432, e225429, b225433⟩ := p225427
    subst e225428
    subst e225429
    have f225434 := f225422.tr f225431 rfl
    show wp _ _ 290 27 [(0, .ref r0)] [vI z225432] _ H225426 _
    have k225435 : wKI H225426 r0 = wKI H r0 := ((wKI_fr w225421 g0 f225431 rfl).trans ((wKI_fr w225401 g0 ((wfr.rf (l := [(42, 32)])).put' e225420 g0 rfl) rfl).trans (wKI_fr hW g0 ((wfr.rf (l := [(42, 0)])).put' e225400 g0 rfl) rfl)))
    exact wp_zreturn e290 c290_27 rfl (by omega) ⟨rfl, w225430, f225434, z225432, rfl, ⟨by omega, by omega⟩, by omega⟩
/-! StrikeAwakeModel.image()J -/
theorem e291 : wq_en 291 = some (9, 4, false, some FieldType.long) := rfl
theorem cg291_0 : mc_cd 291 0 = some (.aload_n 0, 1) ∧ mc_cd 291 1 = some (.iconst 0, 1) ∧ mc_cd 291 2 = some (.putfield 48, 3) ∧ mc_cd 291 5 = some (.aload_n 0, 1) ∧ mc_cd 291 6 = some (.getfield 337, 3) ∧ mc_cd 291 9 = some (.ifnonnull 10, 3) ∧ mc_cd 291 12 = some (.aload_n 0, 1) ∧ mc_cd 291 13 = some (.iconst 1, 1) := by decide +kernel
theorem c291_0 : mc_cd 291 0 = some (.aload_n 0, 1) := cg291_0.1
theorem c291_1 : mc_cd 291 1 = some (.iconst 0, 1) := cg291_0.2.1
theorem c291_2 : mc_cd 291 2 = some (.putfield 48, 3) := cg291_0.2.2.1
theorem c291_5 : mc_cd 291 5 = some (.aload_n 0, 1) := cg291_0.2.2.2.1
theorem c291_6 : mc_cd 291 6 = some (.getfield 337, 3) := cg291_0.2.2.2.2.1
theorem c291_9 : mc_cd 291 9 = some (.ifnonnull 10, 3) := cg291_0.2.2.2.2.2.1
theorem c291_12 : mc_cd 291 12 = some (.aload_n 0, 1) := cg291_0.2.2.2.2.2.2.1
theorem c291_13 : mc_cd 291 13 = some (.iconst 1, 1) := cg291_0.2.2.2.2.2.2.2
theorem cg291_14 : mc_cd 291 14 = some (.invokevirtual 54, 3) ∧ mc_cd 291 17 = some (.i2l, 1) ∧ mc_cd 291 18 = some (.lreturn, 1) ∧ mc_cd 291 19 = some (.aload_n 0, 1) ∧ mc_cd 291 20 = some (.getfield 340, 3) ∧ mc_cd 291 23 = some (.i2l, 1) ∧ mc_cd 291 24 = some (.lstore_n 1, 1) ∧ mc_cd 291 25 = some (.iconst 0, 1) := by decide +kernel
theorem c291_14 : mc_cd 291 14 = some (.invokevirtual 54, 3) := cg291_14.1
theorem c291_17 : mc_cd 291 17 = some (.i2l, 1) := cg291_14.2.1
theorem c291_18 : mc_cd 291 18 = some (.lreturn, 1) := cg291_14.2.2.1
theorem c291_19 : mc_cd 291 19 = some (.aload_n 0, 1) := cg291_14.2.2.2.1
theorem c291_20 : mc_cd 291 20 = some (.getfield 340, 3) := cg291_14.2.2.2.2.1
theorem c291_23 : mc_cd 291 23 = some (.i2l, 1) := cg291_14.2.2.2.2.2.1
theorem c291_24 : mc_cd 291 24 = some (.lstore_n 1, 1) := cg291_14.2.2.2.2.2.2.1
theorem c291_25 : mc_cd 291 25 = some (.iconst 0, 1) := cg291_14.2.2.2.2.2.2.2
theorem cg291_26 : mc_cd 291 26 = some (.istore_n 3, 1) ∧ mc_cd 291 27 = some (.iload_n 3, 1) ∧ mc_cd 291 28 = some (.aload_n 0, 1) ∧ mc_cd 291 29 = some (.getfield 337, 3) ∧ mc_cd 291 32 = some (.getfield 188, 3) ∧ mc_cd 291 35 = some (.if_icmp .ge 23, 3) ∧ mc_cd 291 38 = some (.ldc2_w 493, 3) ∧ mc_cd 291 41 = some (.lload_n 1, 1) := by decide +kernel
theorem c291_26 : mc_cd 291 26 = some (.istore_n 3, 1) := cg291_26.1
theorem c291_27 : mc_cd 291 27 = some (.iload_n 3, 1) := cg291_26.2.1
theorem c291_28 : mc_cd 291 28 = some (.aload_n 0, 1) := cg291_26.2.2.1
theorem c291_29 : mc_cd 291 29 = some (.getfield 337, 3) := cg291_26.2.2.2.1
theorem c291_32 : mc_cd 291 32 = some (.getfield 188, 3) := cg291_26.2.2.2.2.1
theorem c291_35 : mc_cd 291 35 = some (.if_icmp .ge 23, 3) := cg291_26.2.2.2.2.2.1
theorem c291_38 : mc_cd 291 38 = some (.ldc2_w 493, 3) := cg291_26.2.2.2.2.2.2.1
theorem c291_41 : mc_cd 291 41 = some (.lload_n 1, 1) := cg291_26.2.2.2.2.2.2.2
theorem cg291_42 : mc_cd 291 42 = some (.lmul, 1) ∧ mc_cd 291 43 = some (.aload_n 0, 1) ∧ mc_cd 291 44 = some (.getfield 36, 3) ∧ mc_cd 291 47 = some (.iload_n 3, 1) ∧ mc_cd 291 48 = some (.iaload, 1) ∧ mc_cd 291 49 = some (.i2l, 1) ∧ mc_cd 291 50 = some (.ladd, 1) ∧ mc_cd 291 51 = some (.lstore_n 1, 1) := by decide +kernel
theorem c291_42 : mc_cd 291 42 = some (.lmul, 1) := cg291_42.1
theorem c291_43 : mc_cd 291 43 = some (.aload_n 0, 1) := cg291_42.2.1
theorem c291_44 : mc_cd 291 44 = some (.getfield 36, 3) := cg291_42.2.2.1
theorem c291_47 : mc_cd 291 47 = some (.iload_n 3, 1) := cg291_42.2.2.2.1
theorem c291_48 : mc_cd 291 48 = some (.iaload, 1) := cg291_42.2.2.2.2.1
theorem c291_49 : mc_cd 291 49 = some (.i2l, 1) := cg291_42.2.2.2.2.2.1
theorem c291_50 : mc_cd 291 50 = some (.ladd, 1) := cg291_42.2.2.2.2.2.2.1
theorem c291_51 : mc_cd 291 51 = some (.lstore_n 1, 1) := cg291_42.2.2.2.2.2.2.2
theorem cg291_52 : mc_cd 291 52 = some (.iinc 3 1, 3) ∧ mc_cd 291 55 = some (.goto (-28), 3) ∧ mc_cd 291 58 = some (.aload_n 0, 1) ∧ mc_cd 291 59 = some (.lload_n 1, 1) ∧ mc_cd 291 60 = some (.invokevirtual 380, 3) ∧ mc_cd 291 63 = some (.lreturn, 1) := by decide +kernel
theorem c291_52 : mc_cd 291 52 = some (.iinc 3 1, 3) := cg291_52.1
theorem c291_55 : mc_cd 291 55 = some (.goto (-28), 3) := cg291_52.2.1
theorem c291_58 : mc_cd 291 58 = some (.aload_n 0, 1) := cg291_52.2.2.1
theorem c291_59 : mc_cd 291 59 = some (.lload_n 1, 1) := cg291_52.2.2.2.1
theorem c291_60 : mc_cd 291 60 = some (.invokevirtual 380, 3) := cg291_52.2.2.2.2.1
theorem c291_63 : mc_cd 291 63 = some (.lreturn, 1) := cg291_52.2.2.2.2.2
abbrev q_291 (r0 : Nat) (T : wq_T) (H : wq_H) : Option Value → wq_T → wq_H → Prop := fun r T' H' => T = T' ∧ WT T H' ∧ wfr [(42, 0), (42, 1), (42, 2)] T H H' ∧ ∃ z : Int, some (vL z) = r ∧ ((-9223372036854775808) ≤ z ∧ z ≤ 9223372036854775807) ∧ (wKI H' r0 = 1)
set_option maxHeartbeats 4000000 in
theorem s_291 {kt : Nat → Option mc_E} {T : wq_T} {H : wq_H} {r0 : Nat} (hW : WT T H) (g0 : T.2.2.2 r0 = some 42) (p0 : wKI H r0 = 1) : wpc kt 3 291 [.ref r0] T H (q_291 r0 T H) := by
  refine wp_enter e291 (Nat.le_of_ble_eq_true rfl) rfl ?_
  have f0 : wfr [(42, 0), (42, 1), (42, 2)] T H H := wfr.rf
  show wp _ _ 291 0 [(0, .ref r0)] [] _ H _
  refine wp_of e291 c291_0 (rw_aload_n (pc' := 1) (v := .ref r0) rfl rfl rfl ?_)
  refine wp_of e291 c291_1 (rw_iconst (pc' := 2) rfl ?_)
  refine wp_of e291 c291_2 (xp_I (pc' := 5) lf_9_48 hW g0 sh_42 (by decide) (by decide) ty_42_0 rfl rfl (by omega) (by omega) ⟨by omega, by omega⟩ rfl (fun H225569 e225570 w225571 => ?_))
  have f225572 := f0.put' e225570 g0 rfl
  have k225573 : H225569 r0 0 = 0 := wq_u_s e225570
  refine wp_of e291 c291_5 (rw_aload_n (pc' := 6) (v := .ref r0) rfl rfl rfl ?_)
  refine wp_of e291 c291_6 (xg_O (pc' := 9) lf_9_337 w225571 g0 sh_42 (by decide) (by decide) ty_42_3 rfl rfl (fun q225575 => ?_) (fun r225574 q225575 g225576 => ?_))
  · refine wp_of e291 c291_9 (rw_ifnonnull_n (p1 := 19) (p2 := 12) (by decide) rfl ?_)
    refine wp_of e291 c291_12 (rw_aload_n (pc' := 13) (v := .ref r0) rfl rfl rfl ?_)
    refine wp_of e291 c291_13 (rw_iconst (pc' := 14) rfl ?_)
    refine wp_of e291 c291_14 (xc_V (pc' := 17) (r := r0) (as := [vI 1]) (st := []) (lm_9_54) rfl rfl (Nat.le_of_ble_eq_true rfl) w225571 g0 sh_42 (by decide) rfl (by decide) (s_170 w225571 g0 ⟨by omega, by omega⟩) (fun R225577 T225578 H225579 p225580 => ?_))
    obtain ⟨e225581, w225583, f225584, z225585, e225582, b225586⟩ := p225580
    subst e225581
    subst e225582
    have f225587 := f225572.tr f225584 rfl
    show wp _ _ 291 17 [(0, .ref r0)] [vI z225585] _ H225579 _
    refine wp_of e291 c291_17 (rw_i2l (pc' := 18) rfl ⟨by omega, by omega⟩ ?_)
    have k225588 : wKI H225579 r0 = wKI H r0 := ((wKI_fr w225571 g0 f225584 rfl).trans (wKI_fr hW g0 ((wfr.rf (l := [(42, 0)])).put' e225570 g0 rfl) rfl))
    exact wp_lreturn e291 c291_18 rfl ⟨rfl, w225583, f225587, z225585, rfl, ⟨by omega, by omega⟩, by omega⟩
  · refine wp_of e291 c291_9 (rw_ifnonnull_r (p1 := 19) (p2 := 12) (by decide) rfl ?_)
    refine wp_of e291 c291_19 (rw_aload_n (pc' := 20) (v := .ref r0) rfl rfl rfl ?_)
    refine wp_of e291 c291_20 (xg_I (pc' := 23) lf_9_340 w225571 g0 sh_42 (by decide) (by decide) ty_42_32 rfl rfl (fun b225589 b225590 => ?_))
    refine wp_of e291 c291_23 (rw_i2l (pc' := 24) rfl ⟨by omega, by omega⟩ ?_)
    refine wp_of e291 c291_24 (rw_lstore_n (pc' := 25) (z := H225569 r0 32) (L' := [(1, vL (H225569 r0 32)), (0, .ref r0)]) rfl rfl rfl ?_)
    refine wp_of e291 c291_25 (rw_iconst (pc' := 26) rfl ?_)
    refine wp_of e291 c291_26 (rw_istore_n (pc' := 27) (z := 0) (L' := [(3, vI 0), (1, vL (H225569 r0 32)), (0, .ref r0)]) rfl rfl rfl ?_)
    have lp225677 : ∀ (n225678 : Nat) (v225680 : Int) (v225681 : Int), (0 ≤ v225680 ∧ v225680 ≤ 6) → ((-9223372036854775808) ≤ v225681 ∧ v225681 ≤ 9223372036854775807) → (6 - v225680).toNat = n225678 → wp kt 2 291 27 [(3, vI v225680), (1, vL v225681), (0, .ref r0)] [] T H225569 (q_291 r0 T H) := by
      intro n225678
      induction n225678 using Nat.strongRecOn with
      | _ n225678 ih225679 =>
        intro v225680 v225681 b225684 b225685 m225686
        refine wp_of e291 c291_27 (rw_iload_n (pc' := 28) (z := v225680) rfl rfl ?_)
        refine wp_of e291 c291_28 (rw_aload_n (pc' := 29) (v := .ref r0) rfl rfl rfl ?_)
        refine wp_of e291 c291_29 (xg_K (pc' := 32) lf_9_337 w225571 g0 sh_42 (by decide) (by decide) rfl q225575 rfl ?_)
        refine wp_of e291 c291_32 (xg_I (pc' := 35) lf_9_188 w225571 g225576 sh_54 (by decide) (by decide) ty_54_3 rfl rfl (fun b225687 b225688 => ?_))
        refine wp_of e291 c291_35 (rw_icmp_ge (p1 := 58) (p2 := 38) (by decide) rfl ⟨by omega, by omega⟩ ⟨by omega, by omega⟩ (fun c225689 => ?_) (fun c225689 => ?_))
        · refine wp_of e291 c291_58 (rw_aload_n (pc' := 59) (v := .ref r0) rfl rfl rfl ?_)
          refine wp_of e291 c291_59 (rw_lload_n (pc' := 60) (z := v225681) rfl rfl ?_)
          refine wp_of e291 c291_60 (xc_V (pc' := 63) (r := r0) (as := [vL v225681]) (st := []) (lm_9_380) rfl rfl (Nat.le_of_ble_eq_true rfl) w225571 g0 sh_42 (by decide) rfl (by decide) (s_221 w225571 g0 ⟨by omega, by omega⟩) (fun R225690 T225691 H225692 p225693 => ?_))
          obtain ⟨e225694, w225696, f225697, z225698, e225695, b225699⟩ := p225693
          subst e225694
          subst e225695
          have f225700 := f225572.tr f225697 rfl
          show wp _ _ 291 63 [(3, vI v225680), (1, vL v225681), (0, .ref r0)] [vL z225698] _ H225692 _
          have k225701 : wKI H225692 r0 = wKI H r0 := ((wKI_fr w225571 g0 f225697 rfl).trans (wKI_fr hW g0 ((wfr.rf (l := [(42, 0)])).put' e225570 g0 rfl) rfl))
          exact wp_lreturn e291 c291_63 rfl ⟨rfl, w225696, f225700, z225698, rfl, ⟨by omega, by omega⟩, by omega⟩
        · refine wp_of e291 c291_38 (rw_ldc2 (pc' := 41) (z := 40) rfl rfl rfl ?_)
          refine wp_of e291 c291_41 (rw_lload_n (pc' := 42) (z := v225681) rfl rfl ?_)
          refine wp_of e291 c291_42 (rw_lmulw (pc' := 43) rfl ?_)
          obtain ⟨v225702, e225703⟩ : ∃ x : Int, x = wl_w (40 * v225681) := ⟨_, rfl⟩
          rw [← e225703]
          have b225704 : -9223372036854775808 ≤ v225702 ∧ v225702 ≤ 9223372036854775807 := by
            rw [e225703]
            exact wL_w _
          refine wp_of e291 c291_43 (rw_aload_n (pc' := 44) (v := .ref r0) rfl rfl rfl ?_)
          refine wp_of e291 c291_44 (xg_R (pc' := 47) lf_9_36 w225571 g0 sh_42 (by decide) (by decide) ty_42_26 rfl rfl (fun r225705 q225706 g225707 => ?_))
          refine wp_of e291 c291_47 (rw_iload_n (pc' := 48) (z := v225680) rfl rfl ?_)
          refine wp_of e291 c291_48 (xa_I (so := 0) (pc' := 49) w225571 g225707 sh_50 (by decide) (ty_50 _) (by omega) (by omega) rfl (fun b225708 b225709 => ?_))
          refine wp_of e291 c291_49 (rw_i2l (pc' := 50) rfl ⟨by omega, by omega⟩ ?_)
          refine wp_of e291 c291_50 (rw_laddw (pc' := 51) rfl ?_)
          obtain ⟨v225710, e225711⟩ : ∃ x : Int, x = wl_w (v225702 + (H225569 r225705 (v225680.toNat))) := ⟨_, rfl⟩
          rw [← e225711]
          have b225712 : -9223372036854775808 ≤ v225710 ∧ v225710 ≤ 9223372036854775807 := by
            rw [e225711]
            exact wL_w _
          refine wp_of e291 c291_51 (rw_lstore_n (pc' := 52) (z := v225710) (L' := [(1, vL v225710), (3, vI v225680), (0, .ref r0)]) rfl rfl rfl ?_)
          refine wp_of e291 c291_52 (rw_iinc (pc' := 55) (z := v225680) (L' := [(3, vI (v225680 + 1)), (1, vL v225710), (0, .ref r0)]) rfl rfl rfl rfl ?_)
          refine wp_of e291 c291_55 (rw_goto (p1 := 27) (by decide) ?_)
          exact wp_lc (ks := [3, 1, 0]) (wl_c rfl (wl_c rfl (wl_c rfl wl_n))) rfl (by decide) (ih225679 _ (by omega) (v225680 + 1) v225710 ⟨by omega, by omega⟩ ⟨by omega, by omega⟩ rfl)
    exact wp_lc (ks := [3, 1, 0]) (wl_c rfl (wl_c rfl (wl_c rfl wl_n))) rfl (by decide) (lp225677 _ 0 (H225569 r0 32) ⟨by omega, by omega⟩ ⟨by omega, by omega⟩ rfl)
/-! StrikeAwakeModel.restore(J)Z -/
theorem e292 : wq_en 292 = some (9, 7, false, some FieldType.boolean) := rfl
theorem cg292_0 : mc_cd 292 0 = some (.aload_n 0, 1) ∧ mc_cd 292 1 = some (.iconst 0, 1) ∧ mc_cd 292 2 = some (.putfield 48, 3) ∧ mc_cd 292 5 = some (.aload_n 0, 1) ∧ mc_cd 292 6 = some (.getfield 337, 3) ∧ mc_cd 292 9 = some (.ifnonnull 9, 3) ∧ mc_cd 292 12 = some (.aload_n 0, 1) ∧ mc_cd 292 13 = some (.iconst 1, 1) := by decide +kernel
theorem c292_0 : mc_cd 292 0 = some (.aload_n 0, 1) := cg292_0.1
theorem c292_1 : mc_cd 292 1 = some (.iconst 0, 1) := cg292_0.2.1
theorem c292_2 : mc_cd 292 2 = some (.putfield 48, 3) := cg292_0.2.2.1
theorem c292_5 : mc_cd 292 5 = some (.aload_n 0, 1) := cg292_0.2.2.2.1
theorem c292_6 : mc_cd 292 6 = some (.getfield 337, 3) := cg292_0.2.2.2.2.1
theorem c292_9 : mc_cd 292 9 = some (.ifnonnull 9, 3) := cg292_0.2.2.2.2.2.1
theorem c292_12 : mc_cd 292 12 = some (.aload_n 0, 1) := cg292_0.2.2.2.2.2.2.1
theorem c292_13 : mc_cd 292 13 = some (.iconst 1, 1) := cg292_0.2.2.2.2.2.2.2
theorem cg292_14 : mc_cd 292 14 = some (.invokevirtual 400, 3) ∧ mc_cd 292 17 = some (.ireturn, 1) ∧ mc_cd 292 18 = some (.lload_n 1, 1) ∧ mc_cd 292 19 = some (.lstore_n 3, 1) ∧ mc_cd 292 20 = some (.lload_n 1, 1) ∧ mc_cd 292 21 = some (.lconst 0, 1) ∧ mc_cd 292 22 = some (.lcmp, 1) ∧ mc_cd 292 23 = some (.ifCond .lt 7, 3) := by decide +kernel
theorem c292_14 : mc_cd 292 14 = some (.invokevirtual 400, 3) := cg292_14.1
theorem c292_17 : mc_cd 292 17 = some (.ireturn, 1) := cg292_14.2.1
theorem c292_18 : mc_cd 292 18 = some (.lload_n 1, 1) := cg292_14.2.2.1
theorem c292_19 : mc_cd 292 19 = some (.lstore_n 3, 1) := cg292_14.2.2.2.1
theorem c292_20 : mc_cd 292 20 = some (.lload_n 1, 1) := cg292_14.2.2.2.2.1
theorem c292_21 : mc_cd 292 21 = some (.lconst 0, 1) := cg292_14.2.2.2.2.2.1
theorem c292_22 : mc_cd 292 22 = some (.lcmp, 1) := cg292_14.2.2.2.2.2.2.1
theorem c292_23 : mc_cd 292 23 = some (.ifCond .lt 7, 3) := cg292_14.2.2.2.2.2.2.2
theorem cg292_26 : mc_cd 292 26 = some (.iconst 1, 1) ∧ mc_cd 292 27 = some (.goto 4, 3) ∧ mc_cd 292 30 = some (.iconst 0, 1) ∧ mc_cd 292 31 = some (.istore 5, 2) ∧ mc_cd 292 33 = some (.aload_n 0, 1) ∧ mc_cd 292 34 = some (.getfield 337, 3) ∧ mc_cd 292 37 = some (.getfield 188, 3) ∧ mc_cd 292 40 = some (.iconst 1, 1) := by decide +kernel
theorem c292_26 : mc_cd 292 26 = some (.iconst 1, 1) := cg292_26.1
theorem c292_27 : mc_cd 292 27 = some (.goto 4, 3) := cg292_26.2.1
theorem c292_30 : mc_cd 292 30 = some (.iconst 0, 1) := cg292_26.2.2.1
theorem c292_31 : mc_cd 292 31 = some (.istore 5, 2) := cg292_26.2.2.2.1
theorem c292_33 : mc_cd 292 33 = some (.aload_n 0, 1) := cg292_26.2.2.2.2.1
theorem c292_34 : mc_cd 292 34 = some (.getfield 337, 3) := cg292_26.2.2.2.2.2.1
theorem c292_37 : mc_cd 292 37 = some (.getfield 188, 3) := cg292_26.2.2.2.2.2.2.1
theorem c292_40 : mc_cd 292 40 = some (.iconst 1, 1) := cg292_26.2.2.2.2.2.2.2
theorem cg292_41 : mc_cd 292 41 = some (.isub, 1) ∧ mc_cd 292 42 = some (.istore 6, 2) ∧ mc_cd 292 44 = some (.iload 6, 2) ∧ mc_cd 292 46 = some (.ifCond .lt 67, 3) ∧ mc_cd 292 49 = some (.iload 5, 2) ∧ mc_cd 292 51 = some (.ifCond .eq 62, 3) ∧ mc_cd 292 54 = some (.aload_n 0, 1) ∧ mc_cd 292 55 = some (.getfield 45, 3) := by decide +kernel
theorem c292_41 : mc_cd 292 41 = some (.isub, 1) := cg292_41.1
theorem c292_42 : mc_cd 292 42 = some (.istore 6, 2) := cg292_41.2.1
theorem c292_44 : mc_cd 292 44 = some (.iload 6, 2) := cg292_41.2.2.1
theorem c292_46 : mc_cd 292 46 = some (.ifCond .lt 67, 3) := cg292_41.2.2.2.1
theorem c292_49 : mc_cd 292 49 = some (.iload 5, 2) := cg292_41.2.2.2.2.1
theorem c292_51 : mc_cd 292 51 = some (.ifCond .eq 62, 3) := cg292_41.2.2.2.2.2.1
theorem c292_54 : mc_cd 292 54 = some (.aload_n 0, 1) := cg292_41.2.2.2.2.2.2.1
theorem c292_55 : mc_cd 292 55 = some (.getfield 45, 3) := cg292_41.2.2.2.2.2.2.2
theorem cg292_58 : mc_cd 292 58 = some (.iload 6, 2) ∧ mc_cd 292 60 = some (.lload_n 3, 1) ∧ mc_cd 292 61 = some (.ldc2_w 493, 3) ∧ mc_cd 292 64 = some (.lrem, 1) ∧ mc_cd 292 65 = some (.l2i, 1) ∧ mc_cd 292 66 = some (.iastore, 1) ∧ mc_cd 292 67 = some (.aload_n 0, 1) ∧ mc_cd 292 68 = some (.getfield 45, 3) := by decide +kernel
theorem c292_58 : mc_cd 292 58 = some (.iload 6, 2) := cg292_58.1
theorem c292_60 : mc_cd 292 60 = some (.lload_n 3, 1) := cg292_58.2.1
theorem c292_61 : mc_cd 292 61 = some (.ldc2_w 493, 3) := cg292_58.2.2.1
theorem c292_64 : mc_cd 292 64 = some (.lrem, 1) := cg292_58.2.2.2.1
theorem c292_65 : mc_cd 292 65 = some (.l2i, 1) := cg292_58.2.2.2.2.1
theorem c292_66 : mc_cd 292 66 = some (.iastore, 1) := cg292_58.2.2.2.2.2.1
theorem c292_67 : mc_cd 292 67 = some (.aload_n 0, 1) := cg292_58.2.2.2.2.2.2.1
theorem c292_68 : mc_cd 292 68 = some (.getfield 45, 3) := cg292_58.2.2.2.2.2.2.2
theorem cg292_71 : mc_cd 292 71 = some (.iload 6, 2) ∧ mc_cd 292 73 = some (.iaload, 1) ∧ mc_cd 292 74 = some (.ifCond .eq 20, 3) ∧ mc_cd 292 77 = some (.aload_n 0, 1) ∧ mc_cd 292 78 = some (.getfield 45, 3) ∧ mc_cd 292 81 = some (.iload 6, 2) ∧ mc_cd 292 83 = some (.iaload, 1) ∧ mc_cd 292 84 = some (.aload_n 0, 1) := by decide +kernel
theorem c292_71 : mc_cd 292 71 = some (.iload 6, 2) := cg292_71.1
theorem c292_73 : mc_cd 292 73 = some (.iaload, 1) := cg292_71.2.1
theorem c292_74 : mc_cd 292 74 = some (.ifCond .eq 20, 3) := cg292_71.2.2.1
theorem c292_77 : mc_cd 292 77 = some (.aload_n 0, 1) := cg292_71.2.2.2.1
theorem c292_78 : mc_cd 292 78 = some (.getfield 45, 3) := cg292_71.2.2.2.2.1
theorem c292_81 : mc_cd 292 81 = some (.iload 6, 2) := cg292_71.2.2.2.2.2.1
theorem c292_83 : mc_cd 292 83 = some (.iaload, 1) := cg292_71.2.2.2.2.2.2.1
theorem c292_84 : mc_cd 292 84 = some (.aload_n 0, 1) := cg292_71.2.2.2.2.2.2.2
theorem cg292_85 : mc_cd 292 85 = some (.getfield 21, 3) ∧ mc_cd 292 88 = some (.iload 6, 2) ∧ mc_cd 292 90 = some (.iaload, 1) ∧ mc_cd 292 91 = some (.if_icmp .ge 7, 3) ∧ mc_cd 292 94 = some (.iconst 1, 1) ∧ mc_cd 292 95 = some (.goto 4, 3) ∧ mc_cd 292 98 = some (.iconst 0, 1) ∧ mc_cd 292 99 = some (.istore 5, 2) := by decide +kernel
theorem c292_85 : mc_cd 292 85 = some (.getfield 21, 3) := cg292_85.1
theorem c292_88 : mc_cd 292 88 = some (.iload 6, 2) := cg292_85.2.1
theorem c292_90 : mc_cd 292 90 = some (.iaload, 1) := cg292_85.2.2.1
theorem c292_91 : mc_cd 292 91 = some (.if_icmp .ge 7, 3) := cg292_85.2.2.2.1
theorem c292_94 : mc_cd 292 94 = some (.iconst 1, 1) := cg292_85.2.2.2.2.1
theorem c292_95 : mc_cd 292 95 = some (.goto 4, 3) := cg292_85.2.2.2.2.2.1
theorem c292_98 : mc_cd 292 98 = some (.iconst 0, 1) := cg292_85.2.2.2.2.2.2.1
theorem c292_99 : mc_cd 292 99 = some (.istore 5, 2) := cg292_85.2.2.2.2.2.2.2
theorem cg292_101 : mc_cd 292 101 = some (.lload_n 3, 1) ∧ mc_cd 292 102 = some (.ldc2_w 493, 3) ∧ mc_cd 292 105 = some (.ldiv, 1) ∧ mc_cd 292 106 = some (.lstore_n 3, 1) ∧ mc_cd 292 107 = some (.iinc 6 (-1), 3) ∧ mc_cd 292 110 = some (.goto (-66), 3) ∧ mc_cd 292 113 = some (.iload 5, 2) ∧ mc_cd 292 115 = some (.ifCond .eq 11, 3) := by decide +kernel
theorem c292_101 : mc_cd 292 101 = some (.lload_n 3, 1) := cg292_101.1
theorem c292_102 : mc_cd 292 102 = some (.ldc2_w 493, 3) := cg292_101.2.1
theorem c292_105 : mc_cd 292 105 = some (.ldiv, 1) := cg292_101.2.2.1
theorem c292_106 : mc_cd 292 106 = some (.lstore_n 3, 1) := cg292_101.2.2.2.1
theorem c292_107 : mc_cd 292 107 = some (.iinc 6 (-1), 3) := cg292_101.2.2.2.2.1
theorem c292_110 : mc_cd 292 110 = some (.goto (-66), 3) := cg292_101.2.2.2.2.2.1
theorem c292_113 : mc_cd 292 113 = some (.iload 5, 2) := cg292_101.2.2.2.2.2.2.1
theorem c292_115 : mc_cd 292 115 = some (.ifCond .eq 11, 3) := cg292_101.2.2.2.2.2.2.2
theorem cg292_118 : mc_cd 292 118 = some (.lload_n 3, 1) ∧ mc_cd 292 119 = some (.ldc2_w 428, 3) ∧ mc_cd 292 122 = some (.lcmp, 1) ∧ mc_cd 292 123 = some (.ifCond .le 9, 3) ∧ mc_cd 292 126 = some (.aload_n 0, 1) ∧ mc_cd 292 127 = some (.iconst 2, 1) ∧ mc_cd 292 128 = some (.invokevirtual 400, 3) ∧ mc_cd 292 131 = some (.ireturn, 1) := by decide +kernel
theorem c292_118 : mc_cd 292 118 = some (.lload_n 3, 1) := cg292_118.1
theorem c292_119 : mc_cd 292 119 = some (.ldc2_w 428, 3) := cg292_118.2.1
theorem c292_122 : mc_cd 292 122 = some (.lcmp, 1) := cg292_118.2.2.1
theorem c292_123 : mc_cd 292 123 = some (.ifCond .le 9, 3) := cg292_118.2.2.2.1
theorem c292_126 : mc_cd 292 126 = some (.aload_n 0, 1) := cg292_118.2.2.2.2.1
theorem c292_127 : mc_cd 292 127 = some (.iconst 2, 1) := cg292_118.2.2.2.2.2.1
theorem c292_128 : mc_cd 292 128 = some (.invokevirtual 400, 3) := cg292_118.2.2.2.2.2.2.1
theorem c292_131 : mc_cd 292 131 = some (.ireturn, 1) := cg292_118.2.2.2.2.2.2.2
theorem cg292_132 : mc_cd 292 132 = some (.iconst 0, 1) ∧ mc_cd 292 133 = some (.istore 6, 2) ∧ mc_cd 292 135 = some (.iload 6, 2) ∧ mc_cd 292 137 = some (.aload_n 0, 1) ∧ mc_cd 292 138 = some (.getfield 337, 3) ∧ mc_cd 292 141 = some (.getfield 188, 3) ∧ mc_cd 292 144 = some (.if_icmp .ge 23, 3) ∧ mc_cd 292 147 = some (.aload_n 0, 1) := by decide +kernel
theorem c292_132 : mc_cd 292 132 = some (.iconst 0, 1) := cg292_132.1
theorem c292_133 : mc_cd 292 133 = some (.istore 6, 2) := cg292_132.2.1
theorem c292_135 : mc_cd 292 135 = some (.iload 6, 2) := cg292_132.2.2.1
theorem c292_137 : mc_cd 292 137 = some (.aload_n 0, 1) := cg292_132.2.2.2.1
theorem c292_138 : mc_cd 292 138 = some (.getfield 337, 3) := cg292_132.2.2.2.2.1
theorem c292_141 : mc_cd 292 141 = some (.getfield 188, 3) := cg292_132.2.2.2.2.2.1
theorem c292_144 : mc_cd 292 144 = some (.if_icmp .ge 23, 3) := cg292_132.2.2.2.2.2.2.1
theorem c292_147 : mc_cd 292 147 = some (.aload_n 0, 1) := cg292_132.2.2.2.2.2.2.2
theorem cg292_148 : mc_cd 292 148 = some (.getfield 36, 3) ∧ mc_cd 292 151 = some (.iload 6, 2) ∧ mc_cd 292 153 = some (.aload_n 0, 1) ∧ mc_cd 292 154 = some (.getfield 45, 3) ∧ mc_cd 292 157 = some (.iload 6, 2) ∧ mc_cd 292 159 = some (.iaload, 1) ∧ mc_cd 292 160 = some (.iastore, 1) ∧ mc_cd 292 161 = some (.iinc 6 1, 3) := by decide +kernel
theorem c292_148 : mc_cd 292 148 = some (.getfield 36, 3) := cg292_148.1
theorem c292_151 : mc_cd 292 151 = some (.iload 6, 2) := cg292_148.2.1
theorem c292_153 : mc_cd 292 153 = some (.aload_n 0, 1) := cg292_148.2.2.1
theorem c292_154 : mc_cd 292 154 = some (.getfield 45, 3) := cg292_148.2.2.2.1
theorem c292_157 : mc_cd 292 157 = some (.iload 6, 2) := cg292_148.2.2.2.2.1
theorem c292_159 : mc_cd 292 159 = some (.iaload, 1) := cg292_148.2.2.2.2.2.1
theorem c292_160 : mc_cd 292 160 = some (.iastore, 1) := cg292_148.2.2.2.2.2.2.1
theorem c292_161 : mc_cd 292 161 = some (.iinc 6 1, 3) := cg292_148.2.2.2.2.2.2.2
theorem cg292_164 : mc_cd 292 164 = some (.goto (-29), 3) ∧ mc_cd 292 167 = some (.aload_n 0, 1) ∧ mc_cd 292 168 = some (.lload_n 3, 1) ∧ mc_cd 292 169 = some (.l2i, 1) ∧ mc_cd 292 170 = some (.putfield 340, 3) ∧ mc_cd 292 173 = some (.aload_n 0, 1) ∧ mc_cd 292 174 = some (.invokevirtual 403, 3) ∧ mc_cd 292 177 = some (.ireturn, 1) := by decide +kernel
theorem c292_164 : mc_cd 292 164 = some (.goto (-29), 3) := cg292_164.1
theorem c292_167 : mc_cd 292 167 = some (.aload_n 0, 1) := cg292_164.2.1
theorem c292_168 : mc_cd 292 168 = some (.lload_n 3, 1) := cg292_164.2.2.1
theorem c292_169 : mc_cd 292 169 = some (.l2i, 1) := cg292_164.2.2.2.1
theorem c292_170 : mc_cd 292 170 = some (.putfield 340, 3) := cg292_164.2.2.2.2.1
theorem c292_173 : mc_cd 292 173 = some (.aload_n 0, 1) := cg292_164.2.2.2.2.2.1
theorem c292_174 : mc_cd 292 174 = some (.invokevirtual 403, 3) := cg292_164.2.2.2.2.2.2.1
theorem c292_177 : mc_cd 292 177 = some (.ireturn, 1) := cg292_164.2.2.2.2.2.2.2
/-! StrikeAwakeModel.led(I)I -/
theorem e293 : wq_en 293 = some (9, 4, false, some FieldType.int) := rfl
theorem cg293_0 : mc_cd 293 0 = some (.aload_n 0, 1) ∧ mc_cd 293 1 = some (.iconst 0, 1) ∧ mc_cd 293 2 = some (.putfield 48, 3) ∧ mc_cd 293 5 = some (.iconst 0, 1) ∧ mc_cd 293 6 = some (.istore_n 2, 1) ∧ mc_cd 293 7 = some (.iconst 0, 1) ∧ mc_cd 293 8 = some (.istore_n 3, 1) ∧ mc_cd 293 9 = some (.aload_n 0, 1) := by decide +kernel
theorem c293_0 : mc_cd 293 0 = some (.aload_n 0, 1) := cg293_0.1
theorem c293_1 : mc_cd 293 1 = some (.iconst 0, 1) := cg293_0.2.1
theorem c293_2 : mc_cd 293 2 = some (.putfield 48, 3) := cg293_0.2.2.1
theorem c293_5 : mc_cd 293 5 = some (.iconst 0, 1) := cg293_0.2.2.2.1
theorem c293_6 : mc_cd 293 6 = some (.istore_n 2, 1) := cg293_0.2.2.2.2.1
theorem c293_7 : mc_cd 293 7 = some (.iconst 0, 1) := cg293_0.2.2.2.2.2.1
theorem c293_8 : mc_cd 293 8 = some (.istore_n 3, 1) := cg293_0.2.2.2.2.2.2.1
theorem c293_9 : mc_cd 293 9 = some (.aload_n 0, 1) := cg293_0.2.2.2.2.2.2.2
theorem cg293_10 : mc_cd 293 10 = some (.getfield 337, 3) ∧ mc_cd 293 13 = some (.ifnull 45, 3) ∧ mc_cd 293 16 = some (.iload_n 3, 1) ∧ mc_cd 293 17 = some (.aload_n 0, 1) ∧ mc_cd 293 18 = some (.getfield 337, 3) ∧ mc_cd 293 21 = some (.getfield 188, 3) ∧ mc_cd 293 24 = some (.if_icmp .ge 34, 3) ∧ mc_cd 293 27 = some (.aload_n 0, 1) := by decide +kernel
theorem c293_10 : mc_cd 293 10 = some (.getfield 337, 3) := cg293_10.1
theorem c293_13 : mc_cd 293 13 = some (.ifnull 45, 3) := cg293_10.2.1
theorem c293_16 : mc_cd 293 16 = some (.iload_n 3, 1) := cg293_10.2.2.1
theorem c293_17 : mc_cd 293 17 = some (.aload_n 0, 1) := cg293_10.2.2.2.1
theorem c293_18 : mc_cd 293 18 = some (.getfield 337, 3) := cg293_10.2.2.2.2.1
theorem c293_21 : mc_cd 293 21 = some (.getfield 188, 3) := cg293_10.2.2.2.2.2.1
theorem c293_24 : mc_cd 293 24 = some (.if_icmp .ge 34, 3) := cg293_10.2.2.2.2.2.2.1
theorem c293_27 : mc_cd 293 27 = some (.aload_n 0, 1) := cg293_10.2.2.2.2.2.2.2
theorem cg293_28 : mc_cd 293 28 = some (.getfield 337, 3) ∧ mc_cd 293 31 = some (.getfield 267, 3) ∧ mc_cd 293 34 = some (.iload_n 3, 1) ∧ mc_cd 293 35 = some (.baload, 1) ∧ mc_cd 293 36 = some (.ifCond .ne 6, 3) ∧ mc_cd 293 39 = some (.goto 13, 3) ∧ mc_cd 293 42 = some (.iload_n 2, 1) ∧ mc_cd 293 43 = some (.iload_n 1, 1) := by decide +kernel
theorem c293_28 : mc_cd 293 28 = some (.getfield 337, 3) := cg293_28.1
theorem c293_31 : mc_cd 293 31 = some (.getfield 267, 3) := cg293_28.2.1
theorem c293_34 : mc_cd 293 34 = some (.iload_n 3, 1) := cg293_28.2.2.1
theorem c293_35 : mc_cd 293 35 = some (.baload, 1) := cg293_28.2.2.2.1
theorem c293_36 : mc_cd 293 36 = some (.ifCond .ne 6, 3) := cg293_28.2.2.2.2.1
theorem c293_39 : mc_cd 293 39 = some (.goto 13, 3) := cg293_28.2.2.2.2.2.1
theorem c293_42 : mc_cd 293 42 = some (.iload_n 2, 1) := cg293_28.2.2.2.2.2.2.1
theorem c293_43 : mc_cd 293 43 = some (.iload_n 1, 1) := cg293_28.2.2.2.2.2.2.2
theorem cg293_44 : mc_cd 293 44 = some (.if_icmp .ne 5, 3) ∧ mc_cd 293 47 = some (.iload_n 3, 1) ∧ mc_cd 293 48 = some (.ireturn, 1) ∧ mc_cd 293 49 = some (.iinc 2 1, 3) ∧ mc_cd 293 52 = some (.iinc 3 1, 3) ∧ mc_cd 293 55 = some (.goto (-46), 3) ∧ mc_cd 293 58 = some (.aload_n 0, 1) ∧ mc_cd 293 59 = some (.iconst 1, 1) := by decide +kernel
theorem c293_44 : mc_cd 293 44 = some (.if_icmp .ne 5, 3) := cg293_44.1
theorem c293_47 : mc_cd 293 47 = some (.iload_n 3, 1) := cg293_44.2.1
theorem c293_48 : mc_cd 293 48 = some (.ireturn, 1) := cg293_44.2.2.1
theorem c293_49 : mc_cd 293 49 = some (.iinc 2 1, 3) := cg293_44.2.2.2.1
theorem c293_52 : mc_cd 293 52 = some (.iinc 3 1, 3) := cg293_44.2.2.2.2.1
theorem c293_55 : mc_cd 293 55 = some (.goto (-46), 3) := cg293_44.2.2.2.2.2.1
theorem c293_58 : mc_cd 293 58 = some (.aload_n 0, 1) := cg293_44.2.2.2.2.2.2.1
theorem c293_59 : mc_cd 293 59 = some (.iconst 1, 1) := cg293_44.2.2.2.2.2.2.2
theorem cg293_60 : mc_cd 293 60 = some (.putfield 48, 3) ∧ mc_cd 293 63 = some (.iconst 0, 1) ∧ mc_cd 293 64 = some (.ireturn, 1) := by decide +kernel
theorem c293_60 : mc_cd 293 60 = some (.putfield 48, 3) := cg293_60.1
theorem c293_63 : mc_cd 293 63 = some (.iconst 0, 1) := cg293_60.2.1
theorem c293_64 : mc_cd 293 64 = some (.ireturn, 1) := cg293_60.2.2
abbrev q_293 (r0 : Nat) (a1 : Int) (T : wq_T) (H : wq_H) : Option Value → wq_T → wq_H → Prop := fun r T' H' => T = T' ∧ WT T H' ∧ wfr [(42, 0)] T H H' ∧ ∃ z : Int, some (vI z) = r ∧ ((-2147483648) ≤ z ∧ z ≤ 2147483647) ∧ (wKI H' r0 = 1)
set_option maxHeartbeats 4000000 in
theorem s_293 {kt : Nat → Option mc_E} {T : wq_T} {H : wq_H} {r0 : Nat} {a1 : Int} (hW : WT T H) (g0 : T.2.2.2 r0 = some 42) (i1 : (-2147483648) ≤ a1 ∧ a1 ≤ 2147483647) (p0 : wKI H r0 = 1) : wpc kt 1 293 [.ref r0, vI a1] T H (q_293 r0 a1 T H) := by
  refine wp_enter e293 (Nat.le_of_ble_eq_true rfl) rfl ?_
  have f0 : wfr [(42, 0)] T H H := wfr.rf
  show wp _ _ 293 0 [(0, .ref r0), (1, vI a1)] [] _ H _
  refine wp_of e293 c293_0 (rw_aload_n (pc' := 1) (v := .ref r0) rfl rfl rfl ?_)
  refine wp_of e293 c293_1 (rw_iconst (pc' := 2) rfl ?_)
  refine wp_of e293 c293_2 (xp_I (pc' := 5) lf_9_48 hW g0 sh_42 (by decide) (by decide) ty_42_0 rfl rfl (by omega) (by omega) ⟨by omega, by omega⟩ rfl (fun H226595 e226596 w226597 => ?_))
  have f226598 := f0.put' e226596 g0 rfl
  have k226599 : H226595 r0 0 = 0 := wq_u_s e226596
  refine wp_of e293 c293_5 (rw_iconst (pc' := 6) rfl ?_)
  refine wp_of e293 c293_6 (rw_istore_n (pc' := 7) (z := 0) (L' := [(2, vI 0), (0, .ref r0), (1, vI a1)]) rfl rfl rfl ?_)
  refine wp_of e293 c293_7 (rw_iconst (pc' := 8) rfl ?_)
  refine wp_of e293 c293_8 (rw_istore_n (pc' := 9) (z := 0) (L' := [(3, vI 0), (2, vI 0), (0, .ref r0), (1, vI a1)]) rfl rfl rfl ?_)
  have lp226691 : ∀ (n226692 : Nat) (v226694 : Int) (v226695 : Int), (0 ≤ v226694 ∧ v226694 ≤ 6) → (0 ≤ v226695 ∧ v226695 ≤ 6) → (v226695 ≤ v226694) → (6 - v226694).toNat = n226692 → wp kt 0 293 9 [(3, vI v226694), (2, vI v226695), (0, .ref r0), (1, vI a1)] [] T H226595 (q_293 r0 a1 T H) := by
    intro n226692
    induction n226692 using Nat.strongRecOn with
    | _ n226692 ih226693 =>
      intro v226694 v226695 b226698 b226699 x226700 m226701
      refine wp_of e293 c293_9 (rw_aload_n (pc' := 10) (v := .ref r0) rfl rfl rfl ?_)
      refine wp_of e293 c293_10 (xg_O (pc' := 13) lf_9_337 w226597 g0 sh_42 (by decide) (by decide) ty_42_3 rfl rfl (fun q226703 => ?_) (fun r226702 q226703 g226704 => ?_))
      · refine wp_of e293 c293_13 (rw_ifnull_n (p1 := 58) (p2 := 16) (by decide) rfl ?_)
        refine wp_of e293 c293_58 (rw_aload_n (pc' := 59) (v := .ref r0) rfl rfl rfl ?_)
        refine wp_of e293 c293_59 (rw_iconst (pc' := 60) rfl ?_)
        refine wp_of e293 c293_60 (xp_I (pc' := 63) lf_9_48 w226597 g0 sh_42 (by decide) (by decide) ty_42_0 rfl rfl (by omega) (by omega) ⟨by omega, by omega⟩ rfl (fun H226705 e226706 w226707 => ?_))
        have f226708 := f226598.put' e226706 g0 rfl
        have k226709 : H226705 r0 0 = 1 := wq_u_s e226706
        refine wp_of e293 c293_63 (rw_iconst (pc' := 64) rfl ?_)
        have k226710 : wKI H226705 r0 = wKI H r0 := ((wKI_fr w226597 g0 ((wfr.rf (l := [(42, 0)])).put' e226706 g0 rfl) rfl).trans (wKI_fr hW g0 ((wfr.rf (l := [(42, 0)])).put' e226596 g0 rfl) rfl))
        exact wp_ireturn e293 c293_64 rfl ⟨rfl, w226707, f226708, 0, rfl, ⟨by omega, by omega⟩, by omega⟩
      · refine wp_of e293 c293_13 (rw_ifnull_r (p1 := 58) (p2 := 16) (by decide) rfl ?_)
        refine wp_of e293 c293_16 (rw_iload_n (pc' := 17) (z := v226694) rfl rfl ?_)
        refine wp_of e293 c293_17 (rw_aload_n (pc' := 18) (v := .ref r0) rfl rfl rfl ?_)
        refine wp_of e293 c293_18 (xg_K (pc' := 21) lf_9_337 w226597 g0 sh_42 (by decide) (by decide) rfl q226703 rfl ?_)
        refine wp_of e293 c293_21 (xg_I (pc' := 24) lf_9_188 w226597 g226704 sh_54 (by decide) (by decide) ty_54_3 rfl rfl (fun b226711 b226712 => ?_))
        refine wp_of e293 c293_24 (rw_icmp_ge (p1 := 58) (p2 := 27) (by decide) rfl ⟨by omega, by omega⟩ ⟨by omega, by omega⟩ (fun c226713 => ?_) (fun c226713 => ?_))
        · refine wp_of e293 c293_58 (rw_aload_n (pc' := 59) (v := .ref r0) rfl rfl rfl ?_)
          refine wp_of e293 c293_59 (rw_iconst (pc' := 60) rfl ?_)
          refine wp_of e293 c293_60 (xp_I (pc' := 63) lf_9_48 w226597 g0 sh_42 (by decide) (by decide) ty_42_0 rfl rfl (by omega) (by omega) ⟨by omega, by omega⟩ rfl (fun H226714 e226715 w226716 => ?_))
          have f226717 := f226598.put' e226715 g0 rfl
          have k226718 : H226714 r0 0 = 1 := wq_u_s e226715
          refine wp_of e293 c293_63 (rw_iconst (pc' := 64) rfl ?_)
          have k226719 : wKI H226714 r0 = wKI H r0 := ((wKI_fr w226597 g0 ((wfr.rf (l := [(42, 0)])).put' e226715 g0 rfl) rfl).trans (wKI_fr hW g0 ((wfr.rf (l := [(42, 0)])).put' e226596 g0 rfl) rfl))
          exact wp_ireturn e293 c293_64 rfl ⟨rfl, w226716, f226717, 0, rfl, ⟨by omega, by omega⟩, by omega⟩
        · refine wp_of e293 c293_27 (rw_aload_n (pc' := 28) (v := .ref r0) rfl rfl rfl ?_)
          refine wp_of e293 c293_28 (xg_K (pc' := 31) lf_9_337 w226597 g0 sh_42 (by decide) (by decide) rfl q226703 rfl ?_)
          refine wp_of e293 c293_31 (xg_R (pc' := 34) lf_9_267 w226597 g226704 sh_54 (by decide) (by decide) ty_54_17 rfl rfl (fun r226720 q226721 g226722 => ?_))
          refine wp_of e293 c293_34 (rw_iload_n (pc' := 35) (z := v226694) rfl rfl ?_)
          refine wp_of e293 c293_35 (xa_B (by decide) (pc' := 36) w226597 g226722 sh_63 (by decide) (ty_63 _) (by omega) (by omega) rfl (fun b226723 b226724 => ?_))
          refine wp_of e293 c293_36 (rw_if_ne (p1 := 42) (p2 := 39) (by decide) rfl ⟨by omega, by omega⟩ (fun c226725 => ?_) (fun c226725 => ?_))
          · refine wp_of e293 c293_42 (rw_iload_n (pc' := 43) (z := v226695) rfl rfl ?_)
            refine wp_of e293 c293_43 (rw_iload_n (pc' := 44) (z := a1) rfl rfl ?_)
            refine wp_of e293 c293_44 (rw_icmp_ne (p1 := 49) (p2 := 47) (by decide) rfl ⟨by omega, by omega⟩ ⟨by omega, by omega⟩ (fun c226726 => ?_) (fun c226726 => ?_))
            · refine wp_of e293 c293_49 (rw_iinc (pc' := 52) (z := v226695) (L' := [(2, vI (v226695 + 1)), (3, vI v226694), (0, .ref r0), (1, vI a1)]) rfl rfl rfl rfl ?_)
              refine wp_of e293 c293_52 (rw_iinc (pc' := 55) (z := v226694) (L' := [(3, vI (v226694 + 1)), (2, vI (v226695 + 1)), (0, .ref r0), (1, vI a1)]) rfl rfl rfl rfl ?_)
              refine wp_of e293 c293_55 (rw_goto (p1 := 9) (by decide) ?_)
              exact wp_lc (ks := [3, 2, 0, 1]) (wl_c rfl (wl_c rfl (wl_c rfl (wl_c rfl wl_n)))) rfl (by decide) (ih226693 _ (by omega) (v226694 + 1) (v226695 + 1) ⟨by omega, by omega⟩ ⟨by omega, by omega⟩ (by omega) rfl)
            · refine wp_of e293 c293_47 (rw_iload_n (pc' := 48) (z := v226694) rfl rfl ?_)
              have k226727 : wKI H226595 r0 = wKI H r0 := (wKI_fr hW g0 ((wfr.rf (l := [(42, 0)])).put' e226596 g0 rfl) rfl)
              exact wp_ireturn e293 c293_48 rfl ⟨rfl, w226597, f226598, v226694, rfl, ⟨by omega, by omega⟩, by omega⟩
          · refine wp_of e293 c293_39 (rw_goto (p1 := 52) (by decide) ?_)
            refine wp_of e293 c293_52 (rw_iinc (pc' := 55) (z := v226694) (L' := [(3, vI (v226694 + 1)), (2, vI v226695), (0, .ref r0), (1, vI a1)]) rfl rfl rfl rfl ?_)
            refine wp_of e293 c293_55 (rw_goto (p1 := 9) (by decide) ?_)
            exact wp_lc (ks := [3, 2, 0, 1]) (wl_c rfl (wl_c rfl (wl_c rfl (wl_c rfl wl_n)))) rfl (by decide) (ih226693 _ (by omega) (v226694 + 1) v226695 ⟨by omega, by omega⟩ ⟨by omega, by omega⟩ (by omega) rfl)
  exact wp_lc (ks := [3, 2, 0, 1]) (wl_c rfl (wl_c rfl (wl_c rfl (wl_c rfl wl_n)))) rfl (by decide) (lp226691 _ 0 0 ⟨by omega, by omega⟩ ⟨by omega, by omega⟩ (by omega) rfl)
/-! StrikeAwakeModel.size(I)I -/
theorem e294 : wq_en 294 = some (9, 2, false, some FieldType.int) := rfl
theorem cg294_0 : mc_cd 294 0 = some (.aload_n 0, 1) ∧ mc_cd 294 1 = some (.iconst 0, 1) ∧ mc_cd 294 2 = some (.putfield 48, 3) ∧ mc_cd 294 5 = some (.iload_n 1, 1) ∧ mc_cd 294 6 = some (.bipush 9, 2) ∧ mc_cd 294 8 = some (.if_icmp .ne 8, 3) ∧ mc_cd 294 11 = some (.aload_n 0, 1) ∧ mc_cd 294 12 = some (.getfield 330, 3) := by decide +kernel
theorem c294_0 : mc_cd 294 0 = some (.aload_n 0, 1) := cg294_0.1
theorem c294_1 : mc_cd 294 1 = some (.iconst 0, 1) := cg294_0.2.1
theorem c294_2 : mc_cd 294 2 = some (.putfield 48, 3) := cg294_0.2.2.1
theorem c294_5 : mc_cd 294 5 = some (.iload_n 1, 1) := cg294_0.2.2.2.1
theorem c294_6 : mc_cd 294 6 = some (.bipush 9, 2) := cg294_0.2.2.2.2.1
theorem c294_8 : mc_cd 294 8 = some (.if_icmp .ne 8, 3) := cg294_0.2.2.2.2.2.1
theorem c294_11 : mc_cd 294 11 = some (.aload_n 0, 1) := cg294_0.2.2.2.2.2.2.1
theorem c294_12 : mc_cd 294 12 = some (.getfield 330, 3) := cg294_0.2.2.2.2.2.2.2
theorem cg294_15 : mc_cd 294 15 = some (.ireturn, 1) ∧ mc_cd 294 16 = some (.iload_n 1, 1) ∧ mc_cd 294 17 = some (.iconst 0, 1) ∧ mc_cd 294 18 = some (.bipush 8, 2) ∧ mc_cd 294 20 = some (.invokestatic 125, 3) ∧ mc_cd 294 23 = some (.ifCond .ne 5, 3) ∧ mc_cd 294 26 = some (.iconst (-1), 1) ∧ mc_cd 294 27 = some (.ireturn, 1) := by decide +kernel
theorem c294_15 : mc_cd 294 15 = some (.ireturn, 1) := cg294_15.1
theorem c294_16 : mc_cd 294 16 = some (.iload_n 1, 1) := cg294_15.2.1
theorem c294_17 : mc_cd 294 17 = some (.iconst 0, 1) := cg294_15.2.2.1
theorem c294_18 : mc_cd 294 18 = some (.bipush 8, 2) := cg294_15.2.2.2.1
theorem c294_20 : mc_cd 294 20 = some (.invokestatic 125, 3) := cg294_15.2.2.2.2.1
theorem c294_23 : mc_cd 294 23 = some (.ifCond .ne 5, 3) := cg294_15.2.2.2.2.2.1
theorem c294_26 : mc_cd 294 26 = some (.iconst (-1), 1) := cg294_15.2.2.2.2.2.2.1
theorem c294_27 : mc_cd 294 27 = some (.ireturn, 1) := cg294_15.2.2.2.2.2.2.2
theorem cg294_28 : mc_cd 294 28 = some (.aload_n 0, 1) ∧ mc_cd 294 29 = some (.getfield 337, 3) ∧ mc_cd 294 32 = some (.ifnonnull 5, 3) ∧ mc_cd 294 35 = some (.iconst 0, 1) ∧ mc_cd 294 36 = some (.ireturn, 1) ∧ mc_cd 294 37 = some (.iload_n 1, 1) ∧ mc_cd 294 38 = some (.tableswitch 126 0 7 #[46, 54, 62, 70, 78, 86, 94, 102], 46) ∧ mc_cd 294 84 = some (.aload_n 0, 1) := by decide +kernel
theorem c294_28 : mc_cd 294 28 = some (.aload_n 0, 1) := cg294_28.1
theorem c294_29 : mc_cd 294 29 = some (.getfield 337, 3) := cg294_28.2.1
theorem c294_32 : mc_cd 294 32 = some (.ifnonnull 5, 3) := cg294_28.2.2.1
theorem c294_35 : mc_cd 294 35 = some (.iconst 0, 1) := cg294_28.2.2.2.1
theorem c294_36 : mc_cd 294 36 = some (.ireturn, 1) := cg294_28.2.2.2.2.1
theorem c294_37 : mc_cd 294 37 = some (.iload_n 1, 1) := cg294_28.2.2.2.2.2.1
theorem c294_38 : mc_cd 294 38 = some (.tableswitch 126 0 7 #[46, 54, 62, 70, 78, 86, 94, 102], 46) := cg294_28.2.2.2.2.2.2.1
theorem c294_84 : mc_cd 294 84 = some (.aload_n 0, 1) := cg294_28.2.2.2.2.2.2.2
theorem cg294_85 : mc_cd 294 85 = some (.getfield 337, 3) ∧ mc_cd 294 88 = some (.getfield 188, 3) ∧ mc_cd 294 91 = some (.ireturn, 1) ∧ mc_cd 294 92 = some (.aload_n 0, 1) ∧ mc_cd 294 93 = some (.getfield 337, 3) ∧ mc_cd 294 96 = some (.getfield 276, 3) ∧ mc_cd 294 99 = some (.ireturn, 1) ∧ mc_cd 294 100 = some (.aload_n 0, 1) := by decide +kernel
theorem c294_85 : mc_cd 294 85 = some (.getfield 337, 3) := cg294_85.1
theorem c294_88 : mc_cd 294 88 = some (.getfield 188, 3) := cg294_85.2.1
theorem c294_91 : mc_cd 294 91 = some (.ireturn, 1) := cg294_85.2.2.1
theorem c294_92 : mc_cd 294 92 = some (.aload_n 0, 1) := cg294_85.2.2.2.1
theorem c294_93 : mc_cd 294 93 = some (.getfield 337, 3) := cg294_85.2.2.2.2.1
theorem c294_96 : mc_cd 294 96 = some (.getfield 276, 3) := cg294_85.2.2.2.2.2.1
theorem c294_99 : mc_cd 294 99 = some (.ireturn, 1) := cg294_85.2.2.2.2.2.2.1
theorem c294_100 : mc_cd 294 100 = some (.aload_n 0, 1) := cg294_85.2.2.2.2.2.2.2
theorem cg294_101 : mc_cd 294 101 = some (.getfield 337, 3) ∧ mc_cd 294 104 = some (.getfield 288, 3) ∧ mc_cd 294 107 = some (.ireturn, 1) ∧ mc_cd 294 108 = some (.aload_n 0, 1) ∧ mc_cd 294 109 = some (.invokevirtual 357, 3) ∧ mc_cd 294 112 = some (.invokestatic 462, 3) ∧ mc_cd 294 115 = some (.ireturn, 1) ∧ mc_cd 294 116 = some (.aload_n 0, 1) := by decide +kernel
theorem c294_101 : mc_cd 294 101 = some (.getfield 337, 3) := cg294_101.1
theorem c294_104 : mc_cd 294 104 = some (.getfield 288, 3) := cg294_101.2.1
theorem c294_107 : mc_cd 294 107 = some (.ireturn, 1) := cg294_101.2.2.1
theorem c294_108 : mc_cd 294 108 = some (.aload_n 0, 1) := cg294_101.2.2.2.1
theorem c294_109 : mc_cd 294 109 = some (.invokevirtual 357, 3) := cg294_101.2.2.2.2.1
theorem c294_112 : mc_cd 294 112 = some (.invokestatic 462, 3) := cg294_101.2.2.2.2.2.1
theorem c294_115 : mc_cd 294 115 = some (.ireturn, 1) := cg294_101.2.2.2.2.2.2.1
theorem c294_116 : mc_cd 294 116 = some (.aload_n 0, 1) := cg294_101.2.2.2.2.2.2.2
theorem cg294_117 : mc_cd 294 117 = some (.getfield 337, 3) ∧ mc_cd 294 120 = some (.getfield 306, 3) ∧ mc_cd 294 123 = some (.ireturn, 1) ∧ mc_cd 294 124 = some (.aload_n 0, 1) ∧ mc_cd 294 125 = some (.getfield 337, 3) ∧ mc_cd 294 128 = some (.getfield 321, 3) ∧ mc_cd 294 131 = some (.ireturn, 1) ∧ mc_cd 294 132 = some (.aload_n 0, 1) := by decide +kernel
theorem c294_117 : mc_cd 294 117 = some (.getfield 337, 3) := cg294_117.1
theorem c294_120 : mc_cd 294 120 = some (.getfield 306, 3) := cg294_117.2.1
theorem c294_123 : mc_cd 294 123 = some (.ireturn, 1) := cg294_117.2.2.1
theorem c294_124 : mc_cd 294 124 = some (.aload_n 0, 1) := cg294_117.2.2.2.1
theorem c294_125 : mc_cd 294 125 = some (.getfield 337, 3) := cg294_117.2.2.2.2.1
theorem c294_128 : mc_cd 294 128 = some (.getfield 321, 3) := cg294_117.2.2.2.2.2.1
theorem c294_131 : mc_cd 294 131 = some (.ireturn, 1) := cg294_117.2.2.2.2.2.2.1
theorem c294_132 : mc_cd 294 132 = some (.aload_n 0, 1) := cg294_117.2.2.2.2.2.2.2
theorem cg294_133 : mc_cd 294 133 = some (.getfield 337, 3) ∧ mc_cd 294 136 = some (.getfield 185, 3) ∧ mc_cd 294 139 = some (.ireturn, 1) ∧ mc_cd 294 140 = some (.aload_n 0, 1) ∧ mc_cd 294 141 = some (.getfield 337, 3) ∧ mc_cd 294 144 = some (.getfield 271, 3) ∧ mc_cd 294 147 = some (.iconst (-1), 1) ∧ mc_cd 294 148 = some (.if_icmp .ne 8, 3) := by decide +kernel
theorem c294_133 : mc_cd 294 133 = some (.getfield 337, 3) := cg294_133.1
theorem c294_136 : mc_cd 294 136 = some (.getfield 185, 3) := cg294_133.2.1
theorem c294_139 : mc_cd 294 139 = some (.ireturn, 1) := cg294_133.2.2.1
theorem c294_140 : mc_cd 294 140 = some (.aload_n 0, 1) := cg294_133.2.2.2.1
theorem c294_141 : mc_cd 294 141 = some (.getfield 337, 3) := cg294_133.2.2.2.2.1
theorem c294_144 : mc_cd 294 144 = some (.getfield 271, 3) := cg294_133.2.2.2.2.2.1
theorem c294_147 : mc_cd 294 147 = some (.iconst (-1), 1) := cg294_133.2.2.2.2.2.2.1
theorem c294_148 : mc_cd 294 148 = some (.if_icmp .ne 8, 3) := cg294_133.2.2.2.2.2.2.2
theorem cg294_151 : mc_cd 294 151 = some (.bipush (-2), 2) ∧ mc_cd 294 153 = some (.goto 10, 3) ∧ mc_cd 294 156 = some (.aload_n 0, 1) ∧ mc_cd 294 157 = some (.getfield 337, 3) ∧ mc_cd 294 160 = some (.getfield 271, 3) ∧ mc_cd 294 163 = some (.ireturn, 1) ∧ mc_cd 294 164 = some (.aload_n 0, 1) ∧ mc_cd 294 165 = some (.getfield 340, 3) := by decide +kernel
theorem c294_151 : mc_cd 294 151 = some (.bipush (-2), 2) := cg294_151.1
theorem c294_153 : mc_cd 294 153 = some (.goto 10, 3) := cg294_151.2.1
theorem c294_156 : mc_cd 294 156 = some (.aload_n 0, 1) := cg294_151.2.2.1
theorem c294_157 : mc_cd 294 157 = some (.getfield 337, 3) := cg294_151.2.2.2.1
theorem c294_160 : mc_cd 294 160 = some (.getfield 271, 3) := cg294_151.2.2.2.2.1
theorem c294_163 : mc_cd 294 163 = some (.ireturn, 1) := cg294_151.2.2.2.2.2.1
theorem c294_164 : mc_cd 294 164 = some (.aload_n 0, 1) := cg294_151.2.2.2.2.2.2.1
theorem c294_165 : mc_cd 294 165 = some (.getfield 340, 3) := cg294_151.2.2.2.2.2.2.2
theorem c294_168 : mc_cd 294 168 = some (.ireturn, 1) := by decide +kernel
abbrev q_294 (r0 : Nat) (a1 : Int) (T : wq_T) (H : wq_H) : Option Value → wq_T → wq_H → Prop := fun r T' H' => T = T' ∧ WT T H' ∧ wfr [(42, 0)] T H H' ∧ ∃ z : Int, some (vI z) = r ∧ ((-2147483648) ≤ z ∧ z ≤ 2147483647) ∧ (wKI H' r0 = 1)
set_option maxHeartbeats 4000000 in
theorem s_294 {kt : Nat → Option mc_E} {T : wq_T} {H : wq_H} {r0 : Nat} {a1 : Int} (hW : WT T H) (g0 : T.2.2.2 r0 = some 42) (i1 : (-2147483648) ≤ a1 ∧ a1 ≤ 2147483647) (p0 : wKI H r0 = 1) : wpc kt 2 294 [.ref r0, vI a1] T H (q_294 r0 a1 T H) := by
  refine wp_enter e294 (Nat.le_of_ble_eq_true rfl) rfl ?_
  have f0 : wfr [(42, 0)] T H H := wfr.rf
  show wp _ _ 294 0 [(0, .ref r0), (1, vI a1)] [] _ H _
  refine wp_of e294 c294_0 (rw_aload_n (pc' := 1) (v := .ref r0) rfl rfl rfl ?_)
  refine wp_of e294 c294_1 (rw_iconst (pc' := 2) rfl ?_)
  refine wp_of e294 c294_2 (xp_I (pc' := 5) lf_9_48 hW g0 sh_42 (by decide) (by decide) ty_42_0 rfl rfl (by omega) (by omega) ⟨by omega, by omega⟩ rfl (fun H226801 e226802 w226803 => ?_))
  have f226804 := f0.put' e226802 g0 rfl
  have k226805 : H226801 r0 0 = 0 := wq_u_s e226802
  refine wp_of e294 c294_5 (rw_iload_n (pc' := 6) (z := a1) rfl rfl ?_)
  refine wp_of e294 c294_6 (rw_bipush (pc' := 8) (z := 9) rfl (by decide) ?_)
  refine wp_of e294 c294_8 (rw_icmp_ne (p1 := 16) (p2 := 11) (by decide) rfl ⟨by omega, by omega⟩ ⟨by omega, by omega⟩ (fun c226806 => ?_) (fun c226806 => ?_))
  · refine wp_of e294 c294_16 (rw_iload_n (pc' := 17) (z := a1) rfl rfl ?_)
    refine wp_of e294 c294_17 (rw_iconst (pc' := 18) rfl ?_)
    refine wp_of e294 c294_18 (rw_bipush (pc' := 20) (z := 8) rfl (by decide) ?_)
    refine wp_of e294 c294_20 (xc_S (pc' := 23) (as := [vI a1, vI 0, vI 8]) (st := []) (lm_9_125) rfl rfl (Nat.le_of_ble_eq_true rfl) rfl (by decide) (s_186 w226803 ⟨by omega, by omega⟩ ⟨by omega, by omega⟩ ⟨by omega, by omega⟩) (fun R226807 T226808 H226809 p226810 => ?_))
    obtain ⟨e226811, e226813, z226815, e226812, b226816, p226814⟩ := p226810
    subst e226811
    subst e226812
    subst e226813
    show wp _ _ 294 23 [(0, .ref r0), (1, vI a1)] [vI z226815] _ H226801 _
    refine wp_of e294 c294_23 (rw_if_ne (p1 := 28) (p2 := 26) (by decide) rfl ⟨by omega, by omega⟩ (fun c226817 => ?_) (fun c226817 => ?_))
    · refine wp_of e294 c294_28 (rw_aload_n (pc' := 29) (v := .ref r0) rfl rfl rfl ?_)
      refine wp_of e294 c294_29 (xg_O (pc' := 32) lf_9_337 w226803 g0 sh_42 (by decide) (by decide) ty_42_3 rfl rfl (fun q226819 => ?_) (fun r226818 q226819 g226820 => ?_))
      · refine wp_of e294 c294_32 (rw_ifnonnull_n (p1 := 37) (p2 := 35) (by decide) rfl ?_)
        refine wp_of e294 c294_35 (rw_iconst (pc' := 36) rfl ?_)
        have k226821 : wKI H226801 r0 = wKI H r0 := (wKI_fr hW g0 ((wfr.rf (l := [(42, 0)])).put' e226802 g0 rfl) rfl)
        exact wp_ireturn e294 c294_36 rfl ⟨rfl, w226803, f226804, 0, rfl, ⟨by omega, by omega⟩, by omega⟩
      · refine wp_of e294 c294_32 (rw_ifnonnull_r (p1 := 37) (p2 := 35) (by decide) rfl ?_)
        refine wp_of e294 c294_37 (rw_iload_n (pc' := 38) (z := a1) rfl rfl ?_)
        have c226822 : a1 = 0 ∨ a1 = 1 ∨ a1 = 2 ∨ a1 = 3 ∨ a1 = 4 ∨ a1 = 5 ∨ a1 = 6 ∨ a1 = 7 ∨ (a1 < 0 ∨ 7 < a1) := by omega
        rcases c226822 with c226822 | c226822 | c226822 | c226822 | c226822 | c226822 | c226822 | c226822 | c226822
        · refine wp_of e294 c294_38 (rw_tsw (p1 := 84) ⟨by omega, by omega⟩ (by rw [c226822]; decide) ?_)
          refine wp_of e294 c294_84 (rw_aload_n (pc' := 85) (v := .ref r0) rfl rfl rfl ?_)
          refine wp_of e294 c294_85 (xg_K (pc' := 88) lf_9_337 w226803 g0 sh_42 (by decide) (by decide) rfl q226819 rfl ?_)
          refine wp_of e294 c294_88 (xg_I (pc' := 91) lf_9_188 w226803 g226820 sh_54 (by decide) (by decide) ty_54_3 rfl rfl (fun b226823 b226824 => ?_))
          have k226825 : wKI H226801 r0 = wKI H r0 := (wKI_fr hW g0 ((wfr.rf (l := [(42, 0)])).put' e226802 g0 rfl) rfl)
          exact wp_ireturn e294 c294_91 rfl ⟨rfl, w226803, f226804, H226801 r226818 3, rfl, ⟨by omega, by omega⟩, by omega⟩
        · refine wp_of e294 c294_38 (rw_tsw (p1 := 92) ⟨by omega, by omega⟩ (by rw [c226822]; decide) ?_)
          refine wp_of e294 c294_92 (rw_aload_n (pc' := 93) (v := .ref r0) rfl rfl rfl ?_)
          refine wp_of e294 c294_93 (xg_K (pc' := 96) lf_9_337 w226803 g0 sh_42 (by decide) (by decide) rfl q226819 rfl ?_)
          refine wp_of e294 c294_96 (xg_I (pc' := 99) lf_9_276 w226803 g226820 sh_54 (by decide) (by decide) ty_54_4 rfl rfl (fun b226826 b226827 => ?_))
          have k226828 : wKI H226801 r0 = wKI H r0 := (wKI_fr hW g0 ((wfr.rf (l := [(42, 0)])).put' e226802 g0 rfl) rfl)
          exact wp_ireturn e294 c294_99 rfl ⟨rfl, w226803, f226804, H226801 r226818 4, rfl, ⟨by omega, by omega⟩, by omega⟩
        · refine wp_of e294 c294_38 (rw_tsw (p1 := 100) ⟨by omega, by omega⟩ (by rw [c226822]; decide) ?_)
          refine wp_of e294 c294_100 (rw_aload_n (pc' := 101) (v := .ref r0) rfl rfl rfl ?_)
          refine wp_of e294 c294_101 (xg_K (pc' := 104) lf_9_337 w226803 g0 sh_42 (by decide) (by decide) rfl q226819 rfl ?_)
          refine wp_of e294 c294_104 (xg_I (pc' := 107) lf_9_288 w226803 g226820 sh_54 (by decide) (by decide) ty_54_5 rfl rfl (fun b226829 b226830 => ?_))
          have k226831 : wKI H226801 r0 = wKI H r0 := (wKI_fr hW g0 ((wfr.rf (l := [(42, 0)])).put' e226802 g0 rfl) rfl)
          exact wp_ireturn e294 c294_107 rfl ⟨rfl, w226803, f226804, H226801 r226818 5, rfl, ⟨by omega, by omega⟩, by omega⟩
        · refine wp_of e294 c294_38 (rw_tsw (p1 := 108) ⟨by omega, by omega⟩ (by rw [c226822]; decide) ?_)
          refine wp_of e294 c294_108 (rw_aload_n (pc' := 109) (v := .ref r0) rfl rfl rfl ?_)
          refine wp_of e294 c294_109 (xc_V (pc' := 112) (r := r0) (as := []) (st := []) (lm_9_357) rfl rfl (Nat.le_of_ble_eq_true rfl) w226803 g0 sh_42 (by decide) rfl (by decide) (s_207 w226803 g0) (fun R226832 T226833 H226834 p226835 => ?_))
          obtain ⟨e226836, e226838, z226839, e226837, b226840⟩ := p226835
          subst e226836
          subst e226837
          subst e226838
          show wp _ _ 294 112 [(0, .ref r0), (1, vI a1)] [vI z226839] _ H226801 _
          refine wp_of e294 c294_112 (xc_S (pc' := 115) (as := [vI z226839]) (st := []) (lm_9_462) rfl rfl (Nat.le_of_ble_eq_true rfl) rfl (by decide) (s_269 w226803 ⟨by omega, by omega⟩) (fun R226841 T226842 H226843 p226844 => ?_))
          obtain ⟨e226845, e226847, z226848, e226846, b226849⟩ := p226844
          subst e226845
          subst e226846
          subst e226847
          show wp _ _ 294 115 [(0, .ref r0), (1, vI a1)] [vI z226848] _ H226801 _
          have k226850 : wKI H226801 r0 = wKI H r0 := (wKI_fr hW g0 ((wfr.rf (l := [(42, 0)])).put' e226802 g0 rfl) rfl)
          exact wp_ireturn e294 c294_115 rfl ⟨rfl, w226803, f226804, z226848, rfl, ⟨by omega, by omega⟩, by omega⟩
        · refine wp_of e294 c294_38 (rw_tsw (p1 := 116) ⟨by omega, by omega⟩ (by rw [c226822]; decide) ?_)
          refine wp_of e294 c294_116 (rw_aload_n (pc' := 117) (v := .ref r0) rfl rfl rfl ?_)
          refine wp_of e294 c294_117 (xg_K (pc' := 120) lf_9_337 w226803 g0 sh_42 (by decide) (by decide) rfl q226819 rfl ?_)
          refine wp_of e294 c294_120 (xg_I (pc' := 123) lf_9_306 w226803 g226820 sh_54 (by decide) (by decide) ty_54_6 rfl rfl (fun b226851 b226852 => ?_))
          have k226853 : wKI H226801 r0 = wKI H r0 := (wKI_fr hW g0 ((wfr.rf (l := [(42, 0)])).put' e226802 g0 rfl) rfl)
          exact wp_ireturn e294 c294_123 rfl ⟨rfl, w226803, f226804, H226801 r226818 6, rfl, ⟨by omega, by omega⟩, by omega⟩
        · refine wp_of e294 c294_38 (rw_tsw (p1 := 124) ⟨by omega, by omega⟩ (by rw [c226822]; decide) ?_)
          refine wp_of e294 c294_124 (rw_aload_n (pc' := 125) (v := .ref r0) rfl rfl rfl ?_)
          refine wp_of e294 c294_125 (xg_K (pc' := 128) lf_9_337 w226803 g0 sh_42 (by decide) (by decide) rfl q226819 rfl ?_)
          refine wp_of e294 c294_128 (xg_I (pc' := 131) lf_9_321 w226803 g226820 sh_54 (by decide) (by decide) ty_54_7 rfl rfl (fun b226854 b226855 => ?_))
          have k226856 : wKI H226801 r0 = wKI H r0 := (wKI_fr hW g0 ((wfr.rf (l := [(42, 0)])).put' e226802 g0 rfl) rfl)
          exact wp_ireturn e294 c294_131 rfl ⟨rfl, w226803, f226804, H226801 r226818 7, rfl, ⟨by omega, by omega⟩, by omega⟩
        · refine wp_of e294 c294_38 (rw_tsw (p1 := 132) ⟨by omega, by omega⟩ (by rw [c226822]; decide) ?_)
          refine wp_of e294 c294_132 (rw_aload_n (pc' := 133) (v := .ref r0) rfl rfl rfl ?_)
          refine wp_of e294 c294_133 (xg_K (pc' := 136) lf_9_337 w226803 g0 sh_42 (by decide) (by decide) rfl q226819 rfl ?_)
          refine wp_of e294 c294_136 (xg_I (pc' := 139) lf_9_185 w226803 g226820 sh_54 (by decide) (by decide) ty_54_0 rfl rfl (fun b226857 b226858 => ?_))
          have k226859 : wKI H226801 r0 = wKI H r0 := (wKI_fr hW g0 ((wfr.rf (l := [(42, 0)])).put' e226802 g0 rfl) rfl)
          exact wp_ireturn e294 c294_139 rfl ⟨rfl, w226803, f226804, H226801 r226818 0, rfl, ⟨by omega, by omega⟩, by omega⟩
        · refine wp_of e294 c294_38 (rw_tsw (p1 := 140) ⟨by omega, by omega⟩ (by rw [c226822]; decide) ?_)
          refine wp_of e294 c294_140 (rw_aload_n (pc' := 141) (v := .ref r0) rfl rfl rfl ?_)
          refine wp_of e294 c294_141 (xg_K (pc' := 144) lf_9_337 w226803 g0 sh_42 (by decide) (by decide) rfl q226819 rfl ?_)
          refine wp_of e294 c294_144 (xg_I (pc' := 147) lf_9_271 w226803 g226820 sh_54 (by decide) (by decide) ty_54_8 rfl rfl (fun b226860 b226861 => ?_))
          refine wp_of e294 c294_147 (rw_iconst (pc' := 148) rfl ?_)
          refine wp_of e294 c294_148 (rw_icmp_ne (p1 := 156) (p2 := 151) (by decide) rfl ⟨by omega, by omega⟩ ⟨by omega, by omega⟩ (fun c226862 => ?_) (fun c226862 => ?_))
          · refine wp_of e294 c294_156 (rw_aload_n (pc' := 157) (v := .ref r0) rfl rfl rfl ?_)
            refine wp_of e294 c294_157 (xg_K (pc' := 160) lf_9_337 w226803 g0 sh_42 (by decide) (by decide) rfl q226819 rfl ?_)
            refine wp_of e294 c294_160 (xg_I (pc' := 163) lf_9_271 w226803 g226820 sh_54 (by decide) (by decide) ty_54_8 rfl rfl (fun b226863 b226864 => ?_))
            have k226865 : wKI H226801 r0 = wKI H r0 := (wKI_fr hW g0 ((wfr.rf (l := [(42, 0)])).put' e226802 g0 rfl) rfl)
            exact wp_ireturn e294 c294_163 rfl ⟨rfl, w226803, f226804, H226801 r226818 8, rfl, ⟨by omega, by omega⟩, by omega⟩
          · refine wp_of e294 c294_151 (rw_bipush (pc' := 153) (z := -2) rfl (by decide) ?_)
            refine wp_of e294 c294_153 (rw_goto (p1 := 163) (by decide) ?_)
            have k226866 : wKI H226801 r0 = wKI H r0 := (wKI_fr hW g0 ((wfr.rf (l := [(42, 0)])).put' e226802 g0 rfl) rfl)
            exact wp_ireturn e294 c294_163 rfl ⟨rfl, w226803, f226804, -2, rfl, ⟨by omega, by omega⟩, by omega⟩
        · refine wp_of e294 c294_38 (rw_tsw (p1 := 164) ⟨by omega, by omega⟩ (by rw [if_pos c226822]; decide) ?_)
          refine wp_of e294 c294_164 (rw_aload_n (pc' := 165) (v := .ref r0) rfl rfl rfl ?_)
          refine wp_of e294 c294_165 (xg_I (pc' := 168) lf_9_340 w226803 g0 sh_42 (by decide) (by decide) ty_42_32 rfl rfl (fun b226867 b226868 => ?_))
          have k226869 : wKI H226801 r0 = wKI H r0 := (wKI_fr hW g0 ((wfr.rf (l := [(42, 0)])).put' e226802 g0 rfl) rfl)
          exact wp_ireturn e294 c294_168 rfl ⟨rfl, w226803, f226804, H226801 r0 32, rfl, ⟨by omega, by omega⟩, by omega⟩
    · refine wp_of e294 c294_26 (rw_iconst (pc' := 27) rfl ?_)
      have k226870 : wKI H226801 r0 = wKI H r0 := (wKI_fr hW g0 ((wfr.rf (l := [(42, 0)])).put' e226802 g0 rfl) rfl)
      exact wp_ireturn e294 c294_27 rfl ⟨rfl, w226803, f226804, -1, rfl, ⟨by omega, by omega⟩, by omega⟩
  · refine wp_of e294 c294_11 (rw_aload_n (pc' := 12) (v := .ref r0) rfl rfl rfl ?_)
    refine wp_of e294 c294_12 (xg_I (pc' := 15) lf_9_330 w226803 g0 sh_42 (by decide) (by decide) ty_42_6 rfl rfl (fun b226871 b226872 => ?_))
    have k226873 : wKI H226801 r0 = wKI H r0 := (wKI_fr hW g0 ((wfr.rf (l := [(42, 0)])).put' e226802 g0 rfl) rfl)
    exact wp_ireturn e294 c294_15 rfl ⟨rfl, w226803, f226804, H226801 r0 6, rfl, ⟨by omega, by omega⟩, by omega⟩
end
section
/-! methods of the reference (own work, written by wip/gen2/sx.py) -/
/-! StrikeAwakeModel.trouble()I -/
theorem e295 : wq_en 295 = some (9, 1, false, some FieldType.int) := rfl
theorem cg295_0 : mc_cd 295 0 = some (.aload_n 0, 1) ∧ mc_cd 295 1 = some (.iconst 0, 1) ∧ mc_cd 295 2 = some (.putfield 48, 3) ∧ mc_cd 295 5 = some (.aload_n 0, 1) ∧ mc_cd 295 6 = some (.getfield 51, 3) ∧ mc_cd 295 9 = some (.ireturn, 1) := by decide +kernel
theorem c295_0 : mc_cd 295 0 = some (.aload_n 0, 1) := cg295_0.1
theorem c295_1 : mc_cd 295 1 = some (.iconst 0, 1) := cg295_0.2.1
theorem c295_2 : mc_cd 295 2 = some (.putfield 48, 3) := cg295_0.2.2.1
theorem c295_5 : mc_cd 295 5 = some (.aload_n 0, 1) := cg295_0.2.2.2.1
theorem c295_6 : mc_cd 295 6 = some (.getfield 51, 3) := cg295_0.2.2.2.2.1
theorem c295_9 : mc_cd 295 9 = some (.ireturn, 1) := cg295_0.2.2.2.2.2
abbrev q_295 (r0 : Nat) (T : wq_T) (H : wq_H) : Option Value → wq_T → wq_H → Prop := fun r T' H' => T = T' ∧ WT T H' ∧ wfr [(42, 0)] T H H' ∧ ∃ z : Int, some (vI z) = r ∧ ((-2147483648) ≤ z ∧ z ≤ 2147483647) ∧ (wKI H' r0 = 1)
set_option maxHeartbeats 4000000 in
theorem s_295 {kt : Nat → Option mc_E} {T : wq_T} {H : wq_H} {r0 : Nat} (hW : WT T H) (g0 : T.2.2.2 r0 = some 42) (p0 : wKI H r0 = 1) : wpc kt 1 295 [.ref r0] T H (q_295 r0 T H) := by
  refine wp_enter e295 (Nat.le_of_ble_eq_true rfl) rfl ?_
  have f0 : wfr [(42, 0)] T H H := wfr.rf
  show wp _ _ 295 0 [(0, .ref r0)] [] _ H _
  refine wp_of e295 c295_0 (rw_aload_n (pc' := 1) (v := .ref r0) rfl rfl rfl ?_)
  refine wp_of e295 c295_1 (rw_iconst (pc' := 2) rfl ?_)
  refine wp_of e295 c295_2 (xp_I (pc' := 5) lf_9_48 hW g0 sh_42 (by decide) (by decide) ty_42_0 rfl rfl (by omega) (by omega) ⟨by omega, by omega⟩ rfl (fun H226882 e226883 w226884 => ?_))
  have f226885 := f0.put' e226883 g0 rfl
  have k226886 : H226882 r0 0 = 0 := wq_u_s e226883
  refine wp_of e295 c295_5 (rw_aload_n (pc' := 6) (v := .ref r0) rfl rfl rfl ?_)
  refine wp_of e295 c295_6 (xg_I (pc' := 9) lf_9_51 w226884 g0 sh_42 (by decide) (by decide) ty_42_1 rfl rfl (fun b226887 b226888 => ?_))
  have k226889 : wKI H226882 r0 = wKI H r0 := (wKI_fr hW g0 ((wfr.rf (l := [(42, 0)])).put' e226883 g0 rfl) rfl)
  exact wp_ireturn e295 c295_9 rfl ⟨rfl, w226884, f226885, H226882 r0 1, rfl, ⟨by omega, by omega⟩, by omega⟩
end
section
/-! NEW CELLS: rows of new and newarray over pure memory; a PARISH of the reference that is made (own work) -/
def wq_gT (T : wq_T) (s : Nat × Nat) (n : Nat) : wq_T := ((fun a => if a = 256 + T.2.1 then some s else T.1 a), T.2.1 + 1, T.2.2.1 + n, T.2.2.2)
def wq_gH (H : wq_H) (a : Nat) (g : Nat → Int) : wq_H := fun b => if b = a then g else H b
theorem wq_gH_eq {H : wq_H} {a : Nat} {g : Nat → Int} : wq_gH H a g a = g := if_pos rfl
theorem wq_gH_ne {H : wq_H} {a b : Nat} {g : Nat → Int} (h : b ≠ a) : wq_gH H a g b = H b := if_neg h
theorem wq_R.fresh {kt : Nat → Option mc_E} {M : mc_M} {T : wq_T} {H : wq_H} (h : wq_R kt M T H) (a : Nat) (ha : 256 + T.2.1 ≤ a) : T.1 a = none := by
  refine h.2.2.2 a ?_
  have h1 := h.1
  rw [mc_ce_hi (by omega), List.getElem?_eq_none_iff]
  omega
theorem wq_R.grow {kt : Nat → Option mc_E} {M : mc_M} {T : wq_T} {H : wq_H} (h : wq_R kt M T H) {e : mc_E} {s : Nat × Nat} {g : Nat → Int} (hc : wq_c (some s) g e) : wq_R kt (M ++ [e]) (wq_gT T s (mc_es e)) (wq_gH H (256 + T.2.1) g) := by
  have h1 := h.1
  refine ⟨by show T.2.1 + 1 = _; rw [List.length_append, h1]; rfl, by show T.2.2.1 + _ = _; rw [mc_sz_app, mc_sz_one, h.2.1], fun a e' hb => ?_, fun b hb => ?_⟩
  · by_cases hba : a = 256 + T.2.1
    · subst hba
      rw [mc_ce_hi (by omega), h1, show 256 + M.length - 256 = M.length by omega, List.getElem?_append_right (Nat.le_refl _), Nat.sub_self] at hb
      cases hb
      rw [wq_gH_eq]
      show wq_c (if 256 + T.2.1 = 256 + T.2.1 then some s else _) g e
      rw [if_pos rfl]
      exact hc
    · rw [wq_gH_ne hba]
      show wq_c (if a = 256 + T.2.1 then some s else T.1 a) (H a) e'
      rw [if_neg hba]
      refine h.2.2.1 a e' ?_
      by_cases hb0 : a < 256
      · rw [mc_ce_lo hb0] at hb ⊢
        exact hb
      · rw [mc_ce_hi (by omega)] at hb ⊢
        by_cases hl : a - 256 < M.length
        · rw [List.getElem?_append_left hl] at hb
          exact hb
        · rw [List.getElem?_eq_none (by rw [List.length_append]; show M.length + 1 ≤ _; omega)] at hb
          cases hb
  · have hba : b ≠ 256 + T.2.1 := fun q => by
      subst q
      rw [mc_ce_hi (by omega), h1, show 256 + M.length - 256 = M.length by omega, List.getElem?_append_right (Nat.le_refl _), Nat.sub_self] at hb
      cases hb
    show (if b = 256 + T.2.1 then some s else T.1 b) = none
    rw [if_neg hba]
    refine h.2.2.2 b ?_
    by_cases hb0 : b < 256
    · rw [mc_ce_lo hb0] at hb ⊢
      exact hb
    · rw [mc_ce_hi (by omega)] at hb ⊢
      rw [List.getElem?_eq_none_iff] at hb ⊢
      rw [List.length_append] at hb
      omega
def wq_d (c j : Nat) : Int := if wq_fk c j = 2 then -1 else 0
theorem wq_d10 {j : Nat} (hj : j < 27) : defaultValue (mc_t 10 j) = wq_v (wq_fk 10 j) (wq_d 10 j) ∧ wq_in (wq_fk 10 j) (wq_d 10 j) := by
  match j, hj with
  | 0, _ => exact ⟨rfl, ⟨by decide, by decide⟩⟩
  | 1, _ => exact ⟨rfl, ⟨by decide, by decide⟩⟩
  | 2, _ => exact ⟨rfl, ⟨by decide, by decide⟩⟩
  | 3, _ => exact ⟨rfl, ⟨by decide, by decide⟩⟩
  | 4, _ => exact ⟨rfl, ⟨by decide, by decide⟩⟩
  | 5, _ => exact ⟨rfl, ⟨by decide, by decide⟩⟩
  | 6, _ => exact ⟨rfl, ⟨by decide, by decide⟩⟩
  | 7, _ => exact ⟨rfl, ⟨by decide, by decide⟩⟩
  | 8, _ => exact ⟨rfl, ⟨by decide, by decide⟩⟩
  | 9, _ => exact ⟨rfl, trivial⟩
  | 10, _ => exact ⟨rfl, trivial⟩
  | 11, _ => exact ⟨rfl, trivial⟩
  | 12, _ => exact ⟨rfl, trivial⟩
  | 13, _ => exact ⟨rfl, trivial⟩
  | 14, _ => exact ⟨rfl, trivial⟩
  | 15, _ => exact ⟨rfl, trivial⟩
  | 16, _ => exact ⟨rfl, trivial⟩
  | 17, _ => exact ⟨rfl, trivial⟩
  | 18, _ => exact ⟨rfl, trivial⟩
  | 19, _ => exact ⟨rfl, trivial⟩
  | 20, _ => exact ⟨rfl, trivial⟩
  | 21, _ => exact ⟨rfl, trivial⟩
  | 22, _ => exact ⟨rfl, trivial⟩
  | 23, _ => exact ⟨rfl, trivial⟩
  | 24, _ => exact ⟨rfl, trivial⟩
  | 25, _ => exact ⟨rfl, trivial⟩
  | 26, _ => exact ⟨rfl, trivial⟩
  | j + 27, h => omega
theorem wq_dty : ∀ t, t < 4 → defaultValue (mc_ty t) = wq_v (wq_ak t) 0 ∧ wq_in (wq_ak t) 0
  | 0, _ => ⟨rfl, ⟨by decide, by decide⟩⟩
  | 1, _ => ⟨rfl, ⟨by decide, by decide⟩⟩
  | 2, _ => ⟨rfl, ⟨by decide, by decide⟩⟩
  | 3, _ => ⟨rfl, ⟨by decide, by decide⟩⟩
  | t + 4, h => by omega
section NEW

variable {kt : Nat → Option mc_E} {d : Nat} {E : wq_E} {pc pc' : Nat} {L : List (Nat × Value)} {st : List Value} {T : wq_T} {H : wq_H} {K : Nat → List (Nat × Value) → List Value → wq_T → wq_H → Prop}
theorem rw_newa {t : ArrayType} {tt n : Nat} {z : Int} (ht : mc_tag t = some tt) (ht4 : tt < 4) (h0 : 0 ≤ z) (h1 : z ≤ 100000) (hn : z.toNat = n) (hp : pc + 2 = pc') (h : K pc' L (.ref (256 + T.2.1) :: st) (wq_gT T (tt, n) n) (wq_gH H (256 + T.2.1) (fun _ => 0))) : wq_s kt d E (.newarray t) 2 pc L (vI z :: st) T H K := fun M hM => by
  have hw : wI z := ⟨by omega, by omega⟩
  have e : (Int32.ofInt z).toNatClampNeg = n := by
    show (Int32.ofInt z).toInt.toNat = n
    rw [wI_t hw, hn]
  have e0 : ¬ Int32.ofInt z < 0 := fun q => by
    have := (wq_lt hw (y := 0) ⟨by omega, by omega⟩).mp q
    omega
  subst hp
  obtain ⟨d1, d2⟩ := wq_dty tt ht4
  refine ⟨0, pc + 2, L, .ref (256 + T.2.1) :: st, M ++ [.inl (tt, n, fun _ => defaultValue (mc_ty tt))], _, _, ?_, hM.grow (e := .inl (tt, n, fun _ => defaultValue (mc_ty tt))) (s := (tt, n)) (g := fun _ => 0) ⟨by omega, rfl, fun j hj => ⟨d1, d2⟩⟩, h⟩
  show mc_n (2 == 2) (mc_newa t pc L (.int (Int32.ofInt z) :: st) M) = _
  unfold mc_newa
  dsimp only
  rw [ht]
  dsimp only
  rw [e, decide_eq_true e0, decide_eq_true (by omega : n ≤ 100000), hM.1]
  rfl
theorem rw_new10 {idx : Nat} {e : Nat × Nat × Nat} (he : mc_find (mc_kl.getD E.1 []) idx = some e) (h10 : e.1 = 10) (hp : pc + 3 = pc') (h : (∀ a, 256 + T.2.1 ≤ a → T.1 a = none) → K pc' L (.ref (256 + T.2.1) :: st) (wq_gT T (110, 27) 27) (wq_gH H (256 + T.2.1) (wq_d 10))) : wq_s kt d E (.new idx) 3 pc L st T H K := fun M hM => by
  subst hp
  have hlen : ((List.range (mc_N.getD 10 0)).map (fun k => defaultValue (mc_t 10 k))).length = 27 := by rw [List.length_map, List.length_range]; rfl
  have hg := hM.grow (e := .inr (10, (List.range (mc_N.getD 10 0)).map (fun k => defaultValue (mc_t 10 k)))) (s := (110, 27)) (g := wq_d 10) ⟨by rw [hlen], fun j v hv => by
    have hj : j < 27 := by
      have := (List.getElem?_eq_some_iff.mp hv).1
      rw [hlen] at this
      exact this
    rw [List.getElem?_map, List.getElem?_range (by exact hj)] at hv
    cases hv
    exact wq_d10 hj⟩
  have hs : mc_es (.inr (10, (List.range (mc_N.getD 10 0)).map (fun k => defaultValue (mc_t 10 k))) : mc_E) = 27 := hlen
  rw [hs] at hg
  refine ⟨0, pc + 3, L, .ref (256 + T.2.1) :: st, M ++ [.inr (10, (List.range (mc_N.getD 10 0)).map (fun k => defaultValue (mc_t 10 k)))], _, _, ?_, hg, h hM.fresh⟩
  show mc_n (3 == 3) (mc_new E.1 idx pc L st M) = _
  unfold mc_new
  rw [he]
  dsimp only
  rw [h10, hM.1]
  rfl
theorem rw_obj {idx : Nat} {e : Nat × Nat} {a : Nat} (hm : mc_find (mc_ml.getD E.1 []) idx = none) (he : mc_find (mc_ol.getD E.1 []) idx = some e) (hcat : ((st.map Value.category).sum ≤ 8)) (hp : pc + 3 = pc') (h : K pc' L st T H) : wq_s kt d E (.invokespecial idx) 3 pc L (.ref a :: st) T H K := by
  subst hp
  refine wq_go (fun M => ?_) h
  show mc_n (3 == 3) (mc_or (mc_cal (mc_call kt 0 d) E.1 2 idx pc L (.ref a :: st) M) (mc_obj E.1 idx pc L (.ref a :: st) M)) = _
  refine wq_or2 hm ?_
  unfold mc_obj
  dsimp only
  rw [he]
  dsimp only
  rw [decide_eq_true hcat]
  rfl
end NEW
/-- tags are our own: a method's run knows nothing of them -/
theorem wp.ghost {kt : Nat → Option mc_E} {d k pc : Nat} {L : List (Nat × Value)} {st : List Value} {T : wq_T} {H : wq_H} {Q : Option Value → wq_T → wq_H → Prop} (g : Nat → Option Nat) (h : wp kt d k pc L st (T.1, T.2.1, T.2.2.1, g) H Q) : wp kt d k pc L st T H Q := fun M hM => h M hM
/-- how far the making of a PARISH is -/
def wNP (T0 : wq_T) (H0 : wq_H) (T : wq_T) (H : wq_H) (i : Nat) : Prop := (T.2.1 = T0.2.1 + 1 + i) ∧ (T.2.2.1 ≤ T0.2.2.1 + 27 + 24 * i) ∧ (T.2.2.2 = T0.2.2.2) ∧ (∀ a, a < 256 + T0.2.1 → T.1 a = T0.1 a ∧ H a = H0 a) ∧ (T.1 (256 + T0.2.1) = some (110, 27)) ∧ (∀ j, j < 8 → H (256 + T0.2.1) j = 0) ∧ (∀ k, k < i → H (256 + T0.2.1) (9 + k) = ((257 + T0.2.1 + k : Nat) : Int)) ∧ (∀ k, k < i → T.1 (257 + T0.2.1 + k) = some (wsh (55 + k)) ∧ ∀ j, H (257 + T0.2.1 + k) j = 0)
theorem wNP.n {T0 : wq_T} {H0 : wq_H} {T : wq_T} {H : wq_H} {i : Nat} (h : wNP T0 H0 T H i) : T.2.1 = T0.2.1 + 1 + i := h.1
theorem wNP.z {T0 : wq_T} {H0 : wq_H} {T : wq_T} {H : wq_H} {i : Nat} (h : wNP T0 H0 T H i) : T.2.2.1 ≤ T0.2.2.1 + 27 + 24 * i := h.2.1
theorem wNP.g {T0 : wq_T} {H0 : wq_H} {T : wq_T} {H : wq_H} {i : Nat} (h : wNP T0 H0 T H i) : T.2.2.2 = T0.2.2.2 := h.2.2.1
theorem wNP.old {T0 : wq_T} {H0 : wq_H} {T : wq_T} {H : wq_H} {i : Nat} (h : wNP T0 H0 T H i) : ∀ a, a < 256 + T0.2.1 → T.1 a = T0.1 a ∧ H a = H0 a := h.2.2.2.1
theorem wNP.ob {T0 : wq_T} {H0 : wq_H} {T : wq_T} {H : wq_H} {i : Nat} (h : wNP T0 H0 T H i) : T.1 (256 + T0.2.1) = some (110, 27) := h.2.2.2.2.1
theorem wNP.f0 {T0 : wq_T} {H0 : wq_H} {T : wq_T} {H : wq_H} {i : Nat} (h : wNP T0 H0 T H i) : ∀ j, j < 8 → H (256 + T0.2.1) j = 0 := h.2.2.2.2.2.1
theorem wNP.fr {T0 : wq_T} {H0 : wq_H} {T : wq_T} {H : wq_H} {i : Nat} (h : wNP T0 H0 T H i) : ∀ k, k < i → H (256 + T0.2.1) (9 + k) = ((257 + T0.2.1 + k : Nat) : Int) := h.2.2.2.2.2.2.1
theorem wNP.ar {T0 : wq_T} {H0 : wq_H} {T : wq_T} {H : wq_H} {i : Nat} (h : wNP T0 H0 T H i) : ∀ k, k < i → T.1 (257 + T0.2.1 + k) = some (wsh (55 + k)) ∧ ∀ j, H (257 + T0.2.1 + k) j = 0 := h.2.2.2.2.2.2.2
theorem wNP.mk {T0 : wq_T} {H0 : wq_H} {T : wq_T} {H : wq_H} {i : Nat} (n : T.2.1 = T0.2.1 + 1 + i) (z : T.2.2.1 ≤ T0.2.2.1 + 27 + 24 * i) (g : T.2.2.2 = T0.2.2.2) (old : ∀ a, a < 256 + T0.2.1 → T.1 a = T0.1 a ∧ H a = H0 a) (ob : T.1 (256 + T0.2.1) = some (110, 27)) (f0 : ∀ j, j < 8 → H (256 + T0.2.1) j = 0) (fr : ∀ k, k < i → H (256 + T0.2.1) (9 + k) = ((257 + T0.2.1 + k : Nat) : Int)) (ar : ∀ k, k < i → T.1 (257 + T0.2.1 + k) = some (wsh (55 + k)) ∧ ∀ j, H (257 + T0.2.1 + k) j = 0) : wNP T0 H0 T H i := ⟨n, z, g, old, ob, f0, fr, ar⟩
theorem wNP.zero {T0 : wq_T} {H0 : wq_H} : wNP T0 H0 (wq_gT T0 (110, 27) 27) (wq_gH H0 (256 + T0.2.1) (wq_d 10)) 0 := wNP.mk
  (n := rfl)
  (z := Nat.le_refl _)
  (g := rfl)
  (old := fun a ha => ⟨if_neg (by omega), wq_gH_ne (by omega)⟩)
  (ob := if_pos rfl)
  (f0 := fun j hj => by
    rw [wq_gH_eq]
    match j, hj with
    | 0, _ => rfl
    | 1, _ => rfl
    | 2, _ => rfl
    | 3, _ => rfl
    | 4, _ => rfl
    | 5, _ => rfl
    | 6, _ => rfl
    | 7, _ => rfl
    | j + 8, h => omega)
  (fr := fun k hk => absurd hk (Nat.not_lt_zero _))
  (ar := fun k hk => absurd hk (Nat.not_lt_zero _))
/-- a field of numbers written -/
theorem wNP.num {T0 : wq_T} {H0 : wq_H} {T : wq_T} {H : wq_H} (h : wNP T0 H0 T H 0) {z : Int} : wNP T0 H0 T (wq_u H (256 + T0.2.1) 8 z) 0 := wNP.mk
  (n := h.n)
  (z := h.z)
  (g := h.g)
  (old := fun a ha => ⟨(h.old a ha).1, by rw [← (h.old a ha).2]; funext j; exact wq_u_na (by omega) j⟩)
  (ob := h.ob)
  (f0 := fun j hj => by rw [wq_u_ne (by omega)]; exact h.f0 j hj)
  (fr := fun k hk => absurd hk (Nat.not_lt_zero _))
  (ar := fun k hk => absurd hk (Nat.not_lt_zero _))
theorem wNP.next {T0 : wq_T} {H0 : wq_H} {T : wq_T} {H : wq_H} {i tt n : Nat} (h : wNP T0 H0 T H i) (hs : wsh (55 + i) = (tt, n)) (hn : n ≤ 24) : wNP T0 H0 (wq_gT T (tt, n) n) (wq_u (wq_gH H (256 + T.2.1) (fun _ => 0)) (256 + T0.2.1) (9 + i) ((256 + T.2.1 : Nat) : Int)) (i + 1) := by
  have hT := h.n
  exact wNP.mk
      (n := by show T.2.1 + 1 = _; omega)
      (z := by have := h.z; show T.2.2.1 + n ≤ _; omega)
      (g := h.g)
      (old := fun a ha => ⟨by show (if a = 256 + T.2.1 then _ else T.1 a) = _; rw [if_neg (by omega)]; exact (h.old a ha).1, by rw [← (h.old a ha).2]; funext j; rw [wq_u_na (by omega) j, wq_gH_ne (by omega)]⟩)
      (ob := by show (if 256 + T0.2.1 = 256 + T.2.1 then _ else T.1 _) = _; rw [if_neg (by omega)]; exact h.ob)
      (f0 := fun j hj => by rw [wq_u_ne (by omega), wq_gH_ne (by omega)]; exact h.f0 j hj)
      (fr := fun k hk => by
          by_cases hki : k = i
          · subst hki
            rw [wq_u_eq]
            omega
          · rw [wq_u_ne (by omega), wq_gH_ne (by omega)]
            exact h.fr k (by omega))
      (ar := fun k hk => by
          by_cases hki : k = i
          · subst hki
            have e : 257 + T0.2.1 + k = 256 + T.2.1 := by omega
            rw [e]
            refine ⟨by show (if 256 + T.2.1 = 256 + T.2.1 then _ else _) = _; rw [if_pos rfl, hs], fun j => ?_⟩
            rw [wq_u_na (by omega), wq_gH_eq]
          · refine ⟨by show (if 257 + T0.2.1 + k = 256 + T.2.1 then _ else T.1 _) = _; rw [if_neg (by omega)]; exact (h.ar k (by omega)).1, fun j => ?_⟩
            rw [wq_u_na (by omega), wq_gH_ne (by omega)]
            exact (h.ar k (by omega)).2 j)
/-- the tags, when it is made -/
def wNPg (T0 : wq_T) (a : Nat) : Option Nat := if a = 256 + T0.2.1 then some 54 else if 256 + T0.2.1 < a ∧ a ≤ 274 + T0.2.1 then some (55 + (a - 257 - T0.2.1)) else T0.2.2.2 a
theorem wok.mono {T T' : wq_T} {ty : Nat × Int × Int × Nat} {z : Int} (h : ∀ a t, T.2.2.2 a = some t → T'.2.2.2 a = some t) (hk : wok T ty z) : wok T' ty z := by
  obtain ⟨k, p, q, t⟩ := ty
  unfold wok at hk ⊢
  dsimp only at hk ⊢
  split at hk <;> first | exact hk | exact ⟨hk.1, h _ _ hk.2⟩ | exact hk.imp id (fun x => ⟨x.1, h _ _ x.2⟩) | exact ⟨hk.1, hk.2.imp (h _ _) (h _ _)⟩
theorem wNPg_mono {T0 : wq_T} {H0 : wq_H} (hW : WT T0 H0) (hf : ∀ a, 256 + T0.2.1 ≤ a → T0.1 a = none) : ∀ a t, T0.2.2.2 a = some t → wNPg T0 a = some t := fun a t h => by
  have h1 := (hW.2 a t h).1
  have h2 : a < 256 + T0.2.1 := by
    by_cases h3 : a < 256 + T0.2.1
    · exact h3
    · rw [hf a (by omega)] at h1
      cases h1
  unfold wNPg
  rw [if_neg (by omega), if_neg (by omega)]
  exact h
theorem wNP.tag {T0 : wq_T} {k : Nat} (hk : k < 18) : wNPg T0 (257 + T0.2.1 + k) = some (55 + k) := by
  unfold wNPg
  rw [if_neg (by omega), if_pos (by omega)]
  congr 1
  omega
theorem wNP.done {T0 : wq_T} {H0 : wq_H} {T : wq_T} {H : wq_H} (h : wNP T0 H0 T H 18) (hx : wI (H (256 + T0.2.1) 8)) (hW : WT T0 H0) (hf : ∀ a, 256 + T0.2.1 ≤ a → T0.1 a = none) : WT (T.1, T.2.1, T.2.2.1, wNPg T0) H := by
  have hm := wNPg_mono hW hf
  refine ⟨⟨hm _ _ hW.1.1, hm _ _ hW.1.2.1, fun i hi => hm _ _ (hW.1.2.2 i hi)⟩, fun a t ht => ?_⟩
  have ht : wNPg T0 a = some t := ht
  by_cases ha : a = 256 + T0.2.1
  · have e : t = 54 := by
      unfold wNPg at ht
      rw [if_pos ha] at ht
      exact (Option.some.inj ht).symm
    subst e
    subst ha
    refine ⟨h.ob, fun _ => by omega, fun j hj => ?_⟩
    have hj : j < 27 := hj
    match j, hj with
    | 0, _ => exact (by rw [h.f0 0 (by omega), ty_54_0]; exact ⟨by decide, by decide⟩)
    | 1, _ => exact (by rw [h.f0 1 (by omega), ty_54_1]; exact ⟨by decide, by decide⟩)
    | 2, _ => exact (by rw [h.f0 2 (by omega), ty_54_2]; exact ⟨by decide, by decide⟩)
    | 3, _ => exact (by rw [h.f0 3 (by omega), ty_54_3]; exact ⟨by decide, by decide⟩)
    | 4, _ => exact (by rw [h.f0 4 (by omega), ty_54_4]; exact ⟨by decide, by decide⟩)
    | 5, _ => exact (by rw [h.f0 5 (by omega), ty_54_5]; exact ⟨by decide, by decide⟩)
    | 6, _ => exact (by rw [h.f0 6 (by omega), ty_54_6]; exact ⟨by decide, by decide⟩)
    | 7, _ => exact (by rw [h.f0 7 (by omega), ty_54_7]; exact ⟨by decide, by decide⟩)
    | 8, _ => exact (by rw [ty_54_8]; exact hx)
    | 9, _ => exact (by have e := h.fr 0 (by omega); rw [show (9 : Nat) = 9 + 0 from rfl, e]; exact wok_2 ty_54_9 (wNP.tag (by omega)))
    | 10, _ => exact (by have e := h.fr 1 (by omega); rw [show (10 : Nat) = 9 + 1 from rfl, e]; exact wok_2 ty_54_10 (wNP.tag (by omega)))
    | 11, _ => exact (by have e := h.fr 2 (by omega); rw [show (11 : Nat) = 9 + 2 from rfl, e]; exact wok_2 ty_54_11 (wNP.tag (by omega)))
    | 12, _ => exact (by have e := h.fr 3 (by omega); rw [show (12 : Nat) = 9 + 3 from rfl, e]; exact wok_2 ty_54_12 (wNP.tag (by omega)))
    | 13, _ => exact (by have e := h.fr 4 (by omega); rw [show (13 : Nat) = 9 + 4 from rfl, e]; exact wok_2 ty_54_13 (wNP.tag (by omega)))
    | 14, _ => exact (by have e := h.fr 5 (by omega); rw [show (14 : Nat) = 9 + 5 from rfl, e]; exact wok_2 ty_54_14 (wNP.tag (by omega)))
    | 15, _ => exact (by have e := h.fr 6 (by omega); rw [show (15 : Nat) = 9 + 6 from rfl, e]; exact wok_2 ty_54_15 (wNP.tag (by omega)))
    | 16, _ => exact (by have e := h.fr 7 (by omega); rw [show (16 : Nat) = 9 + 7 from rfl, e]; exact wok_2 ty_54_16 (wNP.tag (by omega)))
    | 17, _ => exact (by have e := h.fr 8 (by omega); rw [show (17 : Nat) = 9 + 8 from rfl, e]; exact wok_2 ty_54_17 (wNP.tag (by omega)))
    | 18, _ => exact (by have e := h.fr 9 (by omega); rw [show (18 : Nat) = 9 + 9 from rfl, e]; exact wok_2 ty_54_18 (wNP.tag (by omega)))
    | 19, _ => exact (by have e := h.fr 10 (by omega); rw [show (19 : Nat) = 9 + 10 from rfl, e]; exact wok_2 ty_54_19 (wNP.tag (by omega)))
    | 20, _ => exact (by have e := h.fr 11 (by omega); rw [show (20 : Nat) = 9 + 11 from rfl, e]; exact wok_2 ty_54_20 (wNP.tag (by omega)))
    | 21, _ => exact (by have e := h.fr 12 (by omega); rw [show (21 : Nat) = 9 + 12 from rfl, e]; exact wok_2 ty_54_21 (wNP.tag (by omega)))
    | 22, _ => exact (by have e := h.fr 13 (by omega); rw [show (22 : Nat) = 9 + 13 from rfl, e]; exact wok_2 ty_54_22 (wNP.tag (by omega)))
    | 23, _ => exact (by have e := h.fr 14 (by omega); rw [show (23 : Nat) = 9 + 14 from rfl, e]; exact wok_2 ty_54_23 (wNP.tag (by omega)))
    | 24, _ => exact (by have e := h.fr 15 (by omega); rw [show (24 : Nat) = 9 + 15 from rfl, e]; exact wok_2 ty_54_24 (wNP.tag (by omega)))
    | 25, _ => exact (by have e := h.fr 16 (by omega); rw [show (25 : Nat) = 9 + 16 from rfl, e]; exact wok_2 ty_54_25 (wNP.tag (by omega)))
    | 26, _ => exact (by have e := h.fr 17 (by omega); rw [show (26 : Nat) = 9 + 17 from rfl, e]; exact wok_2 ty_54_26 (wNP.tag (by omega)))
    | j + 27, h => omega
  · by_cases hb : 256 + T0.2.1 < a ∧ a ≤ 274 + T0.2.1
    · obtain ⟨k, hk, rfl⟩ : ∃ k, k < 18 ∧ a = 257 + T0.2.1 + k := ⟨a - 257 - T0.2.1, by omega, by omega⟩
      rw [wNP.tag hk] at ht
      cases ht
      refine ⟨(h.ar k hk).1, fun _ => by omega, fun j hj => ?_⟩
      rw [(h.ar k hk).2 j]
      match k, hk with
      | 0, _ => exact (by rw [show 55 + 0 = 55 from rfl, ty_55]; exact ⟨by decide, by decide⟩)
      | 1, _ => exact (by rw [show 55 + 1 = 56 from rfl, ty_56]; exact ⟨by decide, by decide⟩)
      | 2, _ => exact (by rw [show 55 + 2 = 57 from rfl, ty_57]; exact ⟨by decide, by decide⟩)
      | 3, _ => exact (by rw [show 55 + 3 = 58 from rfl, ty_58]; exact ⟨by decide, by decide⟩)
      | 4, _ => exact (by rw [show 55 + 4 = 59 from rfl, ty_59]; exact ⟨by decide, by decide⟩)
      | 5, _ => exact (by rw [show 55 + 5 = 60 from rfl, ty_60]; exact ⟨by decide, by decide⟩)
      | 6, _ => exact (by rw [show 55 + 6 = 61 from rfl, ty_61]; exact ⟨by decide, by decide⟩)
      | 7, _ => exact (by rw [show 55 + 7 = 62 from rfl, ty_62]; exact ⟨by decide, by decide⟩)
      | 8, _ => exact (by rw [show 55 + 8 = 63 from rfl, ty_63]; exact ⟨by decide, by decide⟩)
      | 9, _ => exact (by rw [show 55 + 9 = 64 from rfl, ty_64]; exact ⟨by decide, by decide⟩)
      | 10, _ => exact (by rw [show 55 + 10 = 65 from rfl, ty_65]; exact ⟨by decide, by decide⟩)
      | 11, _ => exact (by rw [show 55 + 11 = 66 from rfl, ty_66]; exact ⟨by decide, by decide⟩)
      | 12, _ => exact (by rw [show 55 + 12 = 67 from rfl, ty_67]; exact ⟨by decide, by decide⟩)
      | 13, _ => exact (by rw [show 55 + 13 = 68 from rfl, ty_68]; exact ⟨by decide, by decide⟩)
      | 14, _ => exact (by rw [show 55 + 14 = 69 from rfl, ty_69]; exact ⟨by decide, by decide⟩)
      | 15, _ => exact (by rw [show 55 + 15 = 70 from rfl, ty_70]; exact ⟨by decide, by decide⟩)
      | 16, _ => exact (by rw [show 55 + 16 = 71 from rfl, ty_71]; exact ⟨by decide, by decide⟩)
      | 17, _ => exact (by rw [show 55 + 17 = 72 from rfl, ty_72]; exact ⟨by decide, by decide⟩)
      | k + 18, h => omega
    · have ht0 : T0.2.2.2 a = some t := by
        unfold wNPg at ht
        rw [if_neg ha, if_neg hb] at ht
        exact ht
      obtain ⟨h1, h2, h3⟩ := hW.2 a t ht0
      have hlt : a < 256 + T0.2.1 := by
        by_cases h4 : a < 256 + T0.2.1
        · exact h4
        · rw [hf a (by omega)] at h1
          cases h1
      refine ⟨by show T.1 a = _; rw [(h.old a hlt).1]; exact h1, h2, fun j hj => ?_⟩
      rw [(h.old a hlt).2]
      exact wok.mono hm (h3 j hj)
theorem wLM_ot {T : wq_T} {H H' : wq_H} {m R : Nat} (hW : WT T H) (g : T.2.2.2 m = some 42) (e3 : H' m 3 = H m 3) (e21 : H' m 21 = H m 21) (es : ∀ sp, T.2.2.2 sp = some 45 → H' sp = H sp) (ho : ∀ a, a ≠ R → T.2.2.2 a = some 54 → H' a 3 = H a 3) (hne : H m 3 ≠ (R : Int)) : wLM H' m = wLM H m := by
  unfold wLM
  rw [e3, e21]
  split
  · rfl
  · next hn =>
    obtain ⟨sp, hs1, hs2⟩ := hW.ref g (t' := 45) (n := 33) (j := 21) (p := 0) (q := 0) rfl (by decide) rfl
    rcases hW.opt g (t' := 54) (n := 33) (j := 3) (p := 0) (q := 0) rfl (by decide) rfl with h5 | ⟨pp, h5, h6⟩
    · exact absurd h5 hn
    · rw [hs1, h5, Int.toNat_natCast, Int.toNat_natCast, es sp hs2, ho pp (fun q => hne (by rw [h5, q])) h6]
theorem wKI_old {T : wq_T} {H H' : wq_H} {m : Nat} (hW : WT T H) (g : T.2.2.2 m = some 42) (ho : ∀ a t, T.2.2.2 a = some t → H' a = H a) : wKI H' m = wKI H m := by
  have em := ho m _ g
  have el : wLM H' m = wLM H m := by
    unfold wLM
    rw [em]
    split
    · rfl
    · next hn =>
      obtain ⟨sp, hs1, hs2⟩ := hW.ref g (t' := 45) (n := 33) (j := 21) (p := 0) (q := 0) rfl (by decide) rfl
      rcases hW.opt g (t' := 54) (n := 33) (j := 3) (p := 0) (q := 0) rfl (by decide) rfl with h5 | ⟨pp, h5, h6⟩
      · exact absurd h5 hn
      · rw [hs1, h5, Int.toNat_natCast, Int.toNat_natCast, ho sp _ hs2, ho pp _ h6]
  unfold wKI
  rw [em, el]
theorem e171 : wq_en 171 = some (10, 1, true, none) := rfl
theorem cg171_0 : mc_cd 171 0 = some (.aload_n 0, 1) ∧ mc_cd 171 1 = some (.invokespecial 3, 3) ∧ mc_cd 171 4 = some (.aload_n 0, 1) ∧ mc_cd 171 5 = some (.iconst (-1), 1) ∧ mc_cd 171 6 = some (.putfield 9, 3) ∧ mc_cd 171 9 = some (.aload_n 0, 1) ∧ mc_cd 171 10 = some (.bipush 6, 2) ∧ mc_cd 171 12 = some (.newarray .long, 2) := by decide +kernel
theorem c171_0 : mc_cd 171 0 = some (.aload_n 0, 1) := cg171_0.1
theorem c171_1 : mc_cd 171 1 = some (.invokespecial 3, 3) := cg171_0.2.1
theorem c171_4 : mc_cd 171 4 = some (.aload_n 0, 1) := cg171_0.2.2.1
theorem c171_5 : mc_cd 171 5 = some (.iconst (-1), 1) := cg171_0.2.2.2.1
theorem c171_6 : mc_cd 171 6 = some (.putfield 9, 3) := cg171_0.2.2.2.2.1
theorem c171_9 : mc_cd 171 9 = some (.aload_n 0, 1) := cg171_0.2.2.2.2.2.1
theorem c171_10 : mc_cd 171 10 = some (.bipush 6, 2) := cg171_0.2.2.2.2.2.2.1
theorem c171_12 : mc_cd 171 12 = some (.newarray .long, 2) := cg171_0.2.2.2.2.2.2.2
theorem cg171_14 : mc_cd 171 14 = some (.putfield 15, 3) ∧ mc_cd 171 17 = some (.aload_n 0, 1) ∧ mc_cd 171 18 = some (.bipush 6, 2) ∧ mc_cd 171 20 = some (.newarray .int, 2) ∧ mc_cd 171 22 = some (.putfield 19, 3) ∧ mc_cd 171 25 = some (.aload_n 0, 1) ∧ mc_cd 171 26 = some (.bipush 6, 2) ∧ mc_cd 171 28 = some (.newarray .int, 2) := by decide +kernel
theorem c171_14 : mc_cd 171 14 = some (.putfield 15, 3) := cg171_14.1
theorem c171_17 : mc_cd 171 17 = some (.aload_n 0, 1) := cg171_14.2.1
theorem c171_18 : mc_cd 171 18 = some (.bipush 6, 2) := cg171_14.2.2.1
theorem c171_20 : mc_cd 171 20 = some (.newarray .int, 2) := cg171_14.2.2.2.1
theorem c171_22 : mc_cd 171 22 = some (.putfield 19, 3) := cg171_14.2.2.2.2.1
theorem c171_25 : mc_cd 171 25 = some (.aload_n 0, 1) := cg171_14.2.2.2.2.2.1
theorem c171_26 : mc_cd 171 26 = some (.bipush 6, 2) := cg171_14.2.2.2.2.2.2.1
theorem c171_28 : mc_cd 171 28 = some (.newarray .int, 2) := cg171_14.2.2.2.2.2.2.2
theorem cg171_30 : mc_cd 171 30 = some (.putfield 23, 3) ∧ mc_cd 171 33 = some (.aload_n 0, 1) ∧ mc_cd 171 34 = some (.bipush 6, 2) ∧ mc_cd 171 36 = some (.newarray .int, 2) ∧ mc_cd 171 38 = some (.putfield 26, 3) ∧ mc_cd 171 41 = some (.aload_n 0, 1) ∧ mc_cd 171 42 = some (.bipush 6, 2) ∧ mc_cd 171 44 = some (.newarray .int, 2) := by decide +kernel
theorem c171_30 : mc_cd 171 30 = some (.putfield 23, 3) := cg171_30.1
theorem c171_33 : mc_cd 171 33 = some (.aload_n 0, 1) := cg171_30.2.1
theorem c171_34 : mc_cd 171 34 = some (.bipush 6, 2) := cg171_30.2.2.1
theorem c171_36 : mc_cd 171 36 = some (.newarray .int, 2) := cg171_30.2.2.2.1
theorem c171_38 : mc_cd 171 38 = some (.putfield 26, 3) := cg171_30.2.2.2.2.1
theorem c171_41 : mc_cd 171 41 = some (.aload_n 0, 1) := cg171_30.2.2.2.2.2.1
theorem c171_42 : mc_cd 171 42 = some (.bipush 6, 2) := cg171_30.2.2.2.2.2.2.1
theorem c171_44 : mc_cd 171 44 = some (.newarray .int, 2) := cg171_30.2.2.2.2.2.2.2
theorem cg171_46 : mc_cd 171 46 = some (.putfield 29, 3) ∧ mc_cd 171 49 = some (.aload_n 0, 1) ∧ mc_cd 171 50 = some (.bipush 6, 2) ∧ mc_cd 171 52 = some (.newarray .int, 2) ∧ mc_cd 171 54 = some (.putfield 32, 3) ∧ mc_cd 171 57 = some (.aload_n 0, 1) ∧ mc_cd 171 58 = some (.bipush 6, 2) ∧ mc_cd 171 60 = some (.newarray .int, 2) := by decide +kernel
theorem c171_46 : mc_cd 171 46 = some (.putfield 29, 3) := cg171_46.1
theorem c171_49 : mc_cd 171 49 = some (.aload_n 0, 1) := cg171_46.2.1
theorem c171_50 : mc_cd 171 50 = some (.bipush 6, 2) := cg171_46.2.2.1
theorem c171_52 : mc_cd 171 52 = some (.newarray .int, 2) := cg171_46.2.2.2.1
theorem c171_54 : mc_cd 171 54 = some (.putfield 32, 3) := cg171_46.2.2.2.2.1
theorem c171_57 : mc_cd 171 57 = some (.aload_n 0, 1) := cg171_46.2.2.2.2.2.1
theorem c171_58 : mc_cd 171 58 = some (.bipush 6, 2) := cg171_46.2.2.2.2.2.2.1
theorem c171_60 : mc_cd 171 60 = some (.newarray .int, 2) := cg171_46.2.2.2.2.2.2.2
theorem cg171_62 : mc_cd 171 62 = some (.putfield 35, 3) ∧ mc_cd 171 65 = some (.aload_n 0, 1) ∧ mc_cd 171 66 = some (.bipush 6, 2) ∧ mc_cd 171 68 = some (.newarray .int, 2) ∧ mc_cd 171 70 = some (.putfield 38, 3) ∧ mc_cd 171 73 = some (.aload_n 0, 1) ∧ mc_cd 171 74 = some (.bipush 6, 2) ∧ mc_cd 171 76 = some (.newarray .boolean, 2) := by decide +kernel
theorem c171_62 : mc_cd 171 62 = some (.putfield 35, 3) := cg171_62.1
theorem c171_65 : mc_cd 171 65 = some (.aload_n 0, 1) := cg171_62.2.1
theorem c171_66 : mc_cd 171 66 = some (.bipush 6, 2) := cg171_62.2.2.1
theorem c171_68 : mc_cd 171 68 = some (.newarray .int, 2) := cg171_62.2.2.2.1
theorem c171_70 : mc_cd 171 70 = some (.putfield 38, 3) := cg171_62.2.2.2.2.1
theorem c171_73 : mc_cd 171 73 = some (.aload_n 0, 1) := cg171_62.2.2.2.2.2.1
theorem c171_74 : mc_cd 171 74 = some (.bipush 6, 2) := cg171_62.2.2.2.2.2.2.1
theorem c171_76 : mc_cd 171 76 = some (.newarray .boolean, 2) := cg171_62.2.2.2.2.2.2.2
theorem cg171_78 : mc_cd 171 78 = some (.putfield 41, 3) ∧ mc_cd 171 81 = some (.aload_n 0, 1) ∧ mc_cd 171 82 = some (.iconst 3, 1) ∧ mc_cd 171 83 = some (.newarray .int, 2) ∧ mc_cd 171 85 = some (.putfield 45, 3) ∧ mc_cd 171 88 = some (.aload_n 0, 1) ∧ mc_cd 171 89 = some (.iconst 3, 1) ∧ mc_cd 171 90 = some (.newarray .int, 2) := by decide +kernel
theorem c171_78 : mc_cd 171 78 = some (.putfield 41, 3) := cg171_78.1
theorem c171_81 : mc_cd 171 81 = some (.aload_n 0, 1) := cg171_78.2.1
theorem c171_82 : mc_cd 171 82 = some (.iconst 3, 1) := cg171_78.2.2.1
theorem c171_83 : mc_cd 171 83 = some (.newarray .int, 2) := cg171_78.2.2.2.1
theorem c171_85 : mc_cd 171 85 = some (.putfield 45, 3) := cg171_78.2.2.2.2.1
theorem c171_88 : mc_cd 171 88 = some (.aload_n 0, 1) := cg171_78.2.2.2.2.2.1
theorem c171_89 : mc_cd 171 89 = some (.iconst 3, 1) := cg171_78.2.2.2.2.2.2.1
theorem c171_90 : mc_cd 171 90 = some (.newarray .int, 2) := cg171_78.2.2.2.2.2.2.2
theorem cg171_92 : mc_cd 171 92 = some (.putfield 48, 3) ∧ mc_cd 171 95 = some (.aload_n 0, 1) ∧ mc_cd 171 96 = some (.iconst 3, 1) ∧ mc_cd 171 97 = some (.newarray .int, 2) ∧ mc_cd 171 99 = some (.putfield 51, 3) ∧ mc_cd 171 102 = some (.aload_n 0, 1) ∧ mc_cd 171 103 = some (.bipush 24, 2) ∧ mc_cd 171 105 = some (.newarray .int, 2) := by decide +kernel
theorem c171_92 : mc_cd 171 92 = some (.putfield 48, 3) := cg171_92.1
theorem c171_95 : mc_cd 171 95 = some (.aload_n 0, 1) := cg171_92.2.1
theorem c171_96 : mc_cd 171 96 = some (.iconst 3, 1) := cg171_92.2.2.1
theorem c171_97 : mc_cd 171 97 = some (.newarray .int, 2) := cg171_92.2.2.2.1
theorem c171_99 : mc_cd 171 99 = some (.putfield 51, 3) := cg171_92.2.2.2.2.1
theorem c171_102 : mc_cd 171 102 = some (.aload_n 0, 1) := cg171_92.2.2.2.2.2.1
theorem c171_103 : mc_cd 171 103 = some (.bipush 24, 2) := cg171_92.2.2.2.2.2.2.1
theorem c171_105 : mc_cd 171 105 = some (.newarray .int, 2) := cg171_92.2.2.2.2.2.2.2
theorem cg171_107 : mc_cd 171 107 = some (.putfield 54, 3) ∧ mc_cd 171 110 = some (.aload_n 0, 1) ∧ mc_cd 171 111 = some (.iconst 4, 1) ∧ mc_cd 171 112 = some (.newarray .int, 2) ∧ mc_cd 171 114 = some (.putfield 57, 3) ∧ mc_cd 171 117 = some (.aload_n 0, 1) ∧ mc_cd 171 118 = some (.iconst 4, 1) ∧ mc_cd 171 119 = some (.newarray .int, 2) := by decide +kernel
theorem c171_107 : mc_cd 171 107 = some (.putfield 54, 3) := cg171_107.1
theorem c171_110 : mc_cd 171 110 = some (.aload_n 0, 1) := cg171_107.2.1
theorem c171_111 : mc_cd 171 111 = some (.iconst 4, 1) := cg171_107.2.2.1
theorem c171_112 : mc_cd 171 112 = some (.newarray .int, 2) := cg171_107.2.2.2.1
theorem c171_114 : mc_cd 171 114 = some (.putfield 57, 3) := cg171_107.2.2.2.2.1
theorem c171_117 : mc_cd 171 117 = some (.aload_n 0, 1) := cg171_107.2.2.2.2.2.1
theorem c171_118 : mc_cd 171 118 = some (.iconst 4, 1) := cg171_107.2.2.2.2.2.2.1
theorem c171_119 : mc_cd 171 119 = some (.newarray .int, 2) := cg171_107.2.2.2.2.2.2.2
theorem cg171_121 : mc_cd 171 121 = some (.putfield 60, 3) ∧ mc_cd 171 124 = some (.aload_n 0, 1) ∧ mc_cd 171 125 = some (.iconst 4, 1) ∧ mc_cd 171 126 = some (.newarray .int, 2) ∧ mc_cd 171 128 = some (.putfield 63, 3) ∧ mc_cd 171 131 = some (.aload_n 0, 1) ∧ mc_cd 171 132 = some (.bipush 6, 2) ∧ mc_cd 171 134 = some (.newarray .int, 2) := by decide +kernel
theorem c171_121 : mc_cd 171 121 = some (.putfield 60, 3) := cg171_121.1
theorem c171_124 : mc_cd 171 124 = some (.aload_n 0, 1) := cg171_121.2.1
theorem c171_125 : mc_cd 171 125 = some (.iconst 4, 1) := cg171_121.2.2.1
theorem c171_126 : mc_cd 171 126 = some (.newarray .int, 2) := cg171_121.2.2.2.1
theorem c171_128 : mc_cd 171 128 = some (.putfield 63, 3) := cg171_121.2.2.2.2.1
theorem c171_131 : mc_cd 171 131 = some (.aload_n 0, 1) := cg171_121.2.2.2.2.2.1
theorem c171_132 : mc_cd 171 132 = some (.bipush 6, 2) := cg171_121.2.2.2.2.2.2.1
theorem c171_134 : mc_cd 171 134 = some (.newarray .int, 2) := cg171_121.2.2.2.2.2.2.2
theorem cg171_136 : mc_cd 171 136 = some (.putfield 66, 3) ∧ mc_cd 171 139 = some (.aload_n 0, 1) ∧ mc_cd 171 140 = some (.bipush 6, 2) ∧ mc_cd 171 142 = some (.newarray .int, 2) ∧ mc_cd 171 144 = some (.putfield 69, 3) ∧ mc_cd 171 147 = some (.return_, 1) := by decide +kernel
theorem c171_136 : mc_cd 171 136 = some (.putfield 66, 3) := cg171_136.1
theorem c171_139 : mc_cd 171 139 = some (.aload_n 0, 1) := cg171_136.2.1
theorem c171_140 : mc_cd 171 140 = some (.bipush 6, 2) := cg171_136.2.2.1
theorem c171_142 : mc_cd 171 142 = some (.newarray .int, 2) := cg171_136.2.2.2.1
theorem c171_144 : mc_cd 171 144 = some (.putfield 69, 3) := cg171_136.2.2.2.2.1
theorem c171_147 : mc_cd 171 147 = some (.return_, 1) := cg171_136.2.2.2.2.2
theorem px_R {kt : Nat → Option mc_E} {d : Nat} {E : wq_E} {pc pc' : Nat} {L : List (Nat × Value)} {st : List Value} {T : wq_T} {H : wq_H} {K : Nat → List (Nat × Value) → List Value → wq_T → wq_H → Prop} {idx c j n a : Nat} {b : Bool} {z : Int} {v : Value} (hl : wlf E.1 idx c j b) (hs : T.1 a = some (100 + c, n)) (ha : 256 ≤ a) (hc : (decide (c < 11) && decide (j < mc_N.getD c 0) && decide (j < n) && (!(mc_T c j).2.2.2 || (E.2.2.1 && E.1 == c && !b))) = true) (hf : mc_fit (mc_t c j) v = true) (hv : wq_v (wq_fk c j) z = v) (hz : wq_in (wq_fk c j) z) (hp : pc + 3 = pc') (h : K pc' L st T (wq_u H a j z)) : wq_s kt d E (.putfield idx) 3 pc L (v :: .ref a :: st) T H K := by
  obtain ⟨e, he, hj, hb⟩ := hl
  subst hb
  simp only [Bool.and_eq_true, decide_eq_true_eq] at hc
  obtain ⟨⟨⟨h1, h2⟩, h3⟩, h4⟩ := hc
  exact rw_putf he hj hs ha ⟨decide_eq_true h1, decide_eq_true h2, h3, h4⟩ hf hv hz hp h
abbrev q_171 (T0 : wq_T) (H0 : wq_H) : Option Value → wq_T → wq_H → Prop := fun r T' H' => WT T' H' ∧ (∀ a t, T0.2.2.2 a = some t → T'.2.2.2 a = some t) ∧ T'.2.2.2 (256 + T0.2.1) = some 54 ∧ (∀ a, a < 256 + T0.2.1 → H' a = H0 a) ∧ wPI H' (256 + T0.2.1) = 1 ∧ T'.2.1 = T0.2.1 + 19 ∧ T'.2.2.1 ≤ T0.2.2.1 + 459 ∧ none = r
theorem wNP.all {T0 : wq_T} {H0 : wq_H} {T : wq_T} {H : wq_H} (h : wNP T0 H0 T H 18) (hx : wI (H (256 + T0.2.1) 8)) (hW : WT T0 H0) (hf : ∀ a, 256 + T0.2.1 ≤ a → T0.1 a = none) : q_171 T0 H0 none (T.1, T.2.1, T.2.2.1, wNPg T0) H := by
  refine ⟨h.done hx hW hf, wNPg_mono hW hf, if_pos rfl, fun a ha => (h.old a ha).2, ?_, h.n, h.z, rfl⟩
  refine wPI_of (h.fr 1 (by omega)) (h.fr 2 (by omega)) (h.fr 3 (by omega)) (h.fr 4 (by omega)) (fun k _ => ?_)
  rw [(h.ar 1 (by omega)).2, (h.ar 2 (by omega)).2, (h.ar 3 (by omega)).2, (h.ar 4 (by omega)).2]
  exact ⟨by decide, by decide⟩
end
