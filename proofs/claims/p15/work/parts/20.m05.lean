/-! methods (own work, written by wip/gen2/sx.py) -/
/-! StrikeAwake$Walk.isWorld(LStrikeAwake$Parish;)Z -/
theorem e79 : wq_en 79 = some (3, 2, false, some FieldType.boolean) := rfl
theorem cg79_0 : mc_cd 79 0 = some (.aload_n 0, 1) ∧ mc_cd 79 1 = some (.invokevirtual 118, 3) ∧ mc_cd 79 4 = some (.ifCond .ne 17, 3) ∧ mc_cd 79 7 = some (.aload_n 0, 1) ∧ mc_cd 79 8 = some (.aload_n 1, 1) ∧ mc_cd 79 9 = some (.invokevirtual 122, 3) ∧ mc_cd 79 12 = some (.bipush 24, 2) ∧ mc_cd 79 14 = some (.if_icmp .ne 7, 3) := by decide +kernel
theorem c79_0 : mc_cd 79 0 = some (.aload_n 0, 1) := cg79_0.1
theorem c79_1 : mc_cd 79 1 = some (.invokevirtual 118, 3) := cg79_0.2.1
theorem c79_4 : mc_cd 79 4 = some (.ifCond .ne 17, 3) := cg79_0.2.2.1
theorem c79_7 : mc_cd 79 7 = some (.aload_n 0, 1) := cg79_0.2.2.2.1
theorem c79_8 : mc_cd 79 8 = some (.aload_n 1, 1) := cg79_0.2.2.2.2.1
theorem c79_9 : mc_cd 79 9 = some (.invokevirtual 122, 3) := cg79_0.2.2.2.2.2.1
theorem c79_12 : mc_cd 79 12 = some (.bipush 24, 2) := cg79_0.2.2.2.2.2.2.1
theorem c79_14 : mc_cd 79 14 = some (.if_icmp .ne 7, 3) := cg79_0.2.2.2.2.2.2.2
theorem cg79_17 : mc_cd 79 17 = some (.iconst 1, 1) ∧ mc_cd 79 18 = some (.goto 4, 3) ∧ mc_cd 79 21 = some (.iconst 0, 1) ∧ mc_cd 79 22 = some (.ireturn, 1) := by decide +kernel
theorem c79_17 : mc_cd 79 17 = some (.iconst 1, 1) := cg79_17.1
theorem c79_18 : mc_cd 79 18 = some (.goto 4, 3) := cg79_17.2.1
theorem c79_21 : mc_cd 79 21 = some (.iconst 0, 1) := cg79_17.2.2.1
theorem c79_22 : mc_cd 79 22 = some (.ireturn, 1) := cg79_17.2.2.2
abbrev q_79 (r0 : Nat) (r1 : Nat) (T : wq_T) (H : wq_H) : Option Value → wq_T → wq_H → Prop := fun r T' H' => T = T' ∧ H = H' ∧ ∃ z : Int, some (vI z) = r ∧ (0 ≤ z ∧ z ≤ 1)
set_option maxHeartbeats 4000000 in
theorem s_79 {kt : Nat → Option mc_E} {T : wq_T} {H : wq_H} {r0 : Nat} {r1 : Nat} (hW : WT T H) (g0 : T.2.2.2 r0 = some 6) (g1 : T.2.2.2 r1 = some 27) : wpc kt 3 79 [.ref r0, .ref r1] T H (q_79 r0 r1 T H) := by
  refine wp_enter e79 (Nat.le_of_ble_eq_true rfl) rfl ?_
  show wp _ _ 79 0 [(0, .ref r0), (1, .ref r1)] [] _ H _
  refine wp_of e79 c79_0 (rw_aload_n (pc' := 1) (v := .ref r0) rfl rfl rfl ?_)
  refine wp_of e79 c79_1 (xc_V (pc' := 4) (r := r0) (as := []) (st := []) (lm_3_118) rfl rfl (Nat.le_of_ble_eq_true rfl) hW g0 sh_6 (by decide) rfl (by decide) (s_80 hW g0) (fun R20614 T20615 H20616 p20617 => ?_))
  obtain ⟨e20618, e20620, z20621, e20619, b20622⟩ := p20617
  subst e20618
  subst e20619
  subst e20620
  show wp _ _ 79 4 [(0, .ref r0), (1, .ref r1)] [vI z20621] _ H _
  refine wp_of e79 c79_4 (rw_if_ne (p1 := 21) (p2 := 7) (by decide) rfl ⟨by omega, by omega⟩ (fun c20623 => ?_) (fun c20623 => ?_))
  · refine wp_of e79 c79_21 (rw_iconst (pc' := 22) rfl ?_)
    exact wp_zreturn e79 c79_22 rfl (by omega) ⟨rfl, rfl, 0, rfl, ⟨by omega, by omega⟩⟩
  · refine wp_of e79 c79_7 (rw_aload_n (pc' := 8) (v := .ref r0) rfl rfl rfl ?_)
    refine wp_of e79 c79_8 (rw_aload_n (pc' := 9) (v := .ref r1) rfl rfl rfl ?_)
    refine wp_of e79 c79_9 (xc_V (pc' := 12) (r := r0) (as := [.ref r1]) (st := []) (lm_3_122) rfl rfl (Nat.le_of_ble_eq_true rfl) hW g0 sh_6 (by decide) rfl (by decide) (s_81 hW g0 g1) (fun R20624 T20625 H20626 p20627 => ?_))
    obtain ⟨e20628, e20630, z20631, e20629, b20632⟩ := p20627
    subst e20628
    subst e20629
    subst e20630
    show wp _ _ 79 12 [(0, .ref r0), (1, .ref r1)] [vI z20631] _ H _
    refine wp_of e79 c79_12 (rw_bipush (pc' := 14) (z := 24) rfl (by decide) ?_)
    refine wp_of e79 c79_14 (rw_icmp_ne (p1 := 21) (p2 := 17) (by decide) rfl ⟨by omega, by omega⟩ ⟨by omega, by omega⟩ (fun c20633 => ?_) (fun c20633 => ?_))
    · refine wp_of e79 c79_21 (rw_iconst (pc' := 22) rfl ?_)
      exact wp_zreturn e79 c79_22 rfl (by omega) ⟨rfl, rfl, 0, rfl, ⟨by omega, by omega⟩⟩
    · refine wp_of e79 c79_17 (rw_iconst (pc' := 18) rfl ?_)
      refine wp_of e79 c79_18 (rw_goto (p1 := 22) (by decide) ?_)
      exact wp_zreturn e79 c79_22 rfl (by omega) ⟨rfl, rfl, 1, rfl, ⟨by omega, by omega⟩⟩
/-! StrikeAwake.agrees()I -/
theorem e78 : wq_en 78 = some (0, 2, false, some FieldType.int) := rfl
theorem cg78_0 : mc_cd 78 0 = some (.aload_n 0, 1) ∧ mc_cd 78 1 = some (.aload_n 0, 1) ∧ mc_cd 78 2 = some (.getfield 58, 3) ∧ mc_cd 78 5 = some (.invokevirtual 155, 3) ∧ mc_cd 78 8 = some (.istore_n 1, 1) ∧ mc_cd 78 9 = some (.iload_n 1, 1) ∧ mc_cd 78 10 = some (.ifCond .eq 9, 3) ∧ mc_cd 78 13 = some (.aload_n 0, 1) := by decide +kernel
theorem c78_0 : mc_cd 78 0 = some (.aload_n 0, 1) := cg78_0.1
theorem c78_1 : mc_cd 78 1 = some (.aload_n 0, 1) := cg78_0.2.1
theorem c78_2 : mc_cd 78 2 = some (.getfield 58, 3) := cg78_0.2.2.1
theorem c78_5 : mc_cd 78 5 = some (.invokevirtual 155, 3) := cg78_0.2.2.2.1
theorem c78_8 : mc_cd 78 8 = some (.istore_n 1, 1) := cg78_0.2.2.2.2.1
theorem c78_9 : mc_cd 78 9 = some (.iload_n 1, 1) := cg78_0.2.2.2.2.2.1
theorem c78_10 : mc_cd 78 10 = some (.ifCond .eq 9, 3) := cg78_0.2.2.2.2.2.2.1
theorem c78_13 : mc_cd 78 13 = some (.aload_n 0, 1) := cg78_0.2.2.2.2.2.2.2
theorem cg78_14 : mc_cd 78 14 = some (.iload_n 1, 1) ∧ mc_cd 78 15 = some (.invokevirtual 70, 3) ∧ mc_cd 78 18 = some (.ireturn, 1) ∧ mc_cd 78 19 = some (.aload_n 0, 1) ∧ mc_cd 78 20 = some (.aload_n 0, 1) ∧ mc_cd 78 21 = some (.getfield 23, 3) ∧ mc_cd 78 24 = some (.aload_n 0, 1) ∧ mc_cd 78 25 = some (.getfield 51, 3) := by decide +kernel
theorem c78_14 : mc_cd 78 14 = some (.iload_n 1, 1) := cg78_14.1
theorem c78_15 : mc_cd 78 15 = some (.invokevirtual 70, 3) := cg78_14.2.1
theorem c78_18 : mc_cd 78 18 = some (.ireturn, 1) := cg78_14.2.2.1
theorem c78_19 : mc_cd 78 19 = some (.aload_n 0, 1) := cg78_14.2.2.2.1
theorem c78_20 : mc_cd 78 20 = some (.aload_n 0, 1) := cg78_14.2.2.2.2.1
theorem c78_21 : mc_cd 78 21 = some (.getfield 23, 3) := cg78_14.2.2.2.2.2.1
theorem c78_24 : mc_cd 78 24 = some (.aload_n 0, 1) := cg78_14.2.2.2.2.2.2.1
theorem c78_25 : mc_cd 78 25 = some (.getfield 51, 3) := cg78_14.2.2.2.2.2.2.2
theorem cg78_28 : mc_cd 78 28 = some (.invokevirtual 170, 3) ∧ mc_cd 78 31 = some (.ifCond .eq 7, 3) ∧ mc_cd 78 34 = some (.iconst 1, 1) ∧ mc_cd 78 35 = some (.goto 4, 3) ∧ mc_cd 78 38 = some (.iconst 0, 1) ∧ mc_cd 78 39 = some (.invokevirtual 99, 3) ∧ mc_cd 78 42 = some (.ireturn, 1) := by decide +kernel
theorem c78_28 : mc_cd 78 28 = some (.invokevirtual 170, 3) := cg78_28.1
theorem c78_31 : mc_cd 78 31 = some (.ifCond .eq 7, 3) := cg78_28.2.1
theorem c78_34 : mc_cd 78 34 = some (.iconst 1, 1) := cg78_28.2.2.1
theorem c78_35 : mc_cd 78 35 = some (.goto 4, 3) := cg78_28.2.2.2.1
theorem c78_38 : mc_cd 78 38 = some (.iconst 0, 1) := cg78_28.2.2.2.2.1
theorem c78_39 : mc_cd 78 39 = some (.invokevirtual 99, 3) := cg78_28.2.2.2.2.2.1
theorem c78_42 : mc_cd 78 42 = some (.ireturn, 1) := cg78_28.2.2.2.2.2.2
/-! StrikeAwake.barOfLots(Z)I -/
theorem e84 : wq_en 84 = some (0, 2, false, some FieldType.int) := rfl
theorem cg84_0 : mc_cd 84 0 = some (.iload_n 1, 1) ∧ mc_cd 84 1 = some (.ifCond .ne 5, 3) ∧ mc_cd 84 4 = some (.iconst 1, 1) ∧ mc_cd 84 5 = some (.ireturn, 1) ∧ mc_cd 84 6 = some (.aload_n 0, 1) ∧ mc_cd 84 7 = some (.getfield 51, 3) ∧ mc_cd 84 10 = some (.getfield 141, 3) ∧ mc_cd 84 13 = some (.ldc2_w 348, 3) := by decide +kernel
theorem c84_0 : mc_cd 84 0 = some (.iload_n 1, 1) := cg84_0.1
theorem c84_1 : mc_cd 84 1 = some (.ifCond .ne 5, 3) := cg84_0.2.1
theorem c84_4 : mc_cd 84 4 = some (.iconst 1, 1) := cg84_0.2.2.1
theorem c84_5 : mc_cd 84 5 = some (.ireturn, 1) := cg84_0.2.2.2.1
theorem c84_6 : mc_cd 84 6 = some (.aload_n 0, 1) := cg84_0.2.2.2.2.1
theorem c84_7 : mc_cd 84 7 = some (.getfield 51, 3) := cg84_0.2.2.2.2.2.1
theorem c84_10 : mc_cd 84 10 = some (.getfield 141, 3) := cg84_0.2.2.2.2.2.2.1
theorem c84_13 : mc_cd 84 13 = some (.ldc2_w 348, 3) := cg84_0.2.2.2.2.2.2.2
theorem cg84_16 : mc_cd 84 16 = some (.lcmp, 1) ∧ mc_cd 84 17 = some (.ifCond .le 7, 3) ∧ mc_cd 84 20 = some (.iconst 3, 1) ∧ mc_cd 84 21 = some (.goto 4, 3) ∧ mc_cd 84 24 = some (.iconst 0, 1) ∧ mc_cd 84 25 = some (.ireturn, 1) := by decide +kernel
theorem c84_16 : mc_cd 84 16 = some (.lcmp, 1) := cg84_16.1
theorem c84_17 : mc_cd 84 17 = some (.ifCond .le 7, 3) := cg84_16.2.1
theorem c84_20 : mc_cd 84 20 = some (.iconst 3, 1) := cg84_16.2.2.1
theorem c84_21 : mc_cd 84 21 = some (.goto 4, 3) := cg84_16.2.2.2.1
theorem c84_24 : mc_cd 84 24 = some (.iconst 0, 1) := cg84_16.2.2.2.2.1
theorem c84_25 : mc_cd 84 25 = some (.ireturn, 1) := cg84_16.2.2.2.2.2
abbrev q_84 (r0 : Nat) (a1 : Int) (T : wq_T) (H : wq_H) : Option Value → wq_T → wq_H → Prop := fun r T' H' => T = T' ∧ H = H' ∧ ∃ z : Int, some (vI z) = r ∧ (0 ≤ z ∧ z ≤ 6) ∧ (z ≠ 0 ∨ a1 = 1)
set_option maxHeartbeats 4000000 in
theorem s_84 {kt : Nat → Option mc_E} {T : wq_T} {H : wq_H} {r0 : Nat} {a1 : Int} (hW : WT T H) (g0 : T.2.2.2 r0 = some 1) (i1 : 0 ≤ a1 ∧ a1 ≤ 1) : wpc kt 1 84 [.ref r0, vI a1] T H (q_84 r0 a1 T H) := by
  refine wp_enter e84 (Nat.le_of_ble_eq_true rfl) rfl ?_
  show wp _ _ 84 0 [(0, .ref r0), (1, vI a1)] [] _ H _
  refine wp_of e84 c84_0 (rw_iload_n (pc' := 1) (z := a1) rfl rfl ?_)
  refine wp_of e84 c84_1 (rw_if_ne (p1 := 6) (p2 := 4) (by decide) rfl ⟨by omega, by omega⟩ (fun c20770 => ?_) (fun c20770 => ?_))
  · refine wp_of e84 c84_6 (rw_aload_n (pc' := 7) (v := .ref r0) rfl rfl rfl ?_)
    refine wp_of e84 c84_7 (xg_R (pc' := 10) lf_0_51 hW g0 sh_1 (by decide) (by decide) ty_1_6 rfl rfl (fun r20771 q20772 g20773 => ?_))
    refine wp_of e84 c84_10 (xg_L (pc' := 13) lf_0_141 hW g20773 sh_27 (by decide) (by decide) ty_27_18 rfl rfl (fun b20774 b20775 => ?_))
    refine wp_of e84 c84_13 (rw_ldc2 (pc' := 16) (z := 20000) rfl rfl rfl ?_)
    refine wp_of e84 c84_16 (rw_lcmp (pc' := 17) rfl ⟨by omega, by omega⟩ ⟨by omega, by omega⟩ ?_)
    have b20776 := wq_cmp_b (H r20771 18) 20000
    refine wp_of e84 c84_17 (rw_if_le (p1 := 24) (p2 := 20) (by decide) rfl ⟨by omega, by omega⟩ (fun c20777 => ?_) (fun c20777 => ?_))
    · refine wp_of e84 c84_24 (rw_iconst (pc' := 25) rfl ?_)
      exact wp_ireturn e84 c84_25 rfl ⟨rfl, rfl, 0, rfl, ⟨by omega, by omega⟩, by omega⟩
    · refine wp_of e84 c84_20 (rw_iconst (pc' := 21) rfl ?_)
      refine wp_of e84 c84_21 (rw_goto (p1 := 25) (by decide) ?_)
      exact wp_ireturn e84 c84_25 rfl ⟨rfl, rfl, 3, rfl, ⟨by omega, by omega⟩, by omega⟩
  · refine wp_of e84 c84_4 (rw_iconst (pc' := 5) rfl ?_)
    exact wp_ireturn e84 c84_5 rfl ⟨rfl, rfl, 1, rfl, ⟨by omega, by omega⟩, by omega⟩
/-! StrikeAwake$Census.clear()V -/
theorem e86 : wq_en 86 = some (4, 3, false, none) := rfl
theorem cg86_0 : mc_cd 86 0 = some (.iconst 0, 1) ∧ mc_cd 86 1 = some (.istore_n 1, 1) ∧ mc_cd 86 2 = some (.iload_n 1, 1) ∧ mc_cd 86 3 = some (.aload_n 0, 1) ∧ mc_cd 86 4 = some (.getfield 11, 3) ∧ mc_cd 86 7 = some (.arraylength, 1) ∧ mc_cd 86 8 = some (.if_icmp .ge 16, 3) ∧ mc_cd 86 11 = some (.aload_n 0, 1) := by decide +kernel
theorem c86_0 : mc_cd 86 0 = some (.iconst 0, 1) := cg86_0.1
theorem c86_1 : mc_cd 86 1 = some (.istore_n 1, 1) := cg86_0.2.1
theorem c86_2 : mc_cd 86 2 = some (.iload_n 1, 1) := cg86_0.2.2.1
theorem c86_3 : mc_cd 86 3 = some (.aload_n 0, 1) := cg86_0.2.2.2.1
theorem c86_4 : mc_cd 86 4 = some (.getfield 11, 3) := cg86_0.2.2.2.2.1
theorem c86_7 : mc_cd 86 7 = some (.arraylength, 1) := cg86_0.2.2.2.2.2.1
theorem c86_8 : mc_cd 86 8 = some (.if_icmp .ge 16, 3) := cg86_0.2.2.2.2.2.2.1
theorem c86_11 : mc_cd 86 11 = some (.aload_n 0, 1) := cg86_0.2.2.2.2.2.2.2
theorem cg86_12 : mc_cd 86 12 = some (.getfield 11, 3) ∧ mc_cd 86 15 = some (.iload_n 1, 1) ∧ mc_cd 86 16 = some (.lconst 0, 1) ∧ mc_cd 86 17 = some (.lastore, 1) ∧ mc_cd 86 18 = some (.iinc 1 1, 3) ∧ mc_cd 86 21 = some (.goto (-19), 3) ∧ mc_cd 86 24 = some (.iconst 0, 1) ∧ mc_cd 86 25 = some (.istore_n 1, 1) := by decide +kernel
theorem c86_12 : mc_cd 86 12 = some (.getfield 11, 3) := cg86_12.1
theorem c86_15 : mc_cd 86 15 = some (.iload_n 1, 1) := cg86_12.2.1
theorem c86_16 : mc_cd 86 16 = some (.lconst 0, 1) := cg86_12.2.2.1
theorem c86_17 : mc_cd 86 17 = some (.lastore, 1) := cg86_12.2.2.2.1
theorem c86_18 : mc_cd 86 18 = some (.iinc 1 1, 3) := cg86_12.2.2.2.2.1
theorem c86_21 : mc_cd 86 21 = some (.goto (-19), 3) := cg86_12.2.2.2.2.2.1
theorem c86_24 : mc_cd 86 24 = some (.iconst 0, 1) := cg86_12.2.2.2.2.2.2.1
theorem c86_25 : mc_cd 86 25 = some (.istore_n 1, 1) := cg86_12.2.2.2.2.2.2.2
theorem cg86_26 : mc_cd 86 26 = some (.iload_n 1, 1) ∧ mc_cd 86 27 = some (.bipush 6, 2) ∧ mc_cd 86 29 = some (.if_icmp .ge 41, 3) ∧ mc_cd 86 32 = some (.iconst 0, 1) ∧ mc_cd 86 33 = some (.istore_n 2, 1) ∧ mc_cd 86 34 = some (.iload_n 2, 1) ∧ mc_cd 86 35 = some (.bipush 40, 2) ∧ mc_cd 86 37 = some (.if_icmp .ge 27, 3) := by decide +kernel
theorem c86_26 : mc_cd 86 26 = some (.iload_n 1, 1) := cg86_26.1
theorem c86_27 : mc_cd 86 27 = some (.bipush 6, 2) := cg86_26.2.1
theorem c86_29 : mc_cd 86 29 = some (.if_icmp .ge 41, 3) := cg86_26.2.2.1
theorem c86_32 : mc_cd 86 32 = some (.iconst 0, 1) := cg86_26.2.2.2.1
theorem c86_33 : mc_cd 86 33 = some (.istore_n 2, 1) := cg86_26.2.2.2.2.1
theorem c86_34 : mc_cd 86 34 = some (.iload_n 2, 1) := cg86_26.2.2.2.2.2.1
theorem c86_35 : mc_cd 86 35 = some (.bipush 40, 2) := cg86_26.2.2.2.2.2.2.1
theorem c86_37 : mc_cd 86 37 = some (.if_icmp .ge 27, 3) := cg86_26.2.2.2.2.2.2.2
theorem cg86_40 : mc_cd 86 40 = some (.aload_n 0, 1) ∧ mc_cd 86 41 = some (.getfield 17, 3) ∧ mc_cd 86 44 = some (.iload_n 1, 1) ∧ mc_cd 86 45 = some (.aaload, 1) ∧ mc_cd 86 46 = some (.iload_n 2, 1) ∧ mc_cd 86 47 = some (.iconst 0, 1) ∧ mc_cd 86 48 = some (.iastore, 1) ∧ mc_cd 86 49 = some (.aload_n 0, 1) := by decide +kernel
theorem c86_40 : mc_cd 86 40 = some (.aload_n 0, 1) := cg86_40.1
theorem c86_41 : mc_cd 86 41 = some (.getfield 17, 3) := cg86_40.2.1
theorem c86_44 : mc_cd 86 44 = some (.iload_n 1, 1) := cg86_40.2.2.1
theorem c86_45 : mc_cd 86 45 = some (.aaload, 1) := cg86_40.2.2.2.1
theorem c86_46 : mc_cd 86 46 = some (.iload_n 2, 1) := cg86_40.2.2.2.2.1
theorem c86_47 : mc_cd 86 47 = some (.iconst 0, 1) := cg86_40.2.2.2.2.2.1
theorem c86_48 : mc_cd 86 48 = some (.iastore, 1) := cg86_40.2.2.2.2.2.2.1
theorem c86_49 : mc_cd 86 49 = some (.aload_n 0, 1) := cg86_40.2.2.2.2.2.2.2
theorem cg86_50 : mc_cd 86 50 = some (.getfield 22, 3) ∧ mc_cd 86 53 = some (.iload_n 1, 1) ∧ mc_cd 86 54 = some (.aaload, 1) ∧ mc_cd 86 55 = some (.iload_n 2, 1) ∧ mc_cd 86 56 = some (.lconst 0, 1) ∧ mc_cd 86 57 = some (.lastore, 1) ∧ mc_cd 86 58 = some (.iinc 2 1, 3) ∧ mc_cd 86 61 = some (.goto (-27), 3) := by decide +kernel
theorem c86_50 : mc_cd 86 50 = some (.getfield 22, 3) := cg86_50.1
theorem c86_53 : mc_cd 86 53 = some (.iload_n 1, 1) := cg86_50.2.1
theorem c86_54 : mc_cd 86 54 = some (.aaload, 1) := cg86_50.2.2.1
theorem c86_55 : mc_cd 86 55 = some (.iload_n 2, 1) := cg86_50.2.2.2.1
theorem c86_56 : mc_cd 86 56 = some (.lconst 0, 1) := cg86_50.2.2.2.2.1
theorem c86_57 : mc_cd 86 57 = some (.lastore, 1) := cg86_50.2.2.2.2.2.1
theorem c86_58 : mc_cd 86 58 = some (.iinc 2 1, 3) := cg86_50.2.2.2.2.2.2.1
theorem c86_61 : mc_cd 86 61 = some (.goto (-27), 3) := cg86_50.2.2.2.2.2.2.2
theorem cg86_64 : mc_cd 86 64 = some (.iinc 1 1, 3) ∧ mc_cd 86 67 = some (.goto (-41), 3) ∧ mc_cd 86 70 = some (.aload_n 0, 1) ∧ mc_cd 86 71 = some (.iconst 0, 1) ∧ mc_cd 86 72 = some (.putfield 62, 3) ∧ mc_cd 86 75 = some (.aload_n 0, 1) ∧ mc_cd 86 76 = some (.lconst 0, 1) ∧ mc_cd 86 77 = some (.putfield 66, 3) := by decide +kernel
theorem c86_64 : mc_cd 86 64 = some (.iinc 1 1, 3) := cg86_64.1
theorem c86_67 : mc_cd 86 67 = some (.goto (-41), 3) := cg86_64.2.1
theorem c86_70 : mc_cd 86 70 = some (.aload_n 0, 1) := cg86_64.2.2.1
theorem c86_71 : mc_cd 86 71 = some (.iconst 0, 1) := cg86_64.2.2.2.1
theorem c86_72 : mc_cd 86 72 = some (.putfield 62, 3) := cg86_64.2.2.2.2.1
theorem c86_75 : mc_cd 86 75 = some (.aload_n 0, 1) := cg86_64.2.2.2.2.2.1
theorem c86_76 : mc_cd 86 76 = some (.lconst 0, 1) := cg86_64.2.2.2.2.2.2.1
theorem c86_77 : mc_cd 86 77 = some (.putfield 66, 3) := cg86_64.2.2.2.2.2.2.2
theorem cg86_80 : mc_cd 86 80 = some (.aload_n 0, 1) ∧ mc_cd 86 81 = some (.iconst 0, 1) ∧ mc_cd 86 82 = some (.putfield 69, 3) ∧ mc_cd 86 85 = some (.aload_n 0, 1) ∧ mc_cd 86 86 = some (.lconst 0, 1) ∧ mc_cd 86 87 = some (.putfield 72, 3) ∧ mc_cd 86 90 = some (.return_, 1) := by decide +kernel
theorem c86_80 : mc_cd 86 80 = some (.aload_n 0, 1) := cg86_80.1
theorem c86_81 : mc_cd 86 81 = some (.iconst 0, 1) := cg86_80.2.1
theorem c86_82 : mc_cd 86 82 = some (.putfield 69, 3) := cg86_80.2.2.1
theorem c86_85 : mc_cd 86 85 = some (.aload_n 0, 1) := cg86_80.2.2.2.1
theorem c86_86 : mc_cd 86 86 = some (.lconst 0, 1) := cg86_80.2.2.2.2.1
theorem c86_87 : mc_cd 86 87 = some (.putfield 72, 3) := cg86_80.2.2.2.2.2.1
theorem c86_90 : mc_cd 86 90 = some (.return_, 1) := cg86_80.2.2.2.2.2.2
abbrev q_86 (r0 : Nat) (T : wq_T) (H : wq_H) : Option Value → wq_T → wq_H → Prop := fun r T' H' => T = T' ∧ WT T H' ∧ wfr [(12, 5), (12, 6), (12, 7), (12, 8), (15, 999), (17, 999), (13, 999)] T H H' ∧ none = r
set_option maxHeartbeats 4000000 in
theorem s_86 {kt : Nat → Option mc_E} {T : wq_T} {H : wq_H} {r0 : Nat} (hW : WT T H) (g0 : T.2.2.2 r0 = some 12) : wpc kt 1 86 [.ref r0] T H (q_86 r0 T H) := by
  refine wp_enter e86 (Nat.le_of_ble_eq_true rfl) rfl ?_
  have f0 : wfr [(12, 5), (12, 6), (12, 7), (12, 8), (15, 999), (17, 999), (13, 999)] T H H := wfr.rf
  show wp _ _ 86 0 [(0, .ref r0)] [] _ H _
  refine wp_of e86 c86_0 (rw_iconst (pc' := 1) rfl ?_)
  refine wp_of e86 c86_1 (rw_istore_n (pc' := 2) (z := 0) (L' := [(1, vI 0), (0, .ref r0)]) rfl rfl rfl ?_)
  have lp22464 : ∀ (n22465 : Nat) (v22467 : Int) (H22468 : wq_H), WT T H22468 → wfr [(13, 999)] T H H22468 → (0 ≤ v22467 ∧ v22467 ≤ 313) → (313 - v22467).toNat = n22465 → wp kt 0 86 2 [(1, vI v22467), (0, .ref r0)] [] T H22468 (q_86 r0 T H) := by
    intro n22465
    induction n22465 using Nat.strongRecOn with
    | _ n22465 ih22466 =>
      intro v22467 H22468 w22469 f22470 b22471 m22472
      have f22473 := f0.tr f22470 rfl
      refine wp_of e86 c86_2 (rw_iload_n (pc' := 3) (z := v22467) rfl rfl ?_)
      refine wp_of e86 c86_3 (rw_aload_n (pc' := 4) (v := .ref r0) rfl rfl rfl ?_)
      refine wp_of e86 c86_4 (xg_R (pc' := 7) lf_4_11 w22469 g0 sh_12 (by decide) (by decide) ty_12_0 rfl rfl (fun r22474 q22475 g22476 => ?_))
      refine wp_of e86 c86_7 (xa_N (pc' := 8) (n := 313) w22469 g22476 sh_13 (by decide) rfl ?_)
      refine wp_of e86 c86_8 (rw_icmp_ge (p1 := 24) (p2 := 11) (by decide) rfl ⟨by omega, by omega⟩ ⟨by omega, by omega⟩ (fun c22477 => ?_) (fun c22477 => ?_))
      · refine wp_of e86 c86_24 (rw_iconst (pc' := 25) rfl ?_)
        refine wp_of e86 c86_25 (rw_istore_n (pc' := 26) (z := 0) (L' := [(1, vI 0), (0, .ref r0)]) rfl rfl rfl ?_)
        have lp23815 : ∀ (n23816 : Nat) (v23818 : Int) (H23819 : wq_H), WT T H23819 → wfr [(15, 999), (17, 999)] T H22468 H23819 → (0 ≤ v23818 ∧ v23818 ≤ 6) → (6 - v23818).toNat = n23816 → wp kt 0 86 26 [(1, vI v23818), (0, .ref r0)] [] T H23819 (q_86 r0 T H) := by
          intro n23816
          induction n23816 using Nat.strongRecOn with
          | _ n23816 ih23817 =>
            intro v23818 H23819 w23820 f23821 b23822 m23823
            have f23824 := f22473.tr f23821 rfl
            refine wp_of e86 c86_26 (rw_iload_n (pc' := 27) (z := v23818) rfl rfl ?_)
            refine wp_of e86 c86_27 (rw_bipush (pc' := 29) (z := 6) rfl (by decide) ?_)
            refine wp_of e86 c86_29 (rw_icmp_ge (p1 := 70) (p2 := 32) (by decide) rfl ⟨by omega, by omega⟩ ⟨by omega, by omega⟩ (fun c23825 => ?_) (fun c23825 => ?_))
            · refine wp_of e86 c86_70 (rw_aload_n (pc' := 71) (v := .ref r0) rfl rfl rfl ?_)
              refine wp_of e86 c86_71 (rw_iconst (pc' := 72) rfl ?_)
              refine wp_of e86 c86_72 (xp_I (pc' := 75) lf_4_62 w23820 g0 sh_12 (by decide) (by decide) ty_12_5 rfl rfl (by omega) (by omega) ⟨by omega, by omega⟩ rfl (fun H23826 e23827 w23828 => ?_))
              have f23829 := f23824.put' e23827 g0 rfl
              have k23830 : H23826 r0 5 = 0 := wq_u_s e23827
              refine wp_of e86 c86_75 (rw_aload_n (pc' := 76) (v := .ref r0) rfl rfl rfl ?_)
              refine wp_of e86 c86_76 (rw_lconst (pc' := 77) (z := 0) rfl rfl ?_)
              refine wp_of e86 c86_77 (xp_L (pc' := 80) lf_4_66 w23828 g0 sh_12 (by decide) (by decide) ty_12_6 rfl rfl (by omega) (by omega) ⟨by omega, by omega⟩ rfl (fun H23831 e23832 w23833 => ?_))
              have f23834 := f23829.put' e23832 g0 rfl
              have k23835 : H23831 r0 6 = 0 := wq_u_s e23832
              refine wp_of e86 c86_80 (rw_aload_n (pc' := 81) (v := .ref r0) rfl rfl rfl ?_)
              refine wp_of e86 c86_81 (rw_iconst (pc' := 82) rfl ?_)
              refine wp_of e86 c86_82 (xp_I (pc' := 85) lf_4_69 w23833 g0 sh_12 (by decide) (by decide) ty_12_7 rfl rfl (by omega) (by omega) ⟨by omega, by omega⟩ rfl (fun H23836 e23837 w23838 => ?_))
              have f23839 := f23834.put' e23837 g0 rfl
              have k23840 : H23836 r0 7 = 0 := wq_u_s e23837
              refine wp_of e86 c86_85 (rw_aload_n (pc' := 86) (v := .ref r0) rfl rfl rfl ?_)
              refine wp_of e86 c86_86 (rw_lconst (pc' := 87) (z := 0) rfl rfl ?_)
              refine wp_of e86 c86_87 (xp_L (pc' := 90) lf_4_72 w23838 g0 sh_12 (by decide) (by decide) ty_12_8 rfl rfl (by omega) (by omega) ⟨by omega, by omega⟩ rfl (fun H23841 e23842 w23843 => ?_))
              have f23844 := f23839.put' e23842 g0 rfl
              have k23845 : H23841 r0 8 = 0 := wq_u_s e23842
              exact wp_return e86 c86_90 rfl ⟨rfl, w23843, f23844, rfl⟩
            · refine wp_of e86 c86_32 (rw_iconst (pc' := 33) rfl ?_)
              refine wp_of e86 c86_33 (rw_istore_n (pc' := 34) (z := 0) (L' := [(2, vI 0), (1, vI v23818), (0, .ref r0)]) rfl rfl rfl ?_)
              have lp24030 : ∀ (n24031 : Nat) (v24033 : Int) (H24034 : wq_H), WT T H24034 → wfr [(15, 999), (17, 999)] T H23819 H24034 → (0 ≤ v24033 ∧ v24033 ≤ 40) → (40 - v24033).toNat = n24031 → wp kt 0 86 34 [(2, vI v24033), (1, vI v23818), (0, .ref r0)] [] T H24034 (q_86 r0 T H) := by
                intro n24031
                induction n24031 using Nat.strongRecOn with
                | _ n24031 ih24032 =>
                  intro v24033 H24034 w24035 f24036 b24037 m24038
                  have f24039 := f23824.tr f24036 rfl
                  have f24040 := f23821.tr f24036 rfl
                  refine wp_of e86 c86_34 (rw_iload_n (pc' := 35) (z := v24033) rfl rfl ?_)
                  refine wp_of e86 c86_35 (rw_bipush (pc' := 37) (z := 40) rfl (by decide) ?_)
                  refine wp_of e86 c86_37 (rw_icmp_ge (p1 := 64) (p2 := 40) (by decide) rfl ⟨by omega, by omega⟩ ⟨by omega, by omega⟩ (fun c24041 => ?_) (fun c24041 => ?_))
                  · refine wp_of e86 c86_64 (rw_iinc (pc' := 67) (z := v23818) (L' := [(1, vI (v23818 + 1)), (2, vI v24033), (0, .ref r0)]) rfl rfl rfl rfl ?_)
                    refine wp_of e86 c86_67 (rw_goto (p1 := 26) (by decide) ?_)
                    exact wp_lc (ks := [1, 2, 0]) (wl_c rfl (wl_c rfl wl_n)) rfl (by decide) (ih23817 _ (by omega) (v23818 + 1) H24034 w24035 f24040 ⟨by omega, by omega⟩ rfl)
                  · refine wp_of e86 c86_40 (rw_aload_n (pc' := 41) (v := .ref r0) rfl rfl rfl ?_)
                    refine wp_of e86 c86_41 (xg_R (pc' := 44) lf_4_17 w24035 g0 sh_12 (by decide) (by decide) ty_12_1 rfl rfl (fun r24042 q24043 g24044 => ?_))
                    refine wp_of e86 c86_44 (rw_iload_n (pc' := 45) (z := v23818) rfl rfl ?_)
                    refine wp_of e86 c86_45 (xa_R (pc' := 46) (by decide) w24035 g24044 sh_14 (by decide) (ty_14 _) (by omega) (by omega) rfl (fun r24045 q24046 g24047 => ?_))
                    refine wp_of e86 c86_46 (rw_iload_n (pc' := 47) (z := v24033) rfl rfl ?_)
                    refine wp_of e86 c86_47 (rw_iconst (pc' := 48) rfl ?_)
                    refine wp_of e86 c86_48 (xs_I (pc' := 49) w24035 g24047 (by decide) sh_15 (by decide) (ty_15 _) (by omega) (by omega) ⟨by omega, by omega⟩ (by omega) (by omega) rfl (fun H24048 e24049 w24050 => ?_))
                    have f24051 := f24039.put' e24049 g24047 rfl
                    have f24052 := f24040.put' e24049 g24047 rfl
                    have f24053 := f24036.put' e24049 g24047 rfl
                    refine wp_of e86 c86_49 (rw_aload_n (pc' := 50) (v := .ref r0) rfl rfl rfl ?_)
                    refine wp_of e86 c86_50 (xg_R (pc' := 53) lf_4_22 w24050 g0 sh_12 (by decide) (by decide) ty_12_2 rfl rfl (fun r24054 q24055 g24056 => ?_))
                    refine wp_of e86 c86_53 (rw_iload_n (pc' := 54) (z := v23818) rfl rfl ?_)
                    refine wp_of e86 c86_54 (xa_R (pc' := 55) (by decide) w24050 g24056 sh_16 (by decide) (ty_16 _) (by omega) (by omega) rfl (fun r24057 q24058 g24059 => ?_))
                    refine wp_of e86 c86_55 (rw_iload_n (pc' := 56) (z := v24033) rfl rfl ?_)
                    refine wp_of e86 c86_56 (rw_lconst (pc' := 57) (z := 0) rfl rfl ?_)
                    refine wp_of e86 c86_57 (xs_L (pc' := 58) w24050 g24059 (by decide) sh_17 (by decide) (ty_17 _) (by omega) (by omega) ⟨by omega, by omega⟩ (by omega) (by omega) rfl (fun H24060 e24061 w24062 => ?_))
                    have f24063 := f24051.put' e24061 g24059 rfl
                    have f24064 := f24052.put' e24061 g24059 rfl
                    have f24065 := f24053.put' e24061 g24059 rfl
                    refine wp_of e86 c86_58 (rw_iinc (pc' := 61) (z := v24033) (L' := [(2, vI (v24033 + 1)), (1, vI v23818), (0, .ref r0)]) rfl rfl rfl rfl ?_)
                    refine wp_of e86 c86_61 (rw_goto (p1 := 34) (by decide) ?_)
                    exact wp_lc (ks := [2, 1, 0]) (wl_c rfl (wl_c rfl (wl_c rfl wl_n))) rfl (by decide) (ih24032 _ (by omega) (v24033 + 1) H24060 w24062 f24065 ⟨by omega, by omega⟩ rfl)
              exact wp_lc (ks := [2, 1, 0]) (wl_c rfl (wl_c rfl (wl_c rfl wl_n))) rfl (by decide) (lp24030 _ 0 H23819 w23820 wfr.rf ⟨by omega, by omega⟩ rfl)
        exact wp_lc (ks := [1, 0]) (wl_c rfl (wl_c rfl wl_n)) rfl (by decide) (lp23815 _ 0 H22468 w22469 wfr.rf ⟨by omega, by omega⟩ rfl)
      · refine wp_of e86 c86_11 (rw_aload_n (pc' := 12) (v := .ref r0) rfl rfl rfl ?_)
        refine wp_of e86 c86_12 (xg_K (pc' := 15) lf_4_11 w22469 g0 sh_12 (by decide) (by decide) rfl q22475 rfl ?_)
        refine wp_of e86 c86_15 (rw_iload_n (pc' := 16) (z := v22467) rfl rfl ?_)
        refine wp_of e86 c86_16 (rw_lconst (pc' := 17) (z := 0) rfl rfl ?_)
        refine wp_of e86 c86_17 (xs_L (pc' := 18) w22469 g22476 (by decide) sh_13 (by decide) (ty_13 _) (by omega) (by omega) ⟨by omega, by omega⟩ (by omega) (by omega) rfl (fun H24066 e24067 w24068 => ?_))
        have f24069 := f22473.put' e24067 g22476 rfl
        have f24070 := f22470.put' e24067 g22476 rfl
        refine wp_of e86 c86_18 (rw_iinc (pc' := 21) (z := v22467) (L' := [(1, vI (v22467 + 1)), (0, .ref r0)]) rfl rfl rfl rfl ?_)
        refine wp_of e86 c86_21 (rw_goto (p1 := 2) (by decide) ?_)
        exact wp_lc (ks := [1, 0]) (wl_c rfl (wl_c rfl wl_n)) rfl (by decide) (ih22466 _ (by omega) (v22467 + 1) H24066 w24068 f24070 ⟨by omega, by omega⟩ rfl)
  exact wp_lc (ks := [1, 0]) (wl_c rfl (wl_c rfl wl_n)) rfl (by decide) (lp22464 _ 0 H hW wfr.rf ⟨by omega, by omega⟩ rfl)
/-! StrikeAwake$Walk.toFirst(LStrikeAwake$Parish;)V -/
theorem e87 : wq_en 87 = some (3, 3, false, none) := rfl
theorem cg87_0 : mc_cd 87 0 = some (.iconst 0, 1) ∧ mc_cd 87 1 = some (.istore_n 2, 1) ∧ mc_cd 87 2 = some (.iload_n 2, 1) ∧ mc_cd 87 3 = some (.bipush 6, 2) ∧ mc_cd 87 5 = some (.if_icmp .ge 16, 3) ∧ mc_cd 87 8 = some (.aload_n 0, 1) ∧ mc_cd 87 9 = some (.getfield 9, 3) ∧ mc_cd 87 12 = some (.iload_n 2, 1) := by decide +kernel
theorem c87_0 : mc_cd 87 0 = some (.iconst 0, 1) := cg87_0.1
theorem c87_1 : mc_cd 87 1 = some (.istore_n 2, 1) := cg87_0.2.1
theorem c87_2 : mc_cd 87 2 = some (.iload_n 2, 1) := cg87_0.2.2.1
theorem c87_3 : mc_cd 87 3 = some (.bipush 6, 2) := cg87_0.2.2.2.1
theorem c87_5 : mc_cd 87 5 = some (.if_icmp .ge 16, 3) := cg87_0.2.2.2.2.1
theorem c87_8 : mc_cd 87 8 = some (.aload_n 0, 1) := cg87_0.2.2.2.2.2.1
theorem c87_9 : mc_cd 87 9 = some (.getfield 9, 3) := cg87_0.2.2.2.2.2.2.1
theorem c87_12 : mc_cd 87 12 = some (.iload_n 2, 1) := cg87_0.2.2.2.2.2.2.2
theorem cg87_13 : mc_cd 87 13 = some (.iconst 0, 1) ∧ mc_cd 87 14 = some (.iastore, 1) ∧ mc_cd 87 15 = some (.iinc 2 1, 3) ∧ mc_cd 87 18 = some (.goto (-16), 3) ∧ mc_cd 87 21 = some (.aload_n 0, 1) ∧ mc_cd 87 22 = some (.aload_n 1, 1) ∧ mc_cd 87 23 = some (.invokevirtual 28, 3) ∧ mc_cd 87 26 = some (.aload_n 0, 1) := by decide +kernel
theorem c87_13 : mc_cd 87 13 = some (.iconst 0, 1) := cg87_13.1
theorem c87_14 : mc_cd 87 14 = some (.iastore, 1) := cg87_13.2.1
theorem c87_15 : mc_cd 87 15 = some (.iinc 2 1, 3) := cg87_13.2.2.1
theorem c87_18 : mc_cd 87 18 = some (.goto (-16), 3) := cg87_13.2.2.2.1
theorem c87_21 : mc_cd 87 21 = some (.aload_n 0, 1) := cg87_13.2.2.2.2.1
theorem c87_22 : mc_cd 87 22 = some (.aload_n 1, 1) := cg87_13.2.2.2.2.2.1
theorem c87_23 : mc_cd 87 23 = some (.invokevirtual 28, 3) := cg87_13.2.2.2.2.2.2.1
theorem c87_26 : mc_cd 87 26 = some (.aload_n 0, 1) := cg87_13.2.2.2.2.2.2.2
theorem cg87_27 : mc_cd 87 27 = some (.aload_n 1, 1) ∧ mc_cd 87 28 = some (.iconst 0, 1) ∧ mc_cd 87 29 = some (.invokevirtual 32, 3) ∧ mc_cd 87 32 = some (.return_, 1) := by decide +kernel
theorem c87_27 : mc_cd 87 27 = some (.aload_n 1, 1) := cg87_27.1
theorem c87_28 : mc_cd 87 28 = some (.iconst 0, 1) := cg87_27.2.1
theorem c87_29 : mc_cd 87 29 = some (.invokevirtual 32, 3) := cg87_27.2.2.1
theorem c87_32 : mc_cd 87 32 = some (.return_, 1) := cg87_27.2.2.2
abbrev q_87 (r0 : Nat) (r1 : Nat) (T : wq_T) (H : wq_H) : Option Value → wq_T → wq_H → Prop := fun r T' H' => T = T' ∧ WT T H' ∧ wfr [(6, 5), (8, 999), (10, 999), (9, 999), (7, 999), (11, 999)] T H H' ∧ none = r
set_option maxHeartbeats 4000000 in
theorem s_87 {kt : Nat → Option mc_E} {T : wq_T} {H : wq_H} {r0 : Nat} {r1 : Nat} (hW : WT T H) (g0 : T.2.2.2 r0 = some 6) (g1 : T.2.2.2 r1 = some 27) : wpc kt 3 87 [.ref r0, .ref r1] T H (q_87 r0 r1 T H) := by
  refine wp_enter e87 (Nat.le_of_ble_eq_true rfl) rfl ?_
  have f0 : wfr [(6, 5), (8, 999), (10, 999), (9, 999), (7, 999), (11, 999)] T H H := wfr.rf
  show wp _ _ 87 0 [(0, .ref r0), (1, .ref r1)] [] _ H _
  refine wp_of e87 c87_0 (rw_iconst (pc' := 1) rfl ?_)
  refine wp_of e87 c87_1 (rw_istore_n (pc' := 2) (z := 0) (L' := [(2, vI 0), (0, .ref r0), (1, .ref r1)]) rfl rfl rfl ?_)
  have lp24210 : ∀ (n24211 : Nat) (v24213 : Int) (H24214 : wq_H), WT T H24214 → wfr [(7, 999)] T H H24214 → (0 ≤ v24213 ∧ v24213 ≤ 6) → (6 - v24213).toNat = n24211 → wp kt 2 87 2 [(2, vI v24213), (0, .ref r0), (1, .ref r1)] [] T H24214 (q_87 r0 r1 T H) := by
    intro n24211
    induction n24211 using Nat.strongRecOn with
    | _ n24211 ih24212 =>
      intro v24213 H24214 w24215 f24216 b24217 m24218
      have f24219 := f0.tr f24216 rfl
      refine wp_of e87 c87_2 (rw_iload_n (pc' := 3) (z := v24213) rfl rfl ?_)
      refine wp_of e87 c87_3 (rw_bipush (pc' := 5) (z := 6) rfl (by decide) ?_)
      refine wp_of e87 c87_5 (rw_icmp_ge (p1 := 21) (p2 := 8) (by decide) rfl ⟨by omega, by omega⟩ ⟨by omega, by omega⟩ (fun c24220 => ?_) (fun c24220 => ?_))
      · refine wp_of e87 c87_21 (rw_aload_n (pc' := 22) (v := .ref r0) rfl rfl rfl ?_)
        refine wp_of e87 c87_22 (rw_aload_n (pc' := 23) (v := .ref r1) rfl rfl rfl ?_)
        refine wp_of e87 c87_23 (xc_V (pc' := 26) (r := r0) (as := [.ref r1]) (st := []) (lm_3_28) rfl rfl (Nat.le_of_ble_eq_true rfl) w24215 g0 sh_6 (by decide) rfl (by decide) (s_69 w24215 g0 g1) (fun R24221 T24222 H24223 p24224 => ?_))
        obtain ⟨e24225, w24227, f24228, e24226⟩ := p24224
        subst e24225
        subst e24226
        have f24229 := f24219.tr f24228 rfl
        show wp _ _ 87 26 [(2, vI v24213), (0, .ref r0), (1, .ref r1)] [] _ H24223 _
        refine wp_of e87 c87_26 (rw_aload_n (pc' := 27) (v := .ref r0) rfl rfl rfl ?_)
        refine wp_of e87 c87_27 (rw_aload_n (pc' := 28) (v := .ref r1) rfl rfl rfl ?_)
        refine wp_of e87 c87_28 (rw_iconst (pc' := 29) rfl ?_)
        refine wp_of e87 c87_29 (xc_V (pc' := 32) (r := r0) (as := [.ref r1, vI 0]) (st := []) (lm_3_32) rfl rfl (Nat.le_of_ble_eq_true rfl) w24227 g0 sh_6 (by decide) rfl (by decide) (s_70 w24227 g0 g1 ⟨by omega, by omega⟩) (fun R24230 T24231 H24232 p24233 => ?_))
        obtain ⟨e24234, w24236, f24237, e24235⟩ := p24233
        subst e24234
        subst e24235
        have f24238 := f24229.tr f24237 rfl
        show wp _ _ 87 32 [(2, vI v24213), (0, .ref r0), (1, .ref r1)] [] _ H24232 _
        exact wp_return e87 c87_32 rfl ⟨rfl, w24236, f24238, rfl⟩
      · refine wp_of e87 c87_8 (rw_aload_n (pc' := 9) (v := .ref r0) rfl rfl rfl ?_)
        refine wp_of e87 c87_9 (xg_R (pc' := 12) lf_3_9 w24215 g0 sh_6 (by decide) (by decide) ty_6_0 rfl rfl (fun r24239 q24240 g24241 => ?_))
        refine wp_of e87 c87_12 (rw_iload_n (pc' := 13) (z := v24213) rfl rfl ?_)
        refine wp_of e87 c87_13 (rw_iconst (pc' := 14) rfl ?_)
        refine wp_of e87 c87_14 (xs_I (pc' := 15) w24215 g24241 (by decide) sh_7 (by decide) (ty_7 _) (by omega) (by omega) ⟨by omega, by omega⟩ (by omega) (by omega) rfl (fun H24242 e24243 w24244 => ?_))
        have f24245 := f24219.put' e24243 g24241 rfl
        have f24246 := f24216.put' e24243 g24241 rfl
        refine wp_of e87 c87_15 (rw_iinc (pc' := 18) (z := v24213) (L' := [(2, vI (v24213 + 1)), (0, .ref r0), (1, .ref r1)]) rfl rfl rfl rfl ?_)
        refine wp_of e87 c87_18 (rw_goto (p1 := 2) (by decide) ?_)
        exact wp_lc (ks := [2, 0, 1]) (wl_c rfl (wl_c rfl (wl_c rfl wl_n))) rfl (by decide) (ih24212 _ (by omega) (v24213 + 1) H24242 w24244 f24246 ⟨by omega, by omega⟩ rfl)
  exact wp_lc (ks := [2, 0, 1]) (wl_c rfl (wl_c rfl (wl_c rfl wl_n))) rfl (by decide) (lp24210 _ 0 H hW wfr.rf ⟨by omega, by omega⟩ rfl)
/-! StrikeAwake$Walk.pickOf(I)I -/
theorem e89 : wq_en 89 = some (3, 2, false, some FieldType.int) := rfl
theorem cg89_0 : mc_cd 89 0 = some (.aload_n 0, 1) ∧ mc_cd 89 1 = some (.getfield 9, 3) ∧ mc_cd 89 4 = some (.iload_n 1, 1) ∧ mc_cd 89 5 = some (.iaload, 1) ∧ mc_cd 89 6 = some (.ireturn, 1) := by decide +kernel
theorem c89_0 : mc_cd 89 0 = some (.aload_n 0, 1) := cg89_0.1
theorem c89_1 : mc_cd 89 1 = some (.getfield 9, 3) := cg89_0.2.1
theorem c89_4 : mc_cd 89 4 = some (.iload_n 1, 1) := cg89_0.2.2.1
theorem c89_5 : mc_cd 89 5 = some (.iaload, 1) := cg89_0.2.2.2.1
theorem c89_6 : mc_cd 89 6 = some (.ireturn, 1) := cg89_0.2.2.2.2
abbrev q_89 (r0 : Nat) (a1 : Int) (T : wq_T) (H : wq_H) : Option Value → wq_T → wq_H → Prop := fun r T' H' => T = T' ∧ H = H' ∧ ∃ z : Int, some (vI z) = r ∧ (0 ≤ z ∧ z ≤ 39)
set_option maxHeartbeats 4000000 in
theorem s_89 {kt : Nat → Option mc_E} {T : wq_T} {H : wq_H} {r0 : Nat} {a1 : Int} (hW : WT T H) (g0 : T.2.2.2 r0 = some 6) (i1 : 0 ≤ a1 ∧ a1 ≤ 5) : wpc kt 1 89 [.ref r0, vI a1] T H (q_89 r0 a1 T H) := by
  refine wp_enter e89 (Nat.le_of_ble_eq_true rfl) rfl ?_
  show wp _ _ 89 0 [(0, .ref r0), (1, vI a1)] [] _ H _
  refine wp_of e89 c89_0 (rw_aload_n (pc' := 1) (v := .ref r0) rfl rfl rfl ?_)
  refine wp_of e89 c89_1 (xg_R (pc' := 4) lf_3_9 hW g0 sh_6 (by decide) (by decide) ty_6_0 rfl rfl (fun r24252 q24253 g24254 => ?_))
  refine wp_of e89 c89_4 (rw_iload_n (pc' := 5) (z := a1) rfl rfl ?_)
  refine wp_of e89 c89_5 (xa_I (so := 0) (pc' := 6) hW g24254 sh_7 (by decide) (ty_7 _) (by omega) (by omega) rfl (fun b24255 b24256 => ?_))
  exact wp_ireturn e89 c89_6 rfl ⟨rfl, rfl, H r24252 (a1.toNat), rfl, ⟨by omega, by omega⟩⟩
/-! StrikeAwake$Census.enterDue(II)V -/
theorem e90 : wq_en 90 = some (4, 3, false, none) := rfl
theorem cg90_0 : mc_cd 90 0 = some (.aload_n 0, 1) ∧ mc_cd 90 1 = some (.getfield 25, 3) ∧ mc_cd 90 4 = some (.iload_n 1, 1) ∧ mc_cd 90 5 = some (.aload_n 0, 1) ∧ mc_cd 90 6 = some (.getfield 62, 3) ∧ mc_cd 90 9 = some (.ifCond .ne 7, 3) ∧ mc_cd 90 12 = some (.iload_n 2, 1) ∧ mc_cd 90 13 = some (.goto 13, 3) := by decide +kernel
theorem c90_0 : mc_cd 90 0 = some (.aload_n 0, 1) := cg90_0.1
theorem c90_1 : mc_cd 90 1 = some (.getfield 25, 3) := cg90_0.2.1
theorem c90_4 : mc_cd 90 4 = some (.iload_n 1, 1) := cg90_0.2.2.1
theorem c90_5 : mc_cd 90 5 = some (.aload_n 0, 1) := cg90_0.2.2.2.1
theorem c90_6 : mc_cd 90 6 = some (.getfield 62, 3) := cg90_0.2.2.2.2.1
theorem c90_9 : mc_cd 90 9 = some (.ifCond .ne 7, 3) := cg90_0.2.2.2.2.2.1
theorem c90_12 : mc_cd 90 12 = some (.iload_n 2, 1) := cg90_0.2.2.2.2.2.2.1
theorem c90_13 : mc_cd 90 13 = some (.goto 13, 3) := cg90_0.2.2.2.2.2.2.2
theorem cg90_16 : mc_cd 90 16 = some (.aload_n 0, 1) ∧ mc_cd 90 17 = some (.getfield 25, 3) ∧ mc_cd 90 20 = some (.iload_n 1, 1) ∧ mc_cd 90 21 = some (.iaload, 1) ∧ mc_cd 90 22 = some (.iload_n 2, 1) ∧ mc_cd 90 23 = some (.invokestatic 104, 3) ∧ mc_cd 90 26 = some (.iastore, 1) ∧ mc_cd 90 27 = some (.aload_n 0, 1) := by decide +kernel
theorem c90_16 : mc_cd 90 16 = some (.aload_n 0, 1) := cg90_16.1
theorem c90_17 : mc_cd 90 17 = some (.getfield 25, 3) := cg90_16.2.1
theorem c90_20 : mc_cd 90 20 = some (.iload_n 1, 1) := cg90_16.2.2.1
theorem c90_21 : mc_cd 90 21 = some (.iaload, 1) := cg90_16.2.2.2.1
theorem c90_22 : mc_cd 90 22 = some (.iload_n 2, 1) := cg90_16.2.2.2.2.1
theorem c90_23 : mc_cd 90 23 = some (.invokestatic 104, 3) := cg90_16.2.2.2.2.2.1
theorem c90_26 : mc_cd 90 26 = some (.iastore, 1) := cg90_16.2.2.2.2.2.2.1
theorem c90_27 : mc_cd 90 27 = some (.aload_n 0, 1) := cg90_16.2.2.2.2.2.2.2
theorem cg90_28 : mc_cd 90 28 = some (.getfield 29, 3) ∧ mc_cd 90 31 = some (.iload_n 1, 1) ∧ mc_cd 90 32 = some (.aload_n 0, 1) ∧ mc_cd 90 33 = some (.getfield 62, 3) ∧ mc_cd 90 36 = some (.ifCond .ne 7, 3) ∧ mc_cd 90 39 = some (.iload_n 2, 1) ∧ mc_cd 90 40 = some (.goto 13, 3) ∧ mc_cd 90 43 = some (.aload_n 0, 1) := by decide +kernel
theorem c90_28 : mc_cd 90 28 = some (.getfield 29, 3) := cg90_28.1
theorem c90_31 : mc_cd 90 31 = some (.iload_n 1, 1) := cg90_28.2.1
theorem c90_32 : mc_cd 90 32 = some (.aload_n 0, 1) := cg90_28.2.2.1
theorem c90_33 : mc_cd 90 33 = some (.getfield 62, 3) := cg90_28.2.2.2.1
theorem c90_36 : mc_cd 90 36 = some (.ifCond .ne 7, 3) := cg90_28.2.2.2.2.1
theorem c90_39 : mc_cd 90 39 = some (.iload_n 2, 1) := cg90_28.2.2.2.2.2.1
theorem c90_40 : mc_cd 90 40 = some (.goto 13, 3) := cg90_28.2.2.2.2.2.2.1
theorem c90_43 : mc_cd 90 43 = some (.aload_n 0, 1) := cg90_28.2.2.2.2.2.2.2
theorem cg90_44 : mc_cd 90 44 = some (.getfield 29, 3) ∧ mc_cd 90 47 = some (.iload_n 1, 1) ∧ mc_cd 90 48 = some (.iaload, 1) ∧ mc_cd 90 49 = some (.iload_n 2, 1) ∧ mc_cd 90 50 = some (.invokestatic 110, 3) ∧ mc_cd 90 53 = some (.iastore, 1) ∧ mc_cd 90 54 = some (.return_, 1) := by decide +kernel
theorem c90_44 : mc_cd 90 44 = some (.getfield 29, 3) := cg90_44.1
theorem c90_47 : mc_cd 90 47 = some (.iload_n 1, 1) := cg90_44.2.1
theorem c90_48 : mc_cd 90 48 = some (.iaload, 1) := cg90_44.2.2.1
theorem c90_49 : mc_cd 90 49 = some (.iload_n 2, 1) := cg90_44.2.2.2.1
theorem c90_50 : mc_cd 90 50 = some (.invokestatic 110, 3) := cg90_44.2.2.2.2.1
theorem c90_53 : mc_cd 90 53 = some (.iastore, 1) := cg90_44.2.2.2.2.2.1
theorem c90_54 : mc_cd 90 54 = some (.return_, 1) := cg90_44.2.2.2.2.2.2
abbrev q_90 (r0 : Nat) (a1 : Int) (a2 : Int) (T : wq_T) (H : wq_H) : Option Value → wq_T → wq_H → Prop := fun r T' H' => T = T' ∧ WT T H' ∧ wfr [(18, 999), (19, 999)] T H H' ∧ none = r
set_option maxHeartbeats 4000000 in
theorem s_90 {kt : Nat → Option mc_E} {T : wq_T} {H : wq_H} {r0 : Nat} {a1 : Int} {a2 : Int} (hW : WT T H) (g0 : T.2.2.2 r0 = some 12) (i1 : 0 ≤ a1 ∧ a1 ≤ 23) (i2 : (-2147483648) ≤ a2 ∧ a2 ≤ 2147483647) : wpc kt 1 90 [.ref r0, vI a1, vI a2] T H (q_90 r0 a1 a2 T H) := by
  refine wp_enter e90 (Nat.le_of_ble_eq_true rfl) rfl ?_
  have f0 : wfr [(18, 999), (19, 999)] T H H := wfr.rf
  show wp _ _ 90 0 [(0, .ref r0), (1, vI a1), (2, vI a2)] [] _ H _
  refine wp_of e90 c90_0 (rw_aload_n (pc' := 1) (v := .ref r0) rfl rfl rfl ?_)
  refine wp_of e90 c90_1 (xg_R (pc' := 4) lf_4_25 hW g0 sh_12 (by decide) (by decide) ty_12_3 rfl rfl (fun r24305 q24306 g24307 => ?_))
  refine wp_of e90 c90_4 (rw_iload_n (pc' := 5) (z := a1) rfl rfl ?_)
  refine wp_of e90 c90_5 (rw_aload_n (pc' := 6) (v := .ref r0) rfl rfl rfl ?_)
  refine wp_of e90 c90_6 (xg_I (pc' := 9) lf_4_62 hW g0 sh_12 (by decide) (by decide) ty_12_5 rfl rfl (fun b24308 b24309 => ?_))
  refine wp_of e90 c90_9 (rw_if_ne (p1 := 16) (p2 := 12) (by decide) rfl ⟨by omega, by omega⟩ (fun c24310 => ?_) (fun c24310 => ?_))
  · refine wp_of e90 c90_16 (rw_aload_n (pc' := 17) (v := .ref r0) rfl rfl rfl ?_)
    refine wp_of e90 c90_17 (xg_K (pc' := 20) lf_4_25 hW g0 sh_12 (by decide) (by decide) rfl q24306 rfl ?_)
    refine wp_of e90 c90_20 (rw_iload_n (pc' := 21) (z := a1) rfl rfl ?_)
    refine wp_of e90 c90_21 (xa_I (so := 0) (pc' := 22) hW g24307 sh_18 (by decide) (ty_18 _) (by omega) (by omega) rfl (fun b24311 b24312 => ?_))
    refine wp_of e90 c90_22 (rw_iload_n (pc' := 23) (z := a2) rfl rfl ?_)
    refine wp_of e90 c90_23 (rw_math2 (pc' := 26) (z := min (H r24305 (a1.toNat)) a2) rfl rfl ⟨by omega, by omega⟩ ⟨by omega, by omega⟩ (Or.inl ⟨rfl, rfl⟩) (Nat.le_of_ble_eq_true rfl) rfl ?_)
    obtain ⟨v24313, e24314⟩ : ∃ x : Int, x = min (H r24305 (a1.toNat)) a2 := ⟨_, rfl⟩
    rw [← e24314]
    have b24315 : v24313 = (H r24305 (a1.toNat)) ∨ v24313 = a2 := by
      rw [e24314]
      omega
    have b24316 : v24313 ≤ (H r24305 (a1.toNat)) ∧ v24313 ≤ a2 := by
      rw [e24314]
      omega
    refine wp_of e90 c90_26 (xs_I (pc' := 27) hW g24307 (by decide) sh_18 (by decide) (ty_18 _) (by omega) (by omega) ⟨by omega, by omega⟩ (by omega) (by omega) rfl (fun H24317 e24318 w24319 => ?_))
    have f24320 := f0.put' e24318 g24307 rfl
    refine wp_of e90 c90_27 (rw_aload_n (pc' := 28) (v := .ref r0) rfl rfl rfl ?_)
    refine wp_of e90 c90_28 (xg_R (pc' := 31) lf_4_29 w24319 g0 sh_12 (by decide) (by decide) ty_12_4 rfl rfl (fun r24321 q24322 g24323 => ?_))
    refine wp_of e90 c90_31 (rw_iload_n (pc' := 32) (z := a1) rfl rfl ?_)
    refine wp_of e90 c90_32 (rw_aload_n (pc' := 33) (v := .ref r0) rfl rfl rfl ?_)
    have k24324 : H24317 r0 5 = H r0 5 := (wq_u_t e24318 g24307 g0 rfl 5)
    refine wp_of e90 c90_33 (xg_I (pc' := 36) lf_4_62 w24319 g0 sh_12 (by decide) (by decide) ty_12_5 rfl rfl (fun b24325 b24326 => ?_))
    refine wp_of e90 c90_36 (rw_if_ne (p1 := 43) (p2 := 39) (by decide) rfl ⟨by omega, by omega⟩ (fun c24327 => ?_) (fun c24327 => ?_))
    · refine wp_of e90 c90_43 (rw_aload_n (pc' := 44) (v := .ref r0) rfl rfl rfl ?_)
      refine wp_of e90 c90_44 (xg_K (pc' := 47) lf_4_29 w24319 g0 sh_12 (by decide) (by decide) rfl q24322 rfl ?_)
      refine wp_of e90 c90_47 (rw_iload_n (pc' := 48) (z := a1) rfl rfl ?_)
      refine wp_of e90 c90_48 (xa_I (so := 0) (pc' := 49) w24319 g24323 sh_19 (by decide) (ty_19 _) (by omega) (by omega) rfl (fun b24328 b24329 => ?_))
      refine wp_of e90 c90_49 (rw_iload_n (pc' := 50) (z := a2) rfl rfl ?_)
      refine wp_of e90 c90_50 (rw_math2 (pc' := 53) (z := max (H24317 r24321 (a1.toNat)) a2) rfl rfl ⟨by omega, by omega⟩ ⟨by omega, by omega⟩ (Or.inr ⟨rfl, rfl⟩) (Nat.le_of_ble_eq_true rfl) rfl ?_)
      obtain ⟨v24330, e24331⟩ : ∃ x : Int, x = max (H24317 r24321 (a1.toNat)) a2 := ⟨_, rfl⟩
      rw [← e24331]
      have b24332 : v24330 = (H24317 r24321 (a1.toNat)) ∨ v24330 = a2 := by
        rw [e24331]
        omega
      have b24333 : (H24317 r24321 (a1.toNat)) ≤ v24330 ∧ a2 ≤ v24330 := by
        rw [e24331]
        omega
      refine wp_of e90 c90_53 (xs_I (pc' := 54) w24319 g24323 (by decide) sh_19 (by decide) (ty_19 _) (by omega) (by omega) ⟨by omega, by omega⟩ (by omega) (by omega) rfl (fun H24334 e24335 w24336 => ?_))
      have f24337 := f24320.put' e24335 g24323 rfl
      exact wp_return e90 c90_54 rfl ⟨rfl, w24336, f24337, rfl⟩
    · refine wp_of e90 c90_39 (rw_iload_n (pc' := 40) (z := a2) rfl rfl ?_)
      refine wp_of e90 c90_40 (rw_goto (p1 := 53) (by decide) ?_)
      refine wp_of e90 c90_53 (xs_I (pc' := 54) w24319 g24323 (by decide) sh_19 (by decide) (ty_19 _) (by omega) (by omega) ⟨by omega, by omega⟩ (by omega) (by omega) rfl (fun H24338 e24339 w24340 => ?_))
      have f24341 := f24320.put' e24339 g24323 rfl
      exact wp_return e90 c90_54 rfl ⟨rfl, w24340, f24341, rfl⟩
  · refine wp_of e90 c90_12 (rw_iload_n (pc' := 13) (z := a2) rfl rfl ?_)
    refine wp_of e90 c90_13 (rw_goto (p1 := 26) (by decide) ?_)
    refine wp_of e90 c90_26 (xs_I (pc' := 27) hW g24307 (by decide) sh_18 (by decide) (ty_18 _) (by omega) (by omega) ⟨by omega, by omega⟩ (by omega) (by omega) rfl (fun H24342 e24343 w24344 => ?_))
    have f24345 := f0.put' e24343 g24307 rfl
    refine wp_of e90 c90_27 (rw_aload_n (pc' := 28) (v := .ref r0) rfl rfl rfl ?_)
    refine wp_of e90 c90_28 (xg_R (pc' := 31) lf_4_29 w24344 g0 sh_12 (by decide) (by decide) ty_12_4 rfl rfl (fun r24346 q24347 g24348 => ?_))
    refine wp_of e90 c90_31 (rw_iload_n (pc' := 32) (z := a1) rfl rfl ?_)
    refine wp_of e90 c90_32 (rw_aload_n (pc' := 33) (v := .ref r0) rfl rfl rfl ?_)
    have k24349 : H24342 r0 5 = H r0 5 := (wq_u_t e24343 g24307 g0 rfl 5)
    refine wp_of e90 c90_33 (xg_I (pc' := 36) lf_4_62 w24344 g0 sh_12 (by decide) (by decide) ty_12_5 rfl rfl (fun b24350 b24351 => ?_))
    refine wp_of e90 c90_36 (rw_if_ne (p1 := 43) (p2 := 39) (by decide) rfl ⟨by omega, by omega⟩ (fun c24352 => ?_) (fun c24352 => ?_))
    · exfalso
      omega
    · refine wp_of e90 c90_39 (rw_iload_n (pc' := 40) (z := a2) rfl rfl ?_)
      refine wp_of e90 c90_40 (rw_goto (p1 := 53) (by decide) ?_)
      refine wp_of e90 c90_53 (xs_I (pc' := 54) w24344 g24348 (by decide) sh_19 (by decide) (ty_19 _) (by omega) (by omega) ⟨by omega, by omega⟩ (by omega) (by omega) rfl (fun H24353 e24354 w24355 => ?_))
      have f24356 := f24345.put' e24354 g24348 rfl
      exact wp_return e90 c90_54 rfl ⟨rfl, w24355, f24356, rfl⟩
/-! StrikeAwake$Census.enter(LStrikeAwake$Parish;LStrikeAwake$Walk;I)V -/
theorem e88 : wq_en 88 = some (4, 7, false, none) := rfl
theorem cg88_0 : mc_cd 88 0 = some (.lconst 1, 1) ∧ mc_cd 88 1 = some (.lstore 4, 2) ∧ mc_cd 88 3 = some (.iconst 0, 1) ∧ mc_cd 88 4 = some (.istore 6, 2) ∧ mc_cd 88 6 = some (.iload 6, 2) ∧ mc_cd 88 8 = some (.aload_n 1, 1) ∧ mc_cd 88 9 = some (.getfield 75, 3) ∧ mc_cd 88 12 = some (.if_icmp .ge 31, 3) := by decide +kernel
theorem c88_0 : mc_cd 88 0 = some (.lconst 1, 1) := cg88_0.1
theorem c88_1 : mc_cd 88 1 = some (.lstore 4, 2) := cg88_0.2.1
theorem c88_3 : mc_cd 88 3 = some (.iconst 0, 1) := cg88_0.2.2.1
theorem c88_4 : mc_cd 88 4 = some (.istore 6, 2) := cg88_0.2.2.2.1
theorem c88_6 : mc_cd 88 6 = some (.iload 6, 2) := cg88_0.2.2.2.2.1
theorem c88_8 : mc_cd 88 8 = some (.aload_n 1, 1) := cg88_0.2.2.2.2.2.1
theorem c88_9 : mc_cd 88 9 = some (.getfield 75, 3) := cg88_0.2.2.2.2.2.2.1
theorem c88_12 : mc_cd 88 12 = some (.if_icmp .ge 31, 3) := cg88_0.2.2.2.2.2.2.2
theorem cg88_15 : mc_cd 88 15 = some (.lload 4, 2) ∧ mc_cd 88 17 = some (.aload_n 1, 1) ∧ mc_cd 88 18 = some (.getfield 78, 3) ∧ mc_cd 88 21 = some (.iload 6, 2) ∧ mc_cd 88 23 = some (.aaload, 1) ∧ mc_cd 88 24 = some (.aload_n 2, 1) ∧ mc_cd 88 25 = some (.iload 6, 2) ∧ mc_cd 88 27 = some (.invokevirtual 82, 3) := by decide +kernel
theorem c88_15 : mc_cd 88 15 = some (.lload 4, 2) := cg88_15.1
theorem c88_17 : mc_cd 88 17 = some (.aload_n 1, 1) := cg88_15.2.1
theorem c88_18 : mc_cd 88 18 = some (.getfield 78, 3) := cg88_15.2.2.1
theorem c88_21 : mc_cd 88 21 = some (.iload 6, 2) := cg88_15.2.2.2.1
theorem c88_23 : mc_cd 88 23 = some (.aaload, 1) := cg88_15.2.2.2.2.1
theorem c88_24 : mc_cd 88 24 = some (.aload_n 2, 1) := cg88_15.2.2.2.2.2.1
theorem c88_25 : mc_cd 88 25 = some (.iload 6, 2) := cg88_15.2.2.2.2.2.2.1
theorem c88_27 : mc_cd 88 27 = some (.invokevirtual 82, 3) := cg88_15.2.2.2.2.2.2.2
theorem cg88_30 : mc_cd 88 30 = some (.invokevirtual 86, 3) ∧ mc_cd 88 33 = some (.i2l, 1) ∧ mc_cd 88 34 = some (.lmul, 1) ∧ mc_cd 88 35 = some (.lstore 4, 2) ∧ mc_cd 88 37 = some (.iinc 6 1, 3) ∧ mc_cd 88 40 = some (.goto (-34), 3) ∧ mc_cd 88 43 = some (.iconst 0, 1) ∧ mc_cd 88 44 = some (.istore 6, 2) := by decide +kernel
theorem c88_30 : mc_cd 88 30 = some (.invokevirtual 86, 3) := cg88_30.1
theorem c88_33 : mc_cd 88 33 = some (.i2l, 1) := cg88_30.2.1
theorem c88_34 : mc_cd 88 34 = some (.lmul, 1) := cg88_30.2.2.1
theorem c88_35 : mc_cd 88 35 = some (.lstore 4, 2) := cg88_30.2.2.2.1
theorem c88_37 : mc_cd 88 37 = some (.iinc 6 1, 3) := cg88_30.2.2.2.2.1
theorem c88_40 : mc_cd 88 40 = some (.goto (-34), 3) := cg88_30.2.2.2.2.2.1
theorem c88_43 : mc_cd 88 43 = some (.iconst 0, 1) := cg88_30.2.2.2.2.2.2.1
theorem c88_44 : mc_cd 88 44 = some (.istore 6, 2) := cg88_30.2.2.2.2.2.2.2
theorem cg88_46 : mc_cd 88 46 = some (.iload 6, 2) ∧ mc_cd 88 48 = some (.aload_n 1, 1) ∧ mc_cd 88 49 = some (.getfield 75, 3) ∧ mc_cd 88 52 = some (.if_icmp .ge 46, 3) ∧ mc_cd 88 55 = some (.aload_n 0, 1) ∧ mc_cd 88 56 = some (.getfield 17, 3) ∧ mc_cd 88 59 = some (.iload 6, 2) ∧ mc_cd 88 61 = some (.aaload, 1) := by decide +kernel
theorem c88_46 : mc_cd 88 46 = some (.iload 6, 2) := cg88_46.1
theorem c88_48 : mc_cd 88 48 = some (.aload_n 1, 1) := cg88_46.2.1
theorem c88_49 : mc_cd 88 49 = some (.getfield 75, 3) := cg88_46.2.2.1
theorem c88_52 : mc_cd 88 52 = some (.if_icmp .ge 46, 3) := cg88_46.2.2.2.1
theorem c88_55 : mc_cd 88 55 = some (.aload_n 0, 1) := cg88_46.2.2.2.2.1
theorem c88_56 : mc_cd 88 56 = some (.getfield 17, 3) := cg88_46.2.2.2.2.2.1
theorem c88_59 : mc_cd 88 59 = some (.iload 6, 2) := cg88_46.2.2.2.2.2.2.1
theorem c88_61 : mc_cd 88 61 = some (.aaload, 1) := cg88_46.2.2.2.2.2.2.2
theorem cg88_62 : mc_cd 88 62 = some (.aload_n 2, 1) ∧ mc_cd 88 63 = some (.iload 6, 2) ∧ mc_cd 88 65 = some (.invokevirtual 82, 3) ∧ mc_cd 88 68 = some (.dup2, 1) ∧ mc_cd 88 69 = some (.iaload, 1) ∧ mc_cd 88 70 = some (.iconst 1, 1) ∧ mc_cd 88 71 = some (.iadd, 1) ∧ mc_cd 88 72 = some (.iastore, 1) := by decide +kernel
theorem c88_62 : mc_cd 88 62 = some (.aload_n 2, 1) := cg88_62.1
theorem c88_63 : mc_cd 88 63 = some (.iload 6, 2) := cg88_62.2.1
theorem c88_65 : mc_cd 88 65 = some (.invokevirtual 82, 3) := cg88_62.2.2.1
theorem c88_68 : mc_cd 88 68 = some (.dup2, 1) := cg88_62.2.2.2.1
theorem c88_69 : mc_cd 88 69 = some (.iaload, 1) := cg88_62.2.2.2.2.1
theorem c88_70 : mc_cd 88 70 = some (.iconst 1, 1) := cg88_62.2.2.2.2.2.1
theorem c88_71 : mc_cd 88 71 = some (.iadd, 1) := cg88_62.2.2.2.2.2.2.1
theorem c88_72 : mc_cd 88 72 = some (.iastore, 1) := cg88_62.2.2.2.2.2.2.2
theorem cg88_73 : mc_cd 88 73 = some (.aload_n 0, 1) ∧ mc_cd 88 74 = some (.getfield 22, 3) ∧ mc_cd 88 77 = some (.iload 6, 2) ∧ mc_cd 88 79 = some (.aaload, 1) ∧ mc_cd 88 80 = some (.aload_n 2, 1) ∧ mc_cd 88 81 = some (.iload 6, 2) ∧ mc_cd 88 83 = some (.invokevirtual 82, 3) ∧ mc_cd 88 86 = some (.dup2, 1) := by decide +kernel
theorem c88_73 : mc_cd 88 73 = some (.aload_n 0, 1) := cg88_73.1
theorem c88_74 : mc_cd 88 74 = some (.getfield 22, 3) := cg88_73.2.1
theorem c88_77 : mc_cd 88 77 = some (.iload 6, 2) := cg88_73.2.2.1
theorem c88_79 : mc_cd 88 79 = some (.aaload, 1) := cg88_73.2.2.2.1
theorem c88_80 : mc_cd 88 80 = some (.aload_n 2, 1) := cg88_73.2.2.2.2.1
theorem c88_81 : mc_cd 88 81 = some (.iload 6, 2) := cg88_73.2.2.2.2.2.1
theorem c88_83 : mc_cd 88 83 = some (.invokevirtual 82, 3) := cg88_73.2.2.2.2.2.2.1
theorem c88_86 : mc_cd 88 86 = some (.dup2, 1) := cg88_73.2.2.2.2.2.2.2
theorem cg88_87 : mc_cd 88 87 = some (.laload, 1) ∧ mc_cd 88 88 = some (.lload 4, 2) ∧ mc_cd 88 90 = some (.ladd, 1) ∧ mc_cd 88 91 = some (.lastore, 1) ∧ mc_cd 88 92 = some (.iinc 6 1, 3) ∧ mc_cd 88 95 = some (.goto (-49), 3) ∧ mc_cd 88 98 = some (.iconst 0, 1) ∧ mc_cd 88 99 = some (.istore 6, 2) := by decide +kernel
theorem c88_87 : mc_cd 88 87 = some (.laload, 1) := cg88_87.1
theorem c88_88 : mc_cd 88 88 = some (.lload 4, 2) := cg88_87.2.1
theorem c88_90 : mc_cd 88 90 = some (.ladd, 1) := cg88_87.2.2.1
theorem c88_91 : mc_cd 88 91 = some (.lastore, 1) := cg88_87.2.2.2.1
theorem c88_92 : mc_cd 88 92 = some (.iinc 6 1, 3) := cg88_87.2.2.2.2.1
theorem c88_95 : mc_cd 88 95 = some (.goto (-49), 3) := cg88_87.2.2.2.2.2.1
theorem c88_98 : mc_cd 88 98 = some (.iconst 0, 1) := cg88_87.2.2.2.2.2.2.1
theorem c88_99 : mc_cd 88 99 = some (.istore 6, 2) := cg88_87.2.2.2.2.2.2.2
theorem cg88_101 : mc_cd 88 101 = some (.iload 6, 2) ∧ mc_cd 88 103 = some (.aload_n 1, 1) ∧ mc_cd 88 104 = some (.getfield 91, 3) ∧ mc_cd 88 107 = some (.if_icmp .ge 31, 3) ∧ mc_cd 88 110 = some (.aload_n 0, 1) ∧ mc_cd 88 111 = some (.aload_n 1, 1) ∧ mc_cd 88 112 = some (.getfield 94, 3) ∧ mc_cd 88 115 = some (.iload 6, 2) := by decide +kernel
theorem c88_101 : mc_cd 88 101 = some (.iload 6, 2) := cg88_101.1
theorem c88_103 : mc_cd 88 103 = some (.aload_n 1, 1) := cg88_101.2.1
theorem c88_104 : mc_cd 88 104 = some (.getfield 91, 3) := cg88_101.2.2.1
theorem c88_107 : mc_cd 88 107 = some (.if_icmp .ge 31, 3) := cg88_101.2.2.2.1
theorem c88_110 : mc_cd 88 110 = some (.aload_n 0, 1) := cg88_101.2.2.2.2.1
theorem c88_111 : mc_cd 88 111 = some (.aload_n 1, 1) := cg88_101.2.2.2.2.2.1
theorem c88_112 : mc_cd 88 112 = some (.getfield 94, 3) := cg88_101.2.2.2.2.2.2.1
theorem c88_115 : mc_cd 88 115 = some (.iload 6, 2) := cg88_101.2.2.2.2.2.2.2
theorem cg88_117 : mc_cd 88 117 = some (.iaload, 1) ∧ mc_cd 88 118 = some (.aload_n 2, 1) ∧ mc_cd 88 119 = some (.aload_n 1, 1) ∧ mc_cd 88 120 = some (.getfield 94, 3) ∧ mc_cd 88 123 = some (.iload 6, 2) ∧ mc_cd 88 125 = some (.iaload, 1) ∧ mc_cd 88 126 = some (.invokevirtual 97, 3) ∧ mc_cd 88 129 = some (.invokevirtual 100, 3) := by decide +kernel
theorem c88_117 : mc_cd 88 117 = some (.iaload, 1) := cg88_117.1
theorem c88_118 : mc_cd 88 118 = some (.aload_n 2, 1) := cg88_117.2.1
theorem c88_119 : mc_cd 88 119 = some (.aload_n 1, 1) := cg88_117.2.2.1
theorem c88_120 : mc_cd 88 120 = some (.getfield 94, 3) := cg88_117.2.2.2.1
theorem c88_123 : mc_cd 88 123 = some (.iload 6, 2) := cg88_117.2.2.2.2.1
theorem c88_125 : mc_cd 88 125 = some (.iaload, 1) := cg88_117.2.2.2.2.2.1
theorem c88_126 : mc_cd 88 126 = some (.invokevirtual 97, 3) := cg88_117.2.2.2.2.2.2.1
theorem c88_129 : mc_cd 88 129 = some (.invokevirtual 100, 3) := cg88_117.2.2.2.2.2.2.2
theorem cg88_132 : mc_cd 88 132 = some (.iinc 6 1, 3) ∧ mc_cd 88 135 = some (.goto (-34), 3) ∧ mc_cd 88 138 = some (.aload_n 0, 1) ∧ mc_cd 88 139 = some (.getfield 11, 3) ∧ mc_cd 88 142 = some (.iload_n 3, 1) ∧ mc_cd 88 143 = some (.bipush 64, 2) ∧ mc_cd 88 145 = some (.idiv, 1) ∧ mc_cd 88 146 = some (.dup2, 1) := by decide +kernel
theorem c88_132 : mc_cd 88 132 = some (.iinc 6 1, 3) := cg88_132.1
theorem c88_135 : mc_cd 88 135 = some (.goto (-34), 3) := cg88_132.2.1
theorem c88_138 : mc_cd 88 138 = some (.aload_n 0, 1) := cg88_132.2.2.1
theorem c88_139 : mc_cd 88 139 = some (.getfield 11, 3) := cg88_132.2.2.2.1
theorem c88_142 : mc_cd 88 142 = some (.iload_n 3, 1) := cg88_132.2.2.2.2.1
theorem c88_143 : mc_cd 88 143 = some (.bipush 64, 2) := cg88_132.2.2.2.2.2.1
theorem c88_145 : mc_cd 88 145 = some (.idiv, 1) := cg88_132.2.2.2.2.2.2.1
theorem c88_146 : mc_cd 88 146 = some (.dup2, 1) := cg88_132.2.2.2.2.2.2.2
theorem cg88_147 : mc_cd 88 147 = some (.laload, 1) ∧ mc_cd 88 148 = some (.lconst 1, 1) ∧ mc_cd 88 149 = some (.iload_n 3, 1) ∧ mc_cd 88 150 = some (.bipush 64, 2) ∧ mc_cd 88 152 = some (.irem, 1) ∧ mc_cd 88 153 = some (.lshl, 1) ∧ mc_cd 88 154 = some (.lor, 1) ∧ mc_cd 88 155 = some (.lastore, 1) := by decide +kernel
theorem c88_147 : mc_cd 88 147 = some (.laload, 1) := cg88_147.1
theorem c88_148 : mc_cd 88 148 = some (.lconst 1, 1) := cg88_147.2.1
theorem c88_149 : mc_cd 88 149 = some (.iload_n 3, 1) := cg88_147.2.2.1
theorem c88_150 : mc_cd 88 150 = some (.bipush 64, 2) := cg88_147.2.2.2.1
theorem c88_152 : mc_cd 88 152 = some (.irem, 1) := cg88_147.2.2.2.2.1
theorem c88_153 : mc_cd 88 153 = some (.lshl, 1) := cg88_147.2.2.2.2.2.1
theorem c88_154 : mc_cd 88 154 = some (.lor, 1) := cg88_147.2.2.2.2.2.2.1
theorem c88_155 : mc_cd 88 155 = some (.lastore, 1) := cg88_147.2.2.2.2.2.2.2
theorem cg88_156 : mc_cd 88 156 = some (.aload_n 0, 1) ∧ mc_cd 88 157 = some (.dup, 1) ∧ mc_cd 88 158 = some (.getfield 62, 3) ∧ mc_cd 88 161 = some (.iconst 1, 1) ∧ mc_cd 88 162 = some (.iadd, 1) ∧ mc_cd 88 163 = some (.putfield 62, 3) ∧ mc_cd 88 166 = some (.aload_n 0, 1) ∧ mc_cd 88 167 = some (.dup, 1) := by decide +kernel
theorem c88_156 : mc_cd 88 156 = some (.aload_n 0, 1) := cg88_156.1
theorem c88_157 : mc_cd 88 157 = some (.dup, 1) := cg88_156.2.1
theorem c88_158 : mc_cd 88 158 = some (.getfield 62, 3) := cg88_156.2.2.1
theorem c88_161 : mc_cd 88 161 = some (.iconst 1, 1) := cg88_156.2.2.2.1
theorem c88_162 : mc_cd 88 162 = some (.iadd, 1) := cg88_156.2.2.2.2.1
theorem c88_163 : mc_cd 88 163 = some (.putfield 62, 3) := cg88_156.2.2.2.2.2.1
theorem c88_166 : mc_cd 88 166 = some (.aload_n 0, 1) := cg88_156.2.2.2.2.2.2.1
theorem c88_167 : mc_cd 88 167 = some (.dup, 1) := cg88_156.2.2.2.2.2.2.2
theorem cg88_168 : mc_cd 88 168 = some (.getfield 66, 3) ∧ mc_cd 88 171 = some (.lload 4, 2) ∧ mc_cd 88 173 = some (.ladd, 1) ∧ mc_cd 88 174 = some (.putfield 66, 3) ∧ mc_cd 88 177 = some (.lload 4, 2) ∧ mc_cd 88 179 = some (.aload_n 0, 1) ∧ mc_cd 88 180 = some (.getfield 72, 3) ∧ mc_cd 88 183 = some (.lcmp, 1) := by decide +kernel
theorem c88_168 : mc_cd 88 168 = some (.getfield 66, 3) := cg88_168.1
theorem c88_171 : mc_cd 88 171 = some (.lload 4, 2) := cg88_168.2.1
theorem c88_173 : mc_cd 88 173 = some (.ladd, 1) := cg88_168.2.2.1
theorem c88_174 : mc_cd 88 174 = some (.putfield 66, 3) := cg88_168.2.2.2.1
theorem c88_177 : mc_cd 88 177 = some (.lload 4, 2) := cg88_168.2.2.2.2.1
theorem c88_179 : mc_cd 88 179 = some (.aload_n 0, 1) := cg88_168.2.2.2.2.2.1
theorem c88_180 : mc_cd 88 180 = some (.getfield 72, 3) := cg88_168.2.2.2.2.2.2.1
theorem c88_183 : mc_cd 88 183 = some (.lcmp, 1) := cg88_168.2.2.2.2.2.2.2
theorem cg88_184 : mc_cd 88 184 = some (.ifCond .le 14, 3) ∧ mc_cd 88 187 = some (.aload_n 0, 1) ∧ mc_cd 88 188 = some (.lload 4, 2) ∧ mc_cd 88 190 = some (.putfield 72, 3) ∧ mc_cd 88 193 = some (.aload_n 0, 1) ∧ mc_cd 88 194 = some (.iload_n 3, 1) ∧ mc_cd 88 195 = some (.putfield 69, 3) ∧ mc_cd 88 198 = some (.return_, 1) := by decide +kernel
theorem c88_184 : mc_cd 88 184 = some (.ifCond .le 14, 3) := cg88_184.1
theorem c88_187 : mc_cd 88 187 = some (.aload_n 0, 1) := cg88_184.2.1
theorem c88_188 : mc_cd 88 188 = some (.lload 4, 2) := cg88_184.2.2.1
theorem c88_190 : mc_cd 88 190 = some (.putfield 72, 3) := cg88_184.2.2.2.1
theorem c88_193 : mc_cd 88 193 = some (.aload_n 0, 1) := cg88_184.2.2.2.2.1
theorem c88_194 : mc_cd 88 194 = some (.iload_n 3, 1) := cg88_184.2.2.2.2.2.1
theorem c88_195 : mc_cd 88 195 = some (.putfield 69, 3) := cg88_184.2.2.2.2.2.2.1
theorem c88_198 : mc_cd 88 198 = some (.return_, 1) := cg88_184.2.2.2.2.2.2.2
abbrev q_88 (r0 : Nat) (r1 : Nat) (r2 : Nat) (a3 : Int) (T : wq_T) (H : wq_H) : Option Value → wq_T → wq_H → Prop := fun r T' H' => T = T' ∧ WT T H' ∧ wfr [(12, 5), (12, 6), (12, 7), (12, 8), (15, 999), (18, 999), (19, 999), (17, 999), (13, 999)] T H H' ∧ none = r
set_option maxHeartbeats 4000000 in
theorem s_88 {kt : Nat → Option mc_E} {T : wq_T} {H : wq_H} {r0 : Nat} {r1 : Nat} {r2 : Nat} {a3 : Int} (hW : WT T H) (g0 : T.2.2.2 r0 = some 12) (g1 : T.2.2.2 r1 = some 27) (g2 : T.2.2.2 r2 = some 6) (i3 : 0 ≤ a3 ∧ a3 ≤ 19999) : wpc kt 2 88 [.ref r0, .ref r1, .ref r2, vI a3] T H (q_88 r0 r1 r2 a3 T H) := by
  refine wp_enter e88 (Nat.le_of_ble_eq_true rfl) rfl ?_
  have f0 : wfr [(12, 5), (12, 6), (12, 7), (12, 8), (15, 999), (18, 999), (19, 999), (17, 999), (13, 999)] T H H := wfr.rf
  show wp _ _ 88 0 [(0, .ref r0), (1, .ref r1), (2, .ref r2), (3, vI a3)] [] _ H _
  refine wp_of e88 c88_0 (rw_lconst (pc' := 1) (z := 1) rfl rfl ?_)
  refine wp_of e88 c88_1 (rw_lstore (pc' := 3) (z := 1) (L' := [(4, vL 1), (0, .ref r0), (1, .ref r1), (2, .ref r2), (3, vI a3)]) rfl rfl rfl ?_)
  refine wp_of e88 c88_3 (rw_iconst (pc' := 4) rfl ?_)
  refine wp_of e88 c88_4 (rw_istore (pc' := 6) (z := 0) (L' := [(6, vI 0), (4, vL 1), (0, .ref r0), (1, .ref r1), (2, .ref r2), (3, vI a3)]) rfl rfl rfl ?_)
  have lp25550 : ∀ (n25551 : Nat) (v25553 : Int) (v25554 : Int), (0 ≤ v25553 ∧ v25553 ≤ 6) → ((-9223372036854775808) ≤ v25554 ∧ v25554 ≤ 9223372036854775807) → (6 - v25553).toNat = n25551 → wp kt 1 88 6 [(6, vI v25553), (4, vL v25554), (0, .ref r0), (1, .ref r1), (2, .ref r2), (3, vI a3)] [] T H (q_88 r0 r1 r2 a3 T H) := by
    intro n25551
    induction n25551 using Nat.strongRecOn with
    | _ n25551 ih25552 =>
      intro v25553 v25554 b25557 b25558 m25559
      refine wp_of e88 c88_6 (rw_iload (pc' := 8) (z := v25553) rfl rfl ?_)
      refine wp_of e88 c88_8 (rw_aload_n (pc' := 9) (v := .ref r1) rfl rfl rfl ?_)
      refine wp_of e88 c88_9 (xg_I (pc' := 12) lf_4_75 hW g1 sh_27 (by decide) (by decide) ty_27_10 rfl rfl (fun b25560 b25561 => ?_))
      refine wp_of e88 c88_12 (rw_icmp_ge (p1 := 43) (p2 := 15) (by decide) rfl ⟨by omega, by omega⟩ ⟨by omega, by omega⟩ (fun c25562 => ?_) (fun c25562 => ?_))
      · refine wp_of e88 c88_43 (rw_iconst (pc' := 44) rfl ?_)
        refine wp_of e88 c88_44 (rw_istore (pc' := 46) (z := 0) (L' := [(6, vI 0), (4, vL v25554), (0, .ref r0), (1, .ref r1), (2, .ref r2), (3, vI a3)]) rfl rfl rfl ?_)
        have lp25913 : ∀ (n25914 : Nat) (v25916 : Int) (H25917 : wq_H), WT T H25917 → wfr [(15, 999), (17, 999)] T H H25917 → (0 ≤ v25916 ∧ v25916 ≤ 6) → (6 - v25916).toNat = n25914 → wp kt 1 88 46 [(6, vI v25916), (4, vL v25554), (0, .ref r0), (1, .ref r1), (2, .ref r2), (3, vI a3)] [] T H25917 (q_88 r0 r1 r2 a3 T H) := by
          intro n25914
          induction n25914 using Nat.strongRecOn with
          | _ n25914 ih25915 =>
            intro v25916 H25917 w25918 f25919 b25920 m25921
            have f25922 := f0.tr f25919 rfl
            refine wp_of e88 c88_46 (rw_iload (pc' := 48) (z := v25916) rfl rfl ?_)
            refine wp_of e88 c88_48 (rw_aload_n (pc' := 49) (v := .ref r1) rfl rfl rfl ?_)
            have k25923 : H25917 r1 10 = H r1 10 := (f25919 r1 10 _ g1 rfl)
            refine wp_of e88 c88_49 (xg_I (pc' := 52) lf_4_75 w25918 g1 sh_27 (by decide) (by decide) ty_27_10 rfl rfl (fun b25924 b25925 => ?_))
            refine wp_of e88 c88_52 (rw_icmp_ge (p1 := 98) (p2 := 55) (by decide) rfl ⟨by omega, by omega⟩ ⟨by omega, by omega⟩ (fun c25926 => ?_) (fun c25926 => ?_))
            · refine wp_of e88 c88_98 (rw_iconst (pc' := 99) rfl ?_)
              refine wp_of e88 c88_99 (rw_istore (pc' := 101) (z := 0) (L' := [(6, vI 0), (4, vL v25554), (0, .ref r0), (1, .ref r1), (2, .ref r2), (3, vI a3)]) rfl rfl rfl ?_)
              have lp26151 : ∀ (n26152 : Nat) (v26154 : Int) (H26155 : wq_H), WT T H26155 → wfr [(18, 999), (19, 999)] T H25917 H26155 → (0 ≤ v26154 ∧ v26154 ≤ 24) → (24 - v26154).toNat = n26152 → wp kt 1 88 101 [(6, vI v26154), (4, vL v25554), (0, .ref r0), (1, .ref r1), (2, .ref r2), (3, vI a3)] [] T H26155 (q_88 r0 r1 r2 a3 T H) := by
                intro n26152
                induction n26152 using Nat.strongRecOn with
                | _ n26152 ih26153 =>
                  intro v26154 H26155 w26156 f26157 b26158 m26159
                  have f26160 := f25922.tr f26157 rfl
                  refine wp_of e88 c88_101 (rw_iload (pc' := 103) (z := v26154) rfl rfl ?_)
                  refine wp_of e88 c88_103 (rw_aload_n (pc' := 104) (v := .ref r1) rfl rfl rfl ?_)
                  refine wp_of e88 c88_104 (xg_I (pc' := 107) lf_4_91 w26156 g1 sh_27 (by decide) (by decide) ty_27_16 rfl rfl (fun b26161 b26162 => ?_))
                  refine wp_of e88 c88_107 (rw_icmp_ge (p1 := 138) (p2 := 110) (by decide) rfl ⟨by omega, by omega⟩ ⟨by omega, by omega⟩ (fun c26163 => ?_) (fun c26163 => ?_))
                  · refine wp_of e88 c88_138 (rw_aload_n (pc' := 139) (v := .ref r0) rfl rfl rfl ?_)
                    refine wp_of e88 c88_139 (xg_R (pc' := 142) lf_4_11 w26156 g0 sh_12 (by decide) (by decide) ty_12_0 rfl rfl (fun r26164 q26165 g26166 => ?_))
                    refine wp_of e88 c88_142 (rw_iload_n (pc' := 143) (z := a3) rfl rfl ?_)
                    refine wp_of e88 c88_143 (rw_bipush (pc' := 145) (z := 64) rfl (by decide) ?_)
                    refine wp_of e88 c88_145 (rw_idiv (pc' := 146) rfl ⟨by omega, by omega⟩ (by omega) ?_)
                    obtain ⟨v26167, e26168⟩ : ∃ x : Int, x = wq_div a3 64 := ⟨_, rfl⟩
                    rw [← e26168]
                    have b26169 : v26167 = a3 / 64 := by
                      rw [e26168]
                      exact wq_div_e ⟨by omega, by omega⟩ ⟨by omega, by omega⟩
                    refine wp_of e88 c88_146 (rw_dup2 (pc' := 147) rfl rfl rfl ?_)
                    refine wp_of e88 c88_147 (xa_L (pc' := 148) w26156 g26166 sh_13 (by decide) (ty_13 _) (by omega) (by omega) rfl (fun b26170 b26171 => ?_))
                    refine wp_of e88 c88_148 (rw_lconst (pc' := 149) (z := 1) rfl rfl ?_)
                    refine wp_of e88 c88_149 (rw_iload_n (pc' := 150) (z := a3) rfl rfl ?_)
                    refine wp_of e88 c88_150 (rw_bipush (pc' := 152) (z := 64) rfl (by decide) ?_)
                    refine wp_of e88 c88_152 (rw_irem (pc' := 153) rfl ⟨by omega, by omega⟩ (by omega) ?_)
                    obtain ⟨v26172, e26173⟩ : ∃ x : Int, x = wq_rem a3 64 := ⟨_, rfl⟩
                    rw [← e26173]
                    have b26174 : v26172 = a3 % 64 := by
                      rw [e26173]
                      exact wq_rem_e ⟨by omega, by omega⟩ ⟨by omega, by omega⟩
                    refine wp_of e88 c88_153 (rw_lshl (pc' := 154) rfl ?_)
                    obtain ⟨v26175, e26176⟩ : ∃ x : Int, x = wl_shl 1 v26172 := ⟨_, rfl⟩
                    rw [← e26176]
                    have b26177 : -9223372036854775808 ≤ v26175 ∧ v26175 ≤ 9223372036854775807 := by
                      rw [e26176]
                      exact wL_shl _ _
                    refine wp_of e88 c88_154 (rw_lor (pc' := 155) rfl ?_)
                    obtain ⟨v26178, e26179⟩ : ∃ x : Int, x = wl_or (H26155 r26164 (v26167.toNat)) v26175 := ⟨_, rfl⟩
                    rw [← e26179]
                    have b26180 : -9223372036854775808 ≤ v26178 ∧ v26178 ≤ 9223372036854775807 := by
                      rw [e26179]
                      exact wL_or _ _
                    refine wp_of e88 c88_155 (xs_L (pc' := 156) w26156 g26166 (by decide) sh_13 (by decide) (ty_13 _) (by omega) (by omega) ⟨by omega, by omega⟩ (by omega) (by omega) rfl (fun H26181 e26182 w26183 => ?_))
                    have f26184 := f26160.put' e26182 g26166 rfl
                    refine wp_of e88 c88_156 (rw_aload_n (pc' := 157) (v := .ref r0) rfl rfl rfl ?_)
                    refine wp_of e88 c88_157 (rw_dup (pc' := 158) rfl rfl ?_)
                    refine wp_of e88 c88_158 (xg_I (pc' := 161) lf_4_62 w26183 g0 sh_12 (by decide) (by decide) ty_12_5 rfl rfl (fun b26185 b26186 => ?_))
                    refine wp_of e88 c88_161 (rw_iconst (pc' := 162) rfl ?_)
                    refine wp_of e88 c88_162 (rw_iaddw (pc' := 163) rfl ?_)
                    obtain ⟨v26187, e26188⟩ : ∃ x : Int, x = wq_w ((H26181 r0 5) + 1) := ⟨_, rfl⟩
                    rw [← e26188]
                    have b26189 : -2147483648 ≤ v26187 ∧ v26187 ≤ 2147483647 := by
                      rw [e26188]
                      exact wI_w _
                    refine wp_of e88 c88_163 (xp_I (pc' := 166) lf_4_62 w26183 g0 sh_12 (by decide) (by decide) ty_12_5 rfl rfl (by omega) (by omega) ⟨by omega, by omega⟩ rfl (fun H26190 e26191 w26192 => ?_))
                    have f26193 := f26184.put' e26191 g0 rfl
                    have k26194 : H26190 r0 5 = v26187 := wq_u_s e26191
                    refine wp_of e88 c88_166 (rw_aload_n (pc' := 167) (v := .ref r0) rfl rfl rfl ?_)
                    refine wp_of e88 c88_167 (rw_dup (pc' := 168) rfl rfl ?_)
                    refine wp_of e88 c88_168 (xg_L (pc' := 171) lf_4_66 w26192 g0 sh_12 (by decide) (by decide) ty_12_6 rfl rfl (fun b26195 b26196 => ?_))
                    refine wp_of e88 c88_171 (rw_lload (pc' := 173) (z := v25554) rfl rfl ?_)
                    refine wp_of e88 c88_173 (rw_laddw (pc' := 174) rfl ?_)
                    obtain ⟨v26197, e26198⟩ : ∃ x : Int, x = wl_w ((H26190 r0 6) + v25554) := ⟨_, rfl⟩
                    rw [← e26198]
                    have b26199 : -9223372036854775808 ≤ v26197 ∧ v26197 ≤ 9223372036854775807 := by
                      rw [e26198]
                      exact wL_w _
                    refine wp_of e88 c88_174 (xp_L (pc' := 177) lf_4_66 w26192 g0 sh_12 (by decide) (by decide) ty_12_6 rfl rfl (by omega) (by omega) ⟨by omega, by omega⟩ rfl (fun H26200 e26201 w26202 => ?_))
                    have f26203 := f26193.put' e26201 g0 rfl
                    have k26204 : H26200 r0 6 = v26197 := wq_u_s e26201
                    refine wp_of e88 c88_177 (rw_lload (pc' := 179) (z := v25554) rfl rfl ?_)
                    refine wp_of e88 c88_179 (rw_aload_n (pc' := 180) (v := .ref r0) rfl rfl rfl ?_)
                    refine wp_of e88 c88_180 (xg_L (pc' := 183) lf_4_72 w26202 g0 sh_12 (by decide) (by decide) ty_12_8 rfl rfl (fun b26205 b26206 => ?_))
                    refine wp_of e88 c88_183 (rw_lcmp (pc' := 184) rfl ⟨by omega, by omega⟩ ⟨by omega, by omega⟩ ?_)
                    have b26207 := wq_cmp_b v25554 (H26200 r0 8)
                    refine wp_of e88 c88_184 (rw_if_le (p1 := 198) (p2 := 187) (by decide) rfl ⟨by omega, by omega⟩ (fun c26208 => ?_) (fun c26208 => ?_))
                    · exact wp_return e88 c88_198 rfl ⟨rfl, w26202, f26203, rfl⟩
                    · refine wp_of e88 c88_187 (rw_aload_n (pc' := 188) (v := .ref r0) rfl rfl rfl ?_)
                      refine wp_of e88 c88_188 (rw_lload (pc' := 190) (z := v25554) rfl rfl ?_)
                      refine wp_of e88 c88_190 (xp_L (pc' := 193) lf_4_72 w26202 g0 sh_12 (by decide) (by decide) ty_12_8 rfl rfl (by omega) (by omega) ⟨by omega, by omega⟩ rfl (fun H26209 e26210 w26211 => ?_))
                      have f26212 := f26203.put' e26210 g0 rfl
                      have k26213 : H26209 r0 8 = v25554 := wq_u_s e26210
                      refine wp_of e88 c88_193 (rw_aload_n (pc' := 194) (v := .ref r0) rfl rfl rfl ?_)
                      refine wp_of e88 c88_194 (rw_iload_n (pc' := 195) (z := a3) rfl rfl ?_)
                      refine wp_of e88 c88_195 (xp_I (pc' := 198) lf_4_69 w26211 g0 sh_12 (by decide) (by decide) ty_12_7 rfl rfl (by omega) (by omega) ⟨by omega, by omega⟩ rfl (fun H26214 e26215 w26216 => ?_))
                      have f26217 := f26212.put' e26215 g0 rfl
                      have k26218 : H26214 r0 7 = a3 := wq_u_s e26215
                      exact wp_return e88 c88_198 rfl ⟨rfl, w26216, f26217, rfl⟩
                  · refine wp_of e88 c88_110 (rw_aload_n (pc' := 111) (v := .ref r0) rfl rfl rfl ?_)
                    refine wp_of e88 c88_111 (rw_aload_n (pc' := 112) (v := .ref r1) rfl rfl rfl ?_)
                    refine wp_of e88 c88_112 (xg_R (pc' := 115) lf_4_94 w26156 g1 sh_27 (by decide) (by decide) ty_27_2 rfl rfl (fun r26219 q26220 g26221 => ?_))
                    refine wp_of e88 c88_115 (rw_iload (pc' := 117) (z := v26154) rfl rfl ?_)
                    refine wp_of e88 c88_117 (xa_I (so := 0) (pc' := 118) w26156 g26221 sh_30 (by decide) (ty_30 _) (by omega) (by omega) rfl (fun b26222 b26223 => ?_))
                    refine wp_of e88 c88_118 (rw_aload_n (pc' := 119) (v := .ref r2) rfl rfl rfl ?_)
                    refine wp_of e88 c88_119 (rw_aload_n (pc' := 120) (v := .ref r1) rfl rfl rfl ?_)
                    refine wp_of e88 c88_120 (xg_K (pc' := 123) lf_4_94 w26156 g1 sh_27 (by decide) (by decide) rfl q26220 rfl ?_)
                    refine wp_of e88 c88_123 (rw_iload (pc' := 125) (z := v26154) rfl rfl ?_)
                    refine wp_of e88 c88_125 (xa_I (so := 0) (pc' := 126) w26156 g26221 sh_30 (by decide) (ty_30 _) (by omega) (by omega) rfl (fun b26224 b26225 => ?_))
                    refine wp_of e88 c88_126 (xc_V (pc' := 129) (r := r2) (as := [vI (H26155 r26219 (v26154.toNat))]) (st := [vI (H26155 r26219 (v26154.toNat)), .ref r0]) (lm_4_97) rfl rfl (Nat.le_of_ble_eq_true rfl) w26156 g2 sh_6 (by decide) rfl (by decide) (s_72 w26156 g2 ⟨by omega, by omega⟩) (fun R26226 T26227 H26228 p26229 => ?_))
                    obtain ⟨e26230, e26232, z26233, e26231, b26234⟩ := p26229
                    subst e26230
                    subst e26231
                    subst e26232
                    show wp _ _ 88 129 [(6, vI v26154), (4, vL v25554), (0, .ref r0), (1, .ref r1), (2, .ref r2), (3, vI a3)] [vI z26233, vI (H26155 r26219 (v26154.toNat)), .ref r0] _ H26155 _
                    refine wp_of e88 c88_129 (xc_V (pc' := 132) (r := r0) (as := [vI (H26155 r26219 (v26154.toNat)), vI z26233]) (st := []) (lm_4_100) rfl rfl (Nat.le_of_ble_eq_true rfl) w26156 g0 sh_12 (by decide) rfl (by decide) (s_90 w26156 g0 ⟨by omega, by omega⟩ ⟨by omega, by omega⟩) (fun R26235 T26236 H26237 p26238 => ?_))
                    obtain ⟨e26239, w26241, f26242, e26240⟩ := p26238
                    subst e26239
                    subst e26240
                    have f26243 := f26160.tr f26242 rfl
                    have f26244 := f26157.tr f26242 rfl
                    show wp _ _ 88 132 [(6, vI v26154), (4, vL v25554), (0, .ref r0), (1, .ref r1), (2, .ref r2), (3, vI a3)] [] _ H26237 _
                    refine wp_of e88 c88_132 (rw_iinc (pc' := 135) (z := v26154) (L' := [(6, vI (v26154 + 1)), (4, vL v25554), (0, .ref r0), (1, .ref r1), (2, .ref r2), (3, vI a3)]) rfl rfl rfl rfl ?_)
                    refine wp_of e88 c88_135 (rw_goto (p1 := 101) (by decide) ?_)
                    exact wp_lc (ks := [6, 4, 0, 1, 2, 3]) (wl_c rfl (wl_c rfl (wl_c rfl (wl_c rfl (wl_c rfl (wl_c rfl wl_n)))))) rfl (by decide) (ih26153 _ (by omega) (v26154 + 1) H26237 w26241 f26244 ⟨by omega, by omega⟩ rfl)
              exact wp_lc (ks := [6, 4, 0, 1, 2, 3]) (wl_c rfl (wl_c rfl (wl_c rfl (wl_c rfl (wl_c rfl (wl_c rfl wl_n)))))) rfl (by decide) (lp26151 _ 0 H25917 w25918 wfr.rf ⟨by omega, by omega⟩ rfl)
            · refine wp_of e88 c88_55 (rw_aload_n (pc' := 56) (v := .ref r0) rfl rfl rfl ?_)
              refine wp_of e88 c88_56 (xg_R (pc' := 59) lf_4_17 w25918 g0 sh_12 (by decide) (by decide) ty_12_1 rfl rfl (fun r26245 q26246 g26247 => ?_))
              refine wp_of e88 c88_59 (rw_iload (pc' := 61) (z := v25916) rfl rfl ?_)
              refine wp_of e88 c88_61 (xa_R (pc' := 62) (by decide) w25918 g26247 sh_14 (by decide) (ty_14 _) (by omega) (by omega) rfl (fun r26248 q26249 g26250 => ?_))
              refine wp_of e88 c88_62 (rw_aload_n (pc' := 63) (v := .ref r2) rfl rfl rfl ?_)
              refine wp_of e88 c88_63 (rw_iload (pc' := 65) (z := v25916) rfl rfl ?_)
              refine wp_of e88 c88_65 (xc_V (pc' := 68) (r := r2) (as := [vI v25916]) (st := [.ref r26248]) (lm_4_82) rfl rfl (Nat.le_of_ble_eq_true rfl) w25918 g2 sh_6 (by decide) rfl (by decide) (s_89 w25918 g2 ⟨by omega, by omega⟩) (fun R26251 T26252 H26253 p26254 => ?_))
              obtain ⟨e26255, e26257, z26258, e26256, b26259⟩ := p26254
              subst e26255
              subst e26256
              subst e26257
              show wp _ _ 88 68 [(6, vI v25916), (4, vL v25554), (0, .ref r0), (1, .ref r1), (2, .ref r2), (3, vI a3)] [vI z26258, .ref r26248] _ H25917 _
              refine wp_of e88 c88_68 (rw_dup2 (pc' := 69) rfl rfl rfl ?_)
              refine wp_of e88 c88_69 (xa_I (so := 0) (pc' := 70) w25918 g26250 sh_15 (by decide) (ty_15 _) (by omega) (by omega) rfl (fun b26260 b26261 => ?_))
              refine wp_of e88 c88_70 (rw_iconst (pc' := 71) rfl ?_)
              refine wp_of e88 c88_71 (rw_iaddw (pc' := 72) rfl ?_)
              obtain ⟨v26262, e26263⟩ : ∃ x : Int, x = wq_w ((H25917 r26248 (z26258.toNat)) + 1) := ⟨_, rfl⟩
              rw [← e26263]
              have b26264 : -2147483648 ≤ v26262 ∧ v26262 ≤ 2147483647 := by
                rw [e26263]
                exact wI_w _
              refine wp_of e88 c88_72 (xs_I (pc' := 73) w25918 g26250 (by decide) sh_15 (by decide) (ty_15 _) (by omega) (by omega) ⟨by omega, by omega⟩ (by omega) (by omega) rfl (fun H26265 e26266 w26267 => ?_))
              have f26268 := f25922.put' e26266 g26250 rfl
              have f26269 := f25919.put' e26266 g26250 rfl
              refine wp_of e88 c88_73 (rw_aload_n (pc' := 74) (v := .ref r0) rfl rfl rfl ?_)
              refine wp_of e88 c88_74 (xg_R (pc' := 77) lf_4_22 w26267 g0 sh_12 (by decide) (by decide) ty_12_2 rfl rfl (fun r26270 q26271 g26272 => ?_))
              refine wp_of e88 c88_77 (rw_iload (pc' := 79) (z := v25916) rfl rfl ?_)
              refine wp_of e88 c88_79 (xa_R (pc' := 80) (by decide) w26267 g26272 sh_16 (by decide) (ty_16 _) (by omega) (by omega) rfl (fun r26273 q26274 g26275 => ?_))
              refine wp_of e88 c88_80 (rw_aload_n (pc' := 81) (v := .ref r2) rfl rfl rfl ?_)
              refine wp_of e88 c88_81 (rw_iload (pc' := 83) (z := v25916) rfl rfl ?_)
              refine wp_of e88 c88_83 (xc_V (pc' := 86) (r := r2) (as := [vI v25916]) (st := [.ref r26273]) (lm_4_82) rfl rfl (Nat.le_of_ble_eq_true rfl) w26267 g2 sh_6 (by decide) rfl (by decide) (s_89 w26267 g2 ⟨by omega, by omega⟩) (fun R26276 T26277 H26278 p26279 => ?_))
              obtain ⟨e26280, e26282, z26283, e26281, b26284⟩ := p26279
              subst e26280
              subst e26281
              subst e26282
              show wp _ _ 88 86 [(6, vI v25916), (4, vL v25554), (0, .ref r0), (1, .ref r1), (2, .ref r2), (3, vI a3)] [vI z26283, .ref r26273] _ H26265 _
              refine wp_of e88 c88_86 (rw_dup2 (pc' := 87) rfl rfl rfl ?_)
              refine wp_of e88 c88_87 (xa_L (pc' := 88) w26267 g26275 sh_17 (by decide) (ty_17 _) (by omega) (by omega) rfl (fun b26285 b26286 => ?_))
              refine wp_of e88 c88_88 (rw_lload (pc' := 90) (z := v25554) rfl rfl ?_)
              refine wp_of e88 c88_90 (rw_laddw (pc' := 91) rfl ?_)
              obtain ⟨v26287, e26288⟩ : ∃ x : Int, x = wl_w ((H26265 r26273 (z26283.toNat)) + v25554) := ⟨_, rfl⟩
              rw [← e26288]
              have b26289 : -9223372036854775808 ≤ v26287 ∧ v26287 ≤ 9223372036854775807 := by
                rw [e26288]
                exact wL_w _
              refine wp_of e88 c88_91 (xs_L (pc' := 92) w26267 g26275 (by decide) sh_17 (by decide) (ty_17 _) (by omega) (by omega) ⟨by omega, by omega⟩ (by omega) (by omega) rfl (fun H26290 e26291 w26292 => ?_))
              have f26293 := f26268.put' e26291 g26275 rfl
              have f26294 := f26269.put' e26291 g26275 rfl
              refine wp_of e88 c88_92 (rw_iinc (pc' := 95) (z := v25916) (L' := [(6, vI (v25916 + 1)), (4, vL v25554), (0, .ref r0), (1, .ref r1), (2, .ref r2), (3, vI a3)]) rfl rfl rfl rfl ?_)
              refine wp_of e88 c88_95 (rw_goto (p1 := 46) (by decide) ?_)
              exact wp_lc (ks := [6, 4, 0, 1, 2, 3]) (wl_c rfl (wl_c rfl (wl_c rfl (wl_c rfl (wl_c rfl (wl_c rfl wl_n)))))) rfl (by decide) (ih25915 _ (by omega) (v25916 + 1) H26290 w26292 f26294 ⟨by omega, by omega⟩ rfl)
        exact wp_lc (ks := [6, 4, 0, 1, 2, 3]) (wl_c rfl (wl_c rfl (wl_c rfl (wl_c rfl (wl_c rfl (wl_c rfl wl_n)))))) rfl (by decide) (lp25913 _ 0 H hW wfr.rf ⟨by omega, by omega⟩ rfl)
      · refine wp_of e88 c88_15 (rw_lload (pc' := 17) (z := v25554) rfl rfl ?_)
        refine wp_of e88 c88_17 (rw_aload_n (pc' := 18) (v := .ref r1) rfl rfl rfl ?_)
        refine wp_of e88 c88_18 (xg_R (pc' := 21) lf_4_78 hW g1 sh_27 (by decide) (by decide) ty_27_0 rfl rfl (fun r26295 q26296 g26297 => ?_))
        refine wp_of e88 c88_21 (rw_iload (pc' := 23) (z := v25553) rfl rfl ?_)
        refine wp_of e88 c88_23 (xa_R (pc' := 24) (by decide) hW g26297 sh_28 (by decide) (ty_28 _) (by omega) (by omega) rfl (fun r26298 q26299 g26300 => ?_))
        refine wp_of e88 c88_24 (rw_aload_n (pc' := 25) (v := .ref r2) rfl rfl rfl ?_)
        refine wp_of e88 c88_25 (rw_iload (pc' := 27) (z := v25553) rfl rfl ?_)
        refine wp_of e88 c88_27 (xc_V (pc' := 30) (r := r2) (as := [vI v25553]) (st := [.ref r26298, vL v25554]) (lm_4_82) rfl rfl (Nat.le_of_ble_eq_true rfl) hW g2 sh_6 (by decide) rfl (by decide) (s_89 hW g2 ⟨by omega, by omega⟩) (fun R26301 T26302 H26303 p26304 => ?_))
        obtain ⟨e26305, e26307, z26308, e26306, b26309⟩ := p26304
        subst e26305
        subst e26306
        subst e26307
        show wp _ _ 88 30 [(6, vI v25553), (4, vL v25554), (0, .ref r0), (1, .ref r1), (2, .ref r2), (3, vI a3)] [vI z26308, .ref r26298, vL v25554] _ H _
        refine wp_of e88 c88_30 (xc_V (pc' := 33) (r := r26298) (as := [vI z26308]) (st := [vL v25554]) (lm_4_86) rfl rfl (Nat.le_of_ble_eq_true rfl) hW g26300 sh_35 (by decide) rfl (by decide) (s_58 hW g26300 ⟨by omega, by omega⟩) (fun R26310 T26311 H26312 p26313 => ?_))
        obtain ⟨e26314, e26316, z26317, e26315, b26318⟩ := p26313
        subst e26314
        subst e26315
        subst e26316
        show wp _ _ 88 33 [(6, vI v25553), (4, vL v25554), (0, .ref r0), (1, .ref r1), (2, .ref r2), (3, vI a3)] [vI z26317, vL v25554] _ H _
        refine wp_of e88 c88_33 (rw_i2l (pc' := 34) rfl ⟨by omega, by omega⟩ ?_)
        refine wp_of e88 c88_34 (rw_lmulw (pc' := 35) rfl ?_)
        obtain ⟨v26319, e26320⟩ : ∃ x : Int, x = wl_w (v25554 * z26317) := ⟨_, rfl⟩
        rw [← e26320]
        have b26321 : -9223372036854775808 ≤ v26319 ∧ v26319 ≤ 9223372036854775807 := by
          rw [e26320]
          exact wL_w _
        refine wp_of e88 c88_35 (rw_lstore (pc' := 37) (z := v26319) (L' := [(4, vL v26319), (6, vI v25553), (0, .ref r0), (1, .ref r1), (2, .ref r2), (3, vI a3)]) rfl rfl rfl ?_)
        refine wp_of e88 c88_37 (rw_iinc (pc' := 40) (z := v25553) (L' := [(6, vI (v25553 + 1)), (4, vL v26319), (0, .ref r0), (1, .ref r1), (2, .ref r2), (3, vI a3)]) rfl rfl rfl rfl ?_)
        refine wp_of e88 c88_40 (rw_goto (p1 := 6) (by decide) ?_)
        exact wp_lc (ks := [6, 4, 0, 1, 2, 3]) (wl_c rfl (wl_c rfl (wl_c rfl (wl_c rfl (wl_c rfl (wl_c rfl wl_n)))))) rfl (by decide) (ih25552 _ (by omega) (v25553 + 1) v26319 ⟨by omega, by omega⟩ ⟨by omega, by omega⟩ rfl)
  exact wp_lc (ks := [6, 4, 0, 1, 2, 3]) (wl_c rfl (wl_c rfl (wl_c rfl (wl_c rfl (wl_c rfl (wl_c rfl wl_n)))))) rfl (by decide) (lp25550 _ 0 1 ⟨by omega, by omega⟩ ⟨by omega, by omega⟩ rfl)
/-! StrikeAwake$Walk.step(LStrikeAwake$Parish;)V -/
theorem e91 : wq_en 91 = some (3, 4, false, none) := rfl
theorem cg91_0 : mc_cd 91 0 = some (.iconst 0, 1) ∧ mc_cd 91 1 = some (.istore_n 2, 1) ∧ mc_cd 91 2 = some (.aload_n 0, 1) ∧ mc_cd 91 3 = some (.getfield 51, 3) ∧ mc_cd 91 6 = some (.iconst 1, 1) ∧ mc_cd 91 7 = some (.isub, 1) ∧ mc_cd 91 8 = some (.istore_n 3, 1) ∧ mc_cd 91 9 = some (.iload_n 3, 1) := by decide +kernel
theorem c91_0 : mc_cd 91 0 = some (.iconst 0, 1) := cg91_0.1
theorem c91_1 : mc_cd 91 1 = some (.istore_n 2, 1) := cg91_0.2.1
theorem c91_2 : mc_cd 91 2 = some (.aload_n 0, 1) := cg91_0.2.2.1
theorem c91_3 : mc_cd 91 3 = some (.getfield 51, 3) := cg91_0.2.2.2.1
theorem c91_6 : mc_cd 91 6 = some (.iconst 1, 1) := cg91_0.2.2.2.2.1
theorem c91_7 : mc_cd 91 7 = some (.isub, 1) := cg91_0.2.2.2.2.2.1
theorem c91_8 : mc_cd 91 8 = some (.istore_n 3, 1) := cg91_0.2.2.2.2.2.2.1
theorem c91_9 : mc_cd 91 9 = some (.iload_n 3, 1) := cg91_0.2.2.2.2.2.2.2
theorem cg91_10 : mc_cd 91 10 = some (.ifCond .lt 49, 3) ∧ mc_cd 91 13 = some (.aload_n 0, 1) ∧ mc_cd 91 14 = some (.getfield 9, 3) ∧ mc_cd 91 17 = some (.iload_n 3, 1) ∧ mc_cd 91 18 = some (.dup2, 1) ∧ mc_cd 91 19 = some (.iaload, 1) ∧ mc_cd 91 20 = some (.iconst 1, 1) ∧ mc_cd 91 21 = some (.iadd, 1) := by decide +kernel
theorem c91_10 : mc_cd 91 10 = some (.ifCond .lt 49, 3) := cg91_10.1
theorem c91_13 : mc_cd 91 13 = some (.aload_n 0, 1) := cg91_10.2.1
theorem c91_14 : mc_cd 91 14 = some (.getfield 9, 3) := cg91_10.2.2.1
theorem c91_17 : mc_cd 91 17 = some (.iload_n 3, 1) := cg91_10.2.2.2.1
theorem c91_18 : mc_cd 91 18 = some (.dup2, 1) := cg91_10.2.2.2.2.1
theorem c91_19 : mc_cd 91 19 = some (.iaload, 1) := cg91_10.2.2.2.2.2.1
theorem c91_20 : mc_cd 91 20 = some (.iconst 1, 1) := cg91_10.2.2.2.2.2.2.1
theorem c91_21 : mc_cd 91 21 = some (.iadd, 1) := cg91_10.2.2.2.2.2.2.2
theorem cg91_22 : mc_cd 91 22 = some (.iastore, 1) ∧ mc_cd 91 23 = some (.aload_n 0, 1) ∧ mc_cd 91 24 = some (.getfield 9, 3) ∧ mc_cd 91 27 = some (.iload_n 3, 1) ∧ mc_cd 91 28 = some (.iaload, 1) ∧ mc_cd 91 29 = some (.aload_n 1, 1) ∧ mc_cd 91 30 = some (.getfield 42, 3) ∧ mc_cd 91 33 = some (.iload_n 3, 1) := by decide +kernel
theorem c91_22 : mc_cd 91 22 = some (.iastore, 1) := cg91_22.1
theorem c91_23 : mc_cd 91 23 = some (.aload_n 0, 1) := cg91_22.2.1
theorem c91_24 : mc_cd 91 24 = some (.getfield 9, 3) := cg91_22.2.2.1
theorem c91_27 : mc_cd 91 27 = some (.iload_n 3, 1) := cg91_22.2.2.2.1
theorem c91_28 : mc_cd 91 28 = some (.iaload, 1) := cg91_22.2.2.2.2.1
theorem c91_29 : mc_cd 91 29 = some (.aload_n 1, 1) := cg91_22.2.2.2.2.2.1
theorem c91_30 : mc_cd 91 30 = some (.getfield 42, 3) := cg91_22.2.2.2.2.2.2.1
theorem c91_33 : mc_cd 91 33 = some (.iload_n 3, 1) := cg91_22.2.2.2.2.2.2.2
theorem cg91_34 : mc_cd 91 34 = some (.aaload, 1) ∧ mc_cd 91 35 = some (.getfield 52, 3) ∧ mc_cd 91 38 = some (.if_icmp .ge 8, 3) ∧ mc_cd 91 41 = some (.iload_n 3, 1) ∧ mc_cd 91 42 = some (.istore_n 2, 1) ∧ mc_cd 91 43 = some (.goto 16, 3) ∧ mc_cd 91 46 = some (.aload_n 0, 1) ∧ mc_cd 91 47 = some (.getfield 9, 3) := by decide +kernel
theorem c91_34 : mc_cd 91 34 = some (.aaload, 1) := cg91_34.1
theorem c91_35 : mc_cd 91 35 = some (.getfield 52, 3) := cg91_34.2.1
theorem c91_38 : mc_cd 91 38 = some (.if_icmp .ge 8, 3) := cg91_34.2.2.1
theorem c91_41 : mc_cd 91 41 = some (.iload_n 3, 1) := cg91_34.2.2.2.1
theorem c91_42 : mc_cd 91 42 = some (.istore_n 2, 1) := cg91_34.2.2.2.2.1
theorem c91_43 : mc_cd 91 43 = some (.goto 16, 3) := cg91_34.2.2.2.2.2.1
theorem c91_46 : mc_cd 91 46 = some (.aload_n 0, 1) := cg91_34.2.2.2.2.2.2.1
theorem c91_47 : mc_cd 91 47 = some (.getfield 9, 3) := cg91_34.2.2.2.2.2.2.2
theorem cg91_50 : mc_cd 91 50 = some (.iload_n 3, 1) ∧ mc_cd 91 51 = some (.iconst 0, 1) ∧ mc_cd 91 52 = some (.iastore, 1) ∧ mc_cd 91 53 = some (.iinc 3 (-1), 3) ∧ mc_cd 91 56 = some (.goto (-47), 3) ∧ mc_cd 91 59 = some (.aload_n 0, 1) ∧ mc_cd 91 60 = some (.aload_n 1, 1) ∧ mc_cd 91 61 = some (.iload_n 2, 1) := by decide +kernel
theorem c91_50 : mc_cd 91 50 = some (.iload_n 3, 1) := cg91_50.1
theorem c91_51 : mc_cd 91 51 = some (.iconst 0, 1) := cg91_50.2.1
theorem c91_52 : mc_cd 91 52 = some (.iastore, 1) := cg91_50.2.2.1
theorem c91_53 : mc_cd 91 53 = some (.iinc 3 (-1), 3) := cg91_50.2.2.2.1
theorem c91_56 : mc_cd 91 56 = some (.goto (-47), 3) := cg91_50.2.2.2.2.1
theorem c91_59 : mc_cd 91 59 = some (.aload_n 0, 1) := cg91_50.2.2.2.2.2.1
theorem c91_60 : mc_cd 91 60 = some (.aload_n 1, 1) := cg91_50.2.2.2.2.2.2.1
theorem c91_61 : mc_cd 91 61 = some (.iload_n 2, 1) := cg91_50.2.2.2.2.2.2.2
theorem cg91_62 : mc_cd 91 62 = some (.invokevirtual 32, 3) ∧ mc_cd 91 65 = some (.return_, 1) := by decide +kernel
theorem c91_62 : mc_cd 91 62 = some (.invokevirtual 32, 3) := cg91_62.1
theorem c91_65 : mc_cd 91 65 = some (.return_, 1) := cg91_62.2
abbrev q_91 (r0 : Nat) (r1 : Nat) (T : wq_T) (H : wq_H) : Option Value → wq_T → wq_H → Prop := fun r T' H' => T = T' ∧ WT T H' ∧ wfr [(8, 999), (10, 999), (9, 999), (7, 999), (11, 999)] T H H' ∧ none = r
set_option maxHeartbeats 4000000 in
theorem s_91 {kt : Nat → Option mc_E} {T : wq_T} {H : wq_H} {r0 : Nat} {r1 : Nat} (hW : WT T H) (g0 : T.2.2.2 r0 = some 6) (g1 : T.2.2.2 r1 = some 27) : wpc kt 3 91 [.ref r0, .ref r1] T H (q_91 r0 r1 T H) := by
  refine wp_enter e91 (Nat.le_of_ble_eq_true rfl) rfl ?_
  have f0 : wfr [(8, 999), (10, 999), (9, 999), (7, 999), (11, 999)] T H H := wfr.rf
  show wp _ _ 91 0 [(0, .ref r0), (1, .ref r1)] [] _ H _
  refine wp_of e91 c91_0 (rw_iconst (pc' := 1) rfl ?_)
  refine wp_of e91 c91_1 (rw_istore_n (pc' := 2) (z := 0) (L' := [(2, vI 0), (0, .ref r0), (1, .ref r1)]) rfl rfl rfl ?_)
  refine wp_of e91 c91_2 (rw_aload_n (pc' := 3) (v := .ref r0) rfl rfl rfl ?_)
  refine wp_of e91 c91_3 (xg_I (pc' := 6) lf_3_51 hW g0 sh_6 (by decide) (by decide) ty_6_5 rfl rfl (fun b1 b2 => ?_))
  refine wp_of e91 c91_6 (rw_iconst (pc' := 7) rfl ?_)
  refine wp_of e91 c91_7 (rw_isub (pc' := 8) rfl ?_)
  refine wp_of e91 c91_8 (rw_istore_n (pc' := 9) (z := (H r0 5) - 1) (L' := [(3, vI ((H r0 5) - 1)), (2, vI 0), (0, .ref r0), (1, .ref r1)]) rfl rfl rfl ?_)
  have lp : ∀ (n : Nat) (v : Int) (H1 : wq_H), WT T H1 → wfr [(7, 999)] T H H1 → ((-1) ≤ v ∧ v ≤ 5) → (v - (-1)).toNat = n → wp kt 2 91 9 [(3, vI v), (2, vI 0), (0, .ref r0), (1, .ref r1)] [] T H1 (q_91 r0 r1 T H) := by
    intro n
    induction n using Nat.strongRecOn with
    | _ n ih =>
      intro v H1 w1 f1 b3 m1
      have f2 := f0.tr f1 rfl
      refine wp_of e91 c91_9 (rw_iload_n (pc' := 10) (z := v) rfl rfl ?_)
      refine wp_of e91 c91_10 (rw_if_lt (p1 := 59) (p2 := 13) (by decide) rfl ⟨by omega, by omega⟩ (fun c1 => ?_) (fun c1 => ?_))
      · refine wp_of e91 c91_59 (rw_aload_n (pc' := 60) (v := .ref r0) rfl rfl rfl ?_)
        refine wp_of e91 c91_60 (rw_aload_n (pc' := 61) (v := .ref r1) rfl rfl rfl ?_)
        refine wp_of e91 c91_61 (rw_iload_n (pc' := 62) (z := 0) rfl rfl ?_)
        refine wp_of e91 c91_62 (xc_V (pc' := 65) (r := r0) (as := [.ref r1, vI 0]) (st := []) (lm_3_32) rfl rfl (Nat.le_of_ble_eq_true rfl) w1 g0 sh_6 (by decide) rfl (by decide) (s_70 w1 g0 g1 ⟨by omega, by omega⟩) (fun R9 T9 H9 p9 => ?_))
        obtain ⟨e7, w9, f9, e8⟩ := p9
        subst e7
        subst e8
        have f10 := f2.tr f9 rfl
        show wp _ _ 91 65 [(3, vI v), (2, vI 0), (0, .ref r0), (1, .ref r1)] [] _ H9 _
        exact wp_return e91 c91_65 rfl ⟨rfl, w9, f10, rfl⟩
      · refine wp_of e91 c91_13 (rw_aload_n (pc' := 14) (v := .ref r0) rfl rfl rfl ?_)
        refine wp_of e91 c91_14 (xg_R (pc' := 17) lf_3_9 w1 g0 sh_6 (by decide) (by decide) ty_6_0 rfl rfl (fun rp q1 gp => ?_))
        refine wp_of e91 c91_17 (rw_iload_n (pc' := 18) (z := v) rfl rfl ?_)
        refine wp_of e91 c91_18 (rw_dup2 (pc' := 19) rfl rfl rfl ?_)
        refine wp_of e91 c91_19 (xa_I (so := 0) (pc' := 20) w1 gp sh_7 (by decide) (ty_7 _) (by omega) (by omega) rfl (fun b5 b6 => ?_))
        refine wp_of e91 c91_20 (rw_iconst (pc' := 21) rfl ?_)
        refine wp_of e91 c91_21 (rw_iadd (pc' := 22) rfl ?_)
        refine wp_of e91 c91_22 (rw_iastore (pc' := 23) (w1.sh gp sh_7) (w1.hi gp (by decide)) (by decide) ⟨by omega, by omega⟩ (by omega) (by omega) rfl ?_)
        obtain ⟨H2, e2⟩ : ∃ X : wq_H, X = wq_u H1 rp v.toNat (H1 rp v.toNat + 1) := ⟨_, rfl⟩
        rw [← e2]
        have k2 : H2 rp v.toNat = H1 rp v.toNat + 1 := wq_u_s e2
        obtain ⟨l9, hl9, hj9, -⟩ := lf_3_9
        obtain ⟨l42, hl42, hj42, -⟩ := lf_3_42
        obtain ⟨l52, hl52, hj52, -⟩ := lf_3_52
        have hc0 := wq_hc (a := r0) (c := 3) (j := 0) (n := 6) (w1.hi g0 (by decide)) (by decide)
        have q2 : H2 r0 0 = (rp : Int) := (wq_u_t e2 gp g0 rfl 0).trans q1
        refine wp_of e91 c91_23 (rw_aload_n (pc' := 24) (v := .ref r0) rfl rfl rfl ?_)
        refine wp_of e91 c91_24 (rw_getR (pc' := 27) hl9 hj9 (w1.sh g0 sh_6) hc0 rfl q2 rfl ?_)
        refine wp_of e91 c91_27 (rw_iload_n (pc' := 28) (z := v) rfl rfl ?_)
        refine wp_of e91 c91_28 (rw_iaload (pc' := 29) (w1.sh gp sh_7) ⟨by decide, rfl, Bool.or_true _, by decide⟩ (by omega) (by omega) rfl rfl ?_)
        obtain ⟨ra, q3, ga⟩ := w1.ref g1 (t' := 28) (n := 19) (j := 0) (p := 0) (q := 0) rfl (by decide) rfl
        have q4 : H2 r1 0 = (ra : Int) := (wq_u_t e2 gp g1 rfl 0).trans q3
        refine wp_of e91 c91_29 (rw_aload_n (pc' := 30) (v := .ref r1) rfl rfl rfl ?_)
        refine wp_of e91 c91_30 (rw_getR (pc' := 33) hl42 hj42 (w1.sh g1 sh_27) (wq_hc (w1.hi g1 (by decide)) (by decide)) rfl q4 rfl ?_)
        refine wp_of e91 c91_33 (rw_iload_n (pc' := 34) (z := v) rfl rfl ?_)
        obtain ⟨rs, q5, gs⟩ := w1.ref ga (t' := 35) (n := 6) (j := v.toNat) (p := 0) (q := 0) rfl (by omega) rfl
        have q6 : H2 ra v.toNat = (rs : Int) := (wq_u_t e2 gp ga rfl _).trans q5
        refine wp_of e91 c91_34 (rw_aaload (pc' := 35) (w1.sh ga sh_28) ⟨by decide, rfl, Bool.or_true _, by decide⟩ (by omega) (by omega) rfl q6 rfl ?_)
        have b7 : (0 : Int) ≤ H1 rs 15 ∧ H1 rs 15 ≤ 40 := w1.box gs (n := 18) rfl (by decide) rfl
        have k3 : H2 rs 15 = H1 rs 15 := wq_u_t e2 gp gs rfl 15
        refine wp_of e91 c91_35 (rw_getI (pc' := 38) hl52 hj52 (w1.sh gs sh_35) (wq_hc (w1.hi gs (by decide)) (by decide)) rfl rfl ?_)
        refine wp_of e91 c91_38 (rw_icmp_ge (p1 := 46) (p2 := 41) (by decide) rfl ⟨by omega, by omega⟩ ⟨by omega, by omega⟩ (fun c2 => ?_) (fun c2 => ?_))
        · refine wp_of e91 c91_46 (rw_aload_n (pc' := 47) (v := .ref r0) rfl rfl rfl ?_)
          refine wp_of e91 c91_47 (rw_getR (pc' := 50) hl9 hj9 (w1.sh g0 sh_6) hc0 rfl q2 rfl ?_)
          refine wp_of e91 c91_50 (rw_iload_n (pc' := 51) (z := v) rfl rfl ?_)
          refine wp_of e91 c91_51 (rw_iconst (pc' := 52) rfl ?_)
          refine wp_of e91 c91_52 (rw_iastore (pc' := 53) (w1.sh gp sh_7) (w1.hi gp (by decide)) (by decide) ⟨by omega, by omega⟩ (by omega) (by omega) rfl ?_)
          have e3 : wq_u H2 rp v.toNat 0 = wq_u H1 rp v.toNat 0 := by
            funext b i
            by_cases hq : b = rp ∧ i = v.toNat
            · obtain ⟨rfl, rfl⟩ := hq
              rw [wq_u_eq, wq_u_eq]
            · rw [wq_u_ne hq, wq_u_ne hq, e2, wq_u_ne hq]
          rw [e3]
          have w3 : WT T (wq_u H1 rp v.toNat 0) := w1.putB gp (ty_7 _) (by omega) (by omega)
          have f3 : wfr [(7, 999)] T H (wq_u H1 rp v.toNat 0) := f1.put gp rfl
          refine wp_of e91 c91_53 (rw_iinc (pc' := 56) (z := v) (L' := [(3, vI (v + (-1))), (2, vI 0), (0, .ref r0), (1, .ref r1)]) rfl rfl rfl rfl ?_)
          refine wp_of e91 c91_56 (rw_goto (p1 := 9) (by decide) ?_)
          exact wp_lc (ks := [3, 2, 0, 1]) (wl_c rfl (wl_c rfl (wl_c rfl (wl_c rfl wl_n)))) rfl (by decide) (ih _ (by omega) (v + (-1)) _ w3 f3 ⟨by omega, by omega⟩ rfl)
        · have w2 : WT T H2 := by
            rw [e2]
            exact w1.putB gp (ty_7 _) (by omega) (by omega)
          have f3 := f2.put' e2 gp rfl
          refine wp_of e91 c91_41 (rw_iload_n (pc' := 42) (z := v) rfl rfl ?_)
          refine wp_of e91 c91_42 (rw_istore_n (pc' := 43) (z := v) (L' := [(2, vI v), (3, vI v), (0, .ref r0), (1, .ref r1)]) rfl rfl rfl ?_)
          refine wp_of e91 c91_43 (rw_goto (p1 := 59) (by decide) ?_)
          refine wp_of e91 c91_59 (rw_aload_n (pc' := 60) (v := .ref r0) rfl rfl rfl ?_)
          refine wp_of e91 c91_60 (rw_aload_n (pc' := 61) (v := .ref r1) rfl rfl rfl ?_)
          refine wp_of e91 c91_61 (rw_iload_n (pc' := 62) (z := v) rfl rfl ?_)
          refine wp_of e91 c91_62 (xc_V (pc' := 65) (r := r0) (as := [.ref r1, vI v]) (st := []) (lm_3_32) rfl rfl (Nat.le_of_ble_eq_true rfl) w2 g0 sh_6 (by decide) rfl (by decide) (s_70 w2 g0 g1 ⟨by omega, by omega⟩) (fun R9 T9 H9 p9 => ?_))
          obtain ⟨e7, w9, f9, e8⟩ := p9
          subst e7
          subst e8
          have f10 := f3.tr f9 rfl
          show wp _ _ 91 65 [(2, vI v), (3, vI v), (0, .ref r0), (1, .ref r1)] [] _ H9 _
          exact wp_return e91 c91_65 rfl ⟨rfl, w9, f10, rfl⟩
  exact wp_lc (ks := [3, 2, 0, 1]) (wl_c rfl (wl_c rfl (wl_c rfl (wl_c rfl wl_n)))) rfl (by decide) (lp _ ((H r0 5) - 1) H hW wfr.rf ⟨by omega, by omega⟩ rfl)
/-! StrikeAwake$Census.renew(LStrikeAwake$Parish;LStrikeAwake$Walk;)V -/
theorem e85 : wq_en 85 = some (4, 4, false, none) := rfl
theorem cg85_0 : mc_cd 85 0 = some (.aload_n 0, 1) ∧ mc_cd 85 1 = some (.getfield 32, 3) ∧ mc_cd 85 4 = some (.ifCond .eq 4, 3) ∧ mc_cd 85 7 = some (.return_, 1) ∧ mc_cd 85 8 = some (.aload_n 0, 1) ∧ mc_cd 85 9 = some (.invokevirtual 36, 3) ∧ mc_cd 85 12 = some (.aload_n 2, 1) ∧ mc_cd 85 13 = some (.aload_n 1, 1) := by decide +kernel
theorem c85_0 : mc_cd 85 0 = some (.aload_n 0, 1) := cg85_0.1
theorem c85_1 : mc_cd 85 1 = some (.getfield 32, 3) := cg85_0.2.1
theorem c85_4 : mc_cd 85 4 = some (.ifCond .eq 4, 3) := cg85_0.2.2.1
theorem c85_7 : mc_cd 85 7 = some (.return_, 1) := cg85_0.2.2.2.1
theorem c85_8 : mc_cd 85 8 = some (.aload_n 0, 1) := cg85_0.2.2.2.2.1
theorem c85_9 : mc_cd 85 9 = some (.invokevirtual 36, 3) := cg85_0.2.2.2.2.2.1
theorem c85_12 : mc_cd 85 12 = some (.aload_n 2, 1) := cg85_0.2.2.2.2.2.2.1
theorem c85_13 : mc_cd 85 13 = some (.aload_n 1, 1) := cg85_0.2.2.2.2.2.2.2
theorem cg85_14 : mc_cd 85 14 = some (.invokevirtual 39, 3) ∧ mc_cd 85 17 = some (.iconst 0, 1) ∧ mc_cd 85 18 = some (.istore_n 3, 1) ∧ mc_cd 85 19 = some (.iload_n 3, 1) ∧ mc_cd 85 20 = some (.i2l, 1) ∧ mc_cd 85 21 = some (.aload_n 1, 1) ∧ mc_cd 85 22 = some (.getfield 45, 3) ∧ mc_cd 85 25 = some (.lcmp, 1) := by decide +kernel
theorem c85_14 : mc_cd 85 14 = some (.invokevirtual 39, 3) := cg85_14.1
theorem c85_17 : mc_cd 85 17 = some (.iconst 0, 1) := cg85_14.2.1
theorem c85_18 : mc_cd 85 18 = some (.istore_n 3, 1) := cg85_14.2.2.1
theorem c85_19 : mc_cd 85 19 = some (.iload_n 3, 1) := cg85_14.2.2.2.1
theorem c85_20 : mc_cd 85 20 = some (.i2l, 1) := cg85_14.2.2.2.2.1
theorem c85_21 : mc_cd 85 21 = some (.aload_n 1, 1) := cg85_14.2.2.2.2.2.1
theorem c85_22 : mc_cd 85 22 = some (.getfield 45, 3) := cg85_14.2.2.2.2.2.2.1
theorem c85_25 : mc_cd 85 25 = some (.lcmp, 1) := cg85_14.2.2.2.2.2.2.2
theorem cg85_26 : mc_cd 85 26 = some (.ifCond .ge 36, 3) ∧ mc_cd 85 29 = some (.iload_n 3, 1) ∧ mc_cd 85 30 = some (.sipush 20000, 3) ∧ mc_cd 85 33 = some (.if_icmp .ge 29, 3) ∧ mc_cd 85 36 = some (.aload_n 2, 1) ∧ mc_cd 85 37 = some (.aload_n 1, 1) ∧ mc_cd 85 38 = some (.invokevirtual 51, 3) ∧ mc_cd 85 41 = some (.ifCond .eq 10, 3) := by decide +kernel
theorem c85_26 : mc_cd 85 26 = some (.ifCond .ge 36, 3) := cg85_26.1
theorem c85_29 : mc_cd 85 29 = some (.iload_n 3, 1) := cg85_26.2.1
theorem c85_30 : mc_cd 85 30 = some (.sipush 20000, 3) := cg85_26.2.2.1
theorem c85_33 : mc_cd 85 33 = some (.if_icmp .ge 29, 3) := cg85_26.2.2.2.1
theorem c85_36 : mc_cd 85 36 = some (.aload_n 2, 1) := cg85_26.2.2.2.2.1
theorem c85_37 : mc_cd 85 37 = some (.aload_n 1, 1) := cg85_26.2.2.2.2.2.1
theorem c85_38 : mc_cd 85 38 = some (.invokevirtual 51, 3) := cg85_26.2.2.2.2.2.2.1
theorem c85_41 : mc_cd 85 41 = some (.ifCond .eq 10, 3) := cg85_26.2.2.2.2.2.2.2
theorem cg85_44 : mc_cd 85 44 = some (.aload_n 0, 1) ∧ mc_cd 85 45 = some (.aload_n 1, 1) ∧ mc_cd 85 46 = some (.aload_n 2, 1) ∧ mc_cd 85 47 = some (.iload_n 3, 1) ∧ mc_cd 85 48 = some (.invokevirtual 55, 3) ∧ mc_cd 85 51 = some (.aload_n 2, 1) ∧ mc_cd 85 52 = some (.aload_n 1, 1) ∧ mc_cd 85 53 = some (.invokevirtual 59, 3) := by decide +kernel
theorem c85_44 : mc_cd 85 44 = some (.aload_n 0, 1) := cg85_44.1
theorem c85_45 : mc_cd 85 45 = some (.aload_n 1, 1) := cg85_44.2.1
theorem c85_46 : mc_cd 85 46 = some (.aload_n 2, 1) := cg85_44.2.2.1
theorem c85_47 : mc_cd 85 47 = some (.iload_n 3, 1) := cg85_44.2.2.2.1
theorem c85_48 : mc_cd 85 48 = some (.invokevirtual 55, 3) := cg85_44.2.2.2.2.1
theorem c85_51 : mc_cd 85 51 = some (.aload_n 2, 1) := cg85_44.2.2.2.2.2.1
theorem c85_52 : mc_cd 85 52 = some (.aload_n 1, 1) := cg85_44.2.2.2.2.2.2.1
theorem c85_53 : mc_cd 85 53 = some (.invokevirtual 59, 3) := cg85_44.2.2.2.2.2.2.2
theorem cg85_56 : mc_cd 85 56 = some (.iinc 3 1, 3) ∧ mc_cd 85 59 = some (.goto (-40), 3) ∧ mc_cd 85 62 = some (.aload_n 0, 1) ∧ mc_cd 85 63 = some (.iconst 1, 1) ∧ mc_cd 85 64 = some (.putfield 32, 3) ∧ mc_cd 85 67 = some (.return_, 1) := by decide +kernel
theorem c85_56 : mc_cd 85 56 = some (.iinc 3 1, 3) := cg85_56.1
theorem c85_59 : mc_cd 85 59 = some (.goto (-40), 3) := cg85_56.2.1
theorem c85_62 : mc_cd 85 62 = some (.aload_n 0, 1) := cg85_56.2.2.1
theorem c85_63 : mc_cd 85 63 = some (.iconst 1, 1) := cg85_56.2.2.2.1
theorem c85_64 : mc_cd 85 64 = some (.putfield 32, 3) := cg85_56.2.2.2.2.1
theorem c85_67 : mc_cd 85 67 = some (.return_, 1) := cg85_56.2.2.2.2.2
abbrev q_85 (r0 : Nat) (r1 : Nat) (r2 : Nat) (T : wq_T) (H : wq_H) : Option Value → wq_T → wq_H → Prop := fun r T' H' => T = T' ∧ WT T H' ∧ wfr [(12, 5), (12, 6), (12, 7), (12, 8), (12, 9), (6, 5), (8, 999), (10, 999), (15, 999), (9, 999), (18, 999), (19, 999), (7, 999), (11, 999), (17, 999), (13, 999)] T H H' ∧ none = r
set_option maxHeartbeats 4000000 in
theorem s_85 {kt : Nat → Option mc_E} {T : wq_T} {H : wq_H} {r0 : Nat} {r1 : Nat} {r2 : Nat} (hW : WT T H) (g0 : T.2.2.2 r0 = some 12) (g1 : T.2.2.2 r1 = some 27) (g2 : T.2.2.2 r2 = some 6) : wpc kt 4 85 [.ref r0, .ref r1, .ref r2] T H (q_85 r0 r1 r2 T H) := by
  refine wp_enter e85 (Nat.le_of_ble_eq_true rfl) rfl ?_
  have f0 : wfr [(12, 5), (12, 6), (12, 7), (12, 8), (12, 9), (6, 5), (8, 999), (10, 999), (15, 999), (9, 999), (18, 999), (19, 999), (7, 999), (11, 999), (17, 999), (13, 999)] T H H := wfr.rf
  show wp _ _ 85 0 [(0, .ref r0), (1, .ref r1), (2, .ref r2)] [] _ H _
  refine wp_of e85 c85_0 (rw_aload_n (pc' := 1) (v := .ref r0) rfl rfl rfl ?_)
  refine wp_of e85 c85_1 (xg_I (pc' := 4) lf_4_32 hW g0 sh_12 (by decide) (by decide) ty_12_9 rfl rfl (fun b26834 b26835 => ?_))
  refine wp_of e85 c85_4 (rw_if_eq (p1 := 8) (p2 := 7) (by decide) rfl ⟨by omega, by omega⟩ (fun c26836 => ?_) (fun c26836 => ?_))
  · refine wp_of e85 c85_8 (rw_aload_n (pc' := 9) (v := .ref r0) rfl rfl rfl ?_)
    refine wp_of e85 c85_9 (xc_V (pc' := 12) (r := r0) (as := []) (st := []) (lm_4_36) rfl rfl (Nat.le_of_ble_eq_true rfl) hW g0 sh_12 (by decide) rfl (by decide) (s_86 hW g0) (fun R26837 T26838 H26839 p26840 => ?_))
    obtain ⟨e26841, w26843, f26844, e26842⟩ := p26840
    subst e26841
    subst e26842
    have f26845 := f0.tr f26844 rfl
    show wp _ _ 85 12 [(0, .ref r0), (1, .ref r1), (2, .ref r2)] [] _ H26839 _
    refine wp_of e85 c85_12 (rw_aload_n (pc' := 13) (v := .ref r2) rfl rfl rfl ?_)
    refine wp_of e85 c85_13 (rw_aload_n (pc' := 14) (v := .ref r1) rfl rfl rfl ?_)
    refine wp_of e85 c85_14 (xc_V (pc' := 17) (r := r2) (as := [.ref r1]) (st := []) (lm_4_39) rfl rfl (Nat.le_of_ble_eq_true rfl) w26843 g2 sh_6 (by decide) rfl (by decide) (s_87 w26843 g2 g1) (fun R26846 T26847 H26848 p26849 => ?_))
    obtain ⟨e26850, w26852, f26853, e26851⟩ := p26849
    subst e26850
    subst e26851
    have f26854 := f26845.tr f26853 rfl
    show wp _ _ 85 17 [(0, .ref r0), (1, .ref r1), (2, .ref r2)] [] _ H26848 _
    refine wp_of e85 c85_17 (rw_iconst (pc' := 18) rfl ?_)
    refine wp_of e85 c85_18 (rw_istore_n (pc' := 19) (z := 0) (L' := [(3, vI 0), (0, .ref r0), (1, .ref r1), (2, .ref r2)]) rfl rfl rfl ?_)
    have lp27191 : ∀ (n27192 : Nat) (v27194 : Int) (H27195 : wq_H), WT T H27195 → wfr [(12, 5), (12, 6), (12, 7), (12, 8), (8, 999), (10, 999), (15, 999), (9, 999), (18, 999), (19, 999), (7, 999), (11, 999), (17, 999), (13, 999)] T H26848 H27195 → (0 ≤ v27194 ∧ v27194 ≤ 20000) → (20000 - v27194).toNat = n27192 → wp kt 3 85 19 [(3, vI v27194), (0, .ref r0), (1, .ref r1), (2, .ref r2)] [] T H27195 (q_85 r0 r1 r2 T H) := by
      intro n27192
      induction n27192 using Nat.strongRecOn with
      | _ n27192 ih27193 =>
        intro v27194 H27195 w27196 f27197 b27198 m27199
        have f27200 := f26854.tr f27197 rfl
        refine wp_of e85 c85_19 (rw_iload_n (pc' := 20) (z := v27194) rfl rfl ?_)
        refine wp_of e85 c85_20 (rw_i2l (pc' := 21) rfl ⟨by omega, by omega⟩ ?_)
        refine wp_of e85 c85_21 (rw_aload_n (pc' := 22) (v := .ref r1) rfl rfl rfl ?_)
        refine wp_of e85 c85_22 (xg_L (pc' := 25) lf_4_45 w27196 g1 sh_27 (by decide) (by decide) ty_27_18 rfl rfl (fun b27201 b27202 => ?_))
        refine wp_of e85 c85_25 (rw_lcmp (pc' := 26) rfl ⟨by omega, by omega⟩ ⟨by omega, by omega⟩ ?_)
        have b27203 := wq_cmp_b v27194 (H27195 r1 18)
        refine wp_of e85 c85_26 (rw_if_ge (p1 := 62) (p2 := 29) (by decide) rfl ⟨by omega, by omega⟩ (fun c27204 => ?_) (fun c27204 => ?_))
        · refine wp_of e85 c85_62 (rw_aload_n (pc' := 63) (v := .ref r0) rfl rfl rfl ?_)
          refine wp_of e85 c85_63 (rw_iconst (pc' := 64) rfl ?_)
          refine wp_of e85 c85_64 (xp_Z (pc' := 67) lf_4_32 w27196 g0 sh_12 (by decide) (by decide) ty_12_9 rfl rfl (by omega) (by omega) rfl (fun H27205 e27206 w27207 => ?_))
          have f27208 := f27200.put' e27206 g0 rfl
          have k27209 : H27205 r0 9 = 1 := wq_u_s e27206
          exact wp_return e85 c85_67 rfl ⟨rfl, w27207, f27208, rfl⟩
        · refine wp_of e85 c85_29 (rw_iload_n (pc' := 30) (z := v27194) rfl rfl ?_)
          refine wp_of e85 c85_30 (rw_sipush (pc' := 33) (z := 20000) rfl (by decide) ?_)
          refine wp_of e85 c85_33 (rw_icmp_ge (p1 := 62) (p2 := 36) (by decide) rfl ⟨by omega, by omega⟩ ⟨by omega, by omega⟩ (fun c27210 => ?_) (fun c27210 => ?_))
          · refine wp_of e85 c85_62 (rw_aload_n (pc' := 63) (v := .ref r0) rfl rfl rfl ?_)
            refine wp_of e85 c85_63 (rw_iconst (pc' := 64) rfl ?_)
            refine wp_of e85 c85_64 (xp_Z (pc' := 67) lf_4_32 w27196 g0 sh_12 (by decide) (by decide) ty_12_9 rfl rfl (by omega) (by omega) rfl (fun H27211 e27212 w27213 => ?_))
            have f27214 := f27200.put' e27212 g0 rfl
            have k27215 : H27211 r0 9 = 1 := wq_u_s e27212
            exact wp_return e85 c85_67 rfl ⟨rfl, w27213, f27214, rfl⟩
          · refine wp_of e85 c85_36 (rw_aload_n (pc' := 37) (v := .ref r2) rfl rfl rfl ?_)
            refine wp_of e85 c85_37 (rw_aload_n (pc' := 38) (v := .ref r1) rfl rfl rfl ?_)
            refine wp_of e85 c85_38 (xc_V (pc' := 41) (r := r2) (as := [.ref r1]) (st := []) (lm_4_51) rfl rfl (Nat.le_of_ble_eq_true rfl) w27196 g2 sh_6 (by decide) rfl (by decide) (s_79 w27196 g2 g1) (fun R27216 T27217 H27218 p27219 => ?_))
            obtain ⟨e27220, e27222, z27223, e27221, b27224⟩ := p27219
            subst e27220
            subst e27221
            subst e27222
            show wp _ _ 85 41 [(3, vI v27194), (0, .ref r0), (1, .ref r1), (2, .ref r2)] [vI z27223] _ H27195 _
            refine wp_of e85 c85_41 (rw_if_eq (p1 := 51) (p2 := 44) (by decide) rfl ⟨by omega, by omega⟩ (fun c27225 => ?_) (fun c27225 => ?_))
            · refine wp_of e85 c85_51 (rw_aload_n (pc' := 52) (v := .ref r2) rfl rfl rfl ?_)
              refine wp_of e85 c85_52 (rw_aload_n (pc' := 53) (v := .ref r1) rfl rfl rfl ?_)
              refine wp_of e85 c85_53 (xc_V (pc' := 56) (r := r2) (as := [.ref r1]) (st := []) (lm_4_59) rfl rfl (Nat.le_of_ble_eq_true rfl) w27196 g2 sh_6 (by decide) rfl (by decide) (s_91 w27196 g2 g1) (fun R27226 T27227 H27228 p27229 => ?_))
              obtain ⟨e27230, w27232, f27233, e27231⟩ := p27229
              subst e27230
              subst e27231
              have f27234 := f27200.tr f27233 rfl
              have f27235 := f27197.tr f27233 rfl
              show wp _ _ 85 56 [(3, vI v27194), (0, .ref r0), (1, .ref r1), (2, .ref r2)] [] _ H27228 _
              refine wp_of e85 c85_56 (rw_iinc (pc' := 59) (z := v27194) (L' := [(3, vI (v27194 + 1)), (0, .ref r0), (1, .ref r1), (2, .ref r2)]) rfl rfl rfl rfl ?_)
              refine wp_of e85 c85_59 (rw_goto (p1 := 19) (by decide) ?_)
              exact wp_lc (ks := [3, 0, 1, 2]) (wl_c rfl (wl_c rfl (wl_c rfl (wl_c rfl wl_n)))) rfl (by decide) (ih27193 _ (by omega) (v27194 + 1) H27228 w27232 f27235 ⟨by omega, by omega⟩ rfl)
            · refine wp_of e85 c85_44 (rw_aload_n (pc' := 45) (v := .ref r0) rfl rfl rfl ?_)
              refine wp_of e85 c85_45 (rw_aload_n (pc' := 46) (v := .ref r1) rfl rfl rfl ?_)
              refine wp_of e85 c85_46 (rw_aload_n (pc' := 47) (v := .ref r2) rfl rfl rfl ?_)
              refine wp_of e85 c85_47 (rw_iload_n (pc' := 48) (z := v27194) rfl rfl ?_)
              refine wp_of e85 c85_48 (xc_V (pc' := 51) (r := r0) (as := [.ref r1, .ref r2, vI v27194]) (st := []) (lm_4_55) rfl rfl (Nat.le_of_ble_eq_true rfl) w27196 g0 sh_12 (by decide) rfl (by decide) (s_88 w27196 g0 g1 g2 ⟨by omega, by omega⟩) (fun R27236 T27237 H27238 p27239 => ?_))
              obtain ⟨e27240, w27242, f27243, e27241⟩ := p27239
              subst e27240
              subst e27241
              have f27244 := f27200.tr f27243 rfl
              have f27245 := f27197.tr f27243 rfl
              show wp _ _ 85 51 [(3, vI v27194), (0, .ref r0), (1, .ref r1), (2, .ref r2)] [] _ H27238 _
              refine wp_of e85 c85_51 (rw_aload_n (pc' := 52) (v := .ref r2) rfl rfl rfl ?_)
              refine wp_of e85 c85_52 (rw_aload_n (pc' := 53) (v := .ref r1) rfl rfl rfl ?_)
              refine wp_of e85 c85_53 (xc_V (pc' := 56) (r := r2) (as := [.ref r1]) (st := []) (lm_4_59) rfl rfl (Nat.le_of_ble_eq_true rfl) w27242 g2 sh_6 (by decide) rfl (by decide) (s_91 w27242 g2 g1) (fun R27246 T27247 H27248 p27249 => ?_))
              obtain ⟨e27250, w27252, f27253, e27251⟩ := p27249
              subst e27250
              subst e27251
              have f27254 := f27244.tr f27253 rfl
              have f27255 := f27245.tr f27253 rfl
              show wp _ _ 85 56 [(3, vI v27194), (0, .ref r0), (1, .ref r1), (2, .ref r2)] [] _ H27248 _
              refine wp_of e85 c85_56 (rw_iinc (pc' := 59) (z := v27194) (L' := [(3, vI (v27194 + 1)), (0, .ref r0), (1, .ref r1), (2, .ref r2)]) rfl rfl rfl rfl ?_)
              refine wp_of e85 c85_59 (rw_goto (p1 := 19) (by decide) ?_)
              exact wp_lc (ks := [3, 0, 1, 2]) (wl_c rfl (wl_c rfl (wl_c rfl (wl_c rfl wl_n)))) rfl (by decide) (ih27193 _ (by omega) (v27194 + 1) H27248 w27252 f27255 ⟨by omega, by omega⟩ rfl)
    exact wp_lc (ks := [3, 0, 1, 2]) (wl_c rfl (wl_c rfl (wl_c rfl (wl_c rfl wl_n)))) rfl (by decide) (lp27191 _ 0 H26848 w26852 wfr.rf ⟨by omega, by omega⟩ rfl)
  · exact wp_return e85 c85_7 rfl ⟨rfl, hW, f0, rfl⟩
/-! StrikeAwake.barOfWorlds(Z)I -/
theorem e83 : wq_en 83 = some (0, 3, false, some FieldType.int) := rfl
theorem cg83_0 : mc_cd 83 0 = some (.aload_n 0, 1) ∧ mc_cd 83 1 = some (.iload_n 1, 1) ∧ mc_cd 83 2 = some (.invokevirtual 245, 3) ∧ mc_cd 83 5 = some (.istore_n 2, 1) ∧ mc_cd 83 6 = some (.iload_n 2, 1) ∧ mc_cd 83 7 = some (.ifCond .ne 18, 3) ∧ mc_cd 83 10 = some (.aload_n 0, 1) ∧ mc_cd 83 11 = some (.getfield 30, 3) := by decide +kernel
theorem c83_0 : mc_cd 83 0 = some (.aload_n 0, 1) := cg83_0.1
theorem c83_1 : mc_cd 83 1 = some (.iload_n 1, 1) := cg83_0.2.1
theorem c83_2 : mc_cd 83 2 = some (.invokevirtual 245, 3) := cg83_0.2.2.1
theorem c83_5 : mc_cd 83 5 = some (.istore_n 2, 1) := cg83_0.2.2.2.1
theorem c83_6 : mc_cd 83 6 = some (.iload_n 2, 1) := cg83_0.2.2.2.2.1
theorem c83_7 : mc_cd 83 7 = some (.ifCond .ne 18, 3) := cg83_0.2.2.2.2.2.1
theorem c83_10 : mc_cd 83 10 = some (.aload_n 0, 1) := cg83_0.2.2.2.2.2.2.1
theorem c83_11 : mc_cd 83 11 = some (.getfield 30, 3) := cg83_0.2.2.2.2.2.2.2
theorem cg83_14 : mc_cd 83 14 = some (.aload_n 0, 1) ∧ mc_cd 83 15 = some (.getfield 51, 3) ∧ mc_cd 83 18 = some (.aload_n 0, 1) ∧ mc_cd 83 19 = some (.getfield 23, 3) ∧ mc_cd 83 22 = some (.invokevirtual 254, 3) ∧ mc_cd 83 25 = some (.iload_n 2, 1) ∧ mc_cd 83 26 = some (.ireturn, 1) := by decide +kernel
theorem c83_14 : mc_cd 83 14 = some (.aload_n 0, 1) := cg83_14.1
theorem c83_15 : mc_cd 83 15 = some (.getfield 51, 3) := cg83_14.2.1
theorem c83_18 : mc_cd 83 18 = some (.aload_n 0, 1) := cg83_14.2.2.1
theorem c83_19 : mc_cd 83 19 = some (.getfield 23, 3) := cg83_14.2.2.2.1
theorem c83_22 : mc_cd 83 22 = some (.invokevirtual 254, 3) := cg83_14.2.2.2.2.1
theorem c83_25 : mc_cd 83 25 = some (.iload_n 2, 1) := cg83_14.2.2.2.2.2.1
theorem c83_26 : mc_cd 83 26 = some (.ireturn, 1) := cg83_14.2.2.2.2.2.2
abbrev q_83 (r0 : Nat) (a1 : Int) (T : wq_T) (H : wq_H) : Option Value → wq_T → wq_H → Prop := fun r T' H' => T = T' ∧ WT T H' ∧ wfr [(12, 5), (12, 6), (12, 7), (12, 8), (12, 9), (6, 5), (8, 999), (10, 999), (15, 999), (9, 999), (18, 999), (19, 999), (7, 999), (11, 999), (17, 999), (13, 999)] T H H' ∧ ∃ z : Int, some (vI z) = r ∧ (0 ≤ z ∧ z ≤ 6) ∧ (z ≠ 0 ∨ a1 = 1)
set_option maxHeartbeats 4000000 in
theorem s_83 {kt : Nat → Option mc_E} {T : wq_T} {H : wq_H} {r0 : Nat} {a1 : Int} (hW : WT T H) (g0 : T.2.2.2 r0 = some 1) (i1 : 0 ≤ a1 ∧ a1 ≤ 1) : wpc kt 5 83 [.ref r0, vI a1] T H (q_83 r0 a1 T H) := by
  refine wp_enter e83 (Nat.le_of_ble_eq_true rfl) rfl ?_
  have f0 : wfr [(12, 5), (12, 6), (12, 7), (12, 8), (12, 9), (6, 5), (8, 999), (10, 999), (15, 999), (9, 999), (18, 999), (19, 999), (7, 999), (11, 999), (17, 999), (13, 999)] T H H := wfr.rf
  show wp _ _ 83 0 [(0, .ref r0), (1, vI a1)] [] _ H _
  refine wp_of e83 c83_0 (rw_aload_n (pc' := 1) (v := .ref r0) rfl rfl rfl ?_)
  refine wp_of e83 c83_1 (rw_iload_n (pc' := 2) (z := a1) rfl rfl ?_)
  refine wp_of e83 c83_2 (xc_V (pc' := 5) (r := r0) (as := [vI a1]) (st := []) (lm_0_245) rfl rfl (Nat.le_of_ble_eq_true rfl) hW g0 sh_1 (by decide) rfl (by decide) (s_84 hW g0 ⟨by omega, by omega⟩) (fun R27285 T27286 H27287 p27288 => ?_))
  obtain ⟨e27289, e27291, z27293, e27290, b27294, p27292⟩ := p27288
  subst e27289
  subst e27290
  subst e27291
  show wp _ _ 83 5 [(0, .ref r0), (1, vI a1)] [vI z27293] _ H _
  refine wp_of e83 c83_5 (rw_istore_n (pc' := 6) (z := z27293) (L' := [(2, vI z27293), (0, .ref r0), (1, vI a1)]) rfl rfl rfl ?_)
  refine wp_of e83 c83_6 (rw_iload_n (pc' := 7) (z := z27293) rfl rfl ?_)
  refine wp_of e83 c83_7 (rw_if_ne (p1 := 25) (p2 := 10) (by decide) rfl ⟨by omega, by omega⟩ (fun c27295 => ?_) (fun c27295 => ?_))
  · refine wp_of e83 c83_25 (rw_iload_n (pc' := 26) (z := z27293) rfl rfl ?_)
    exact wp_ireturn e83 c83_26 rfl ⟨rfl, hW, f0, z27293, rfl, ⟨by omega, by omega⟩, by omega⟩
  · refine wp_of e83 c83_10 (rw_aload_n (pc' := 11) (v := .ref r0) rfl rfl rfl ?_)
    refine wp_of e83 c83_11 (xg_R (pc' := 14) lf_0_30 hW g0 sh_1 (by decide) (by decide) ty_1_3 rfl rfl (fun r27296 q27297 g27298 => ?_))
    refine wp_of e83 c83_14 (rw_aload_n (pc' := 15) (v := .ref r0) rfl rfl rfl ?_)
    refine wp_of e83 c83_15 (xg_R (pc' := 18) lf_0_51 hW g0 sh_1 (by decide) (by decide) ty_1_6 rfl rfl (fun r27299 q27300 g27301 => ?_))
    refine wp_of e83 c83_18 (rw_aload_n (pc' := 19) (v := .ref r0) rfl rfl rfl ?_)
    refine wp_of e83 c83_19 (xg_R (pc' := 22) lf_0_23 hW g0 sh_1 (by decide) (by decide) ty_1_2 rfl rfl (fun r27302 q27303 g27304 => ?_))
    refine wp_of e83 c83_22 (xc_V (pc' := 25) (r := r27296) (as := [.ref r27299, .ref r27302]) (st := []) (lm_0_254) rfl rfl (Nat.le_of_ble_eq_true rfl) hW g27298 sh_12 (by decide) rfl (by decide) (s_85 hW g27298 g27301 g27304) (fun R27305 T27306 H27307 p27308 => ?_))
    obtain ⟨e27309, w27311, f27312, e27310⟩ := p27308
    subst e27309
    subst e27310
    have f27313 := f0.tr f27312 rfl
    show wp _ _ 83 25 [(2, vI z27293), (0, .ref r0), (1, vI a1)] [] _ H27307 _
    refine wp_of e83 c83_25 (rw_iload_n (pc' := 26) (z := z27293) rfl rfl ?_)
    exact wp_ireturn e83 c83_26 rfl ⟨rfl, w27311, f27313, z27293, rfl, ⟨by omega, by omega⟩, by omega⟩
/-! StrikeAwake.worlds()I -/
theorem e82 : wq_en 82 = some (0, 2, false, some FieldType.int) := rfl
theorem cg82_0 : mc_cd 82 0 = some (.aload_n 0, 1) ∧ mc_cd 82 1 = some (.aload_n 0, 1) ∧ mc_cd 82 2 = some (.getfield 58, 3) ∧ mc_cd 82 5 = some (.invokevirtual 174, 3) ∧ mc_cd 82 8 = some (.istore_n 1, 1) ∧ mc_cd 82 9 = some (.iload_n 1, 1) ∧ mc_cd 82 10 = some (.ifCond .eq 9, 3) ∧ mc_cd 82 13 = some (.aload_n 0, 1) := by decide +kernel
theorem c82_0 : mc_cd 82 0 = some (.aload_n 0, 1) := cg82_0.1
theorem c82_1 : mc_cd 82 1 = some (.aload_n 0, 1) := cg82_0.2.1
theorem c82_2 : mc_cd 82 2 = some (.getfield 58, 3) := cg82_0.2.2.1
theorem c82_5 : mc_cd 82 5 = some (.invokevirtual 174, 3) := cg82_0.2.2.2.1
theorem c82_8 : mc_cd 82 8 = some (.istore_n 1, 1) := cg82_0.2.2.2.2.1
theorem c82_9 : mc_cd 82 9 = some (.iload_n 1, 1) := cg82_0.2.2.2.2.2.1
theorem c82_10 : mc_cd 82 10 = some (.ifCond .eq 9, 3) := cg82_0.2.2.2.2.2.2.1
theorem c82_13 : mc_cd 82 13 = some (.aload_n 0, 1) := cg82_0.2.2.2.2.2.2.2
theorem cg82_14 : mc_cd 82 14 = some (.iload_n 1, 1) ∧ mc_cd 82 15 = some (.invokevirtual 70, 3) ∧ mc_cd 82 18 = some (.ireturn, 1) ∧ mc_cd 82 19 = some (.aload_n 0, 1) ∧ mc_cd 82 20 = some (.aload_n 0, 1) ∧ mc_cd 82 21 = some (.getfield 30, 3) ∧ mc_cd 82 24 = some (.getfield 177, 3) ∧ mc_cd 82 27 = some (.invokevirtual 99, 3) := by decide +kernel
theorem c82_14 : mc_cd 82 14 = some (.iload_n 1, 1) := cg82_14.1
theorem c82_15 : mc_cd 82 15 = some (.invokevirtual 70, 3) := cg82_14.2.1
theorem c82_18 : mc_cd 82 18 = some (.ireturn, 1) := cg82_14.2.2.1
theorem c82_19 : mc_cd 82 19 = some (.aload_n 0, 1) := cg82_14.2.2.2.1
theorem c82_20 : mc_cd 82 20 = some (.aload_n 0, 1) := cg82_14.2.2.2.2.1
theorem c82_21 : mc_cd 82 21 = some (.getfield 30, 3) := cg82_14.2.2.2.2.2.1
theorem c82_24 : mc_cd 82 24 = some (.getfield 177, 3) := cg82_14.2.2.2.2.2.2.1
theorem c82_27 : mc_cd 82 27 = some (.invokevirtual 99, 3) := cg82_14.2.2.2.2.2.2.2
theorem c82_30 : mc_cd 82 30 = some (.ireturn, 1) := by decide +kernel
abbrev q_82 (r0 : Nat) (T : wq_T) (H : wq_H) : Option Value → wq_T → wq_H → Prop := fun r T' H' => T = T' ∧ WT T H' ∧ wfr [(12, 5), (12, 6), (12, 7), (12, 8), (12, 9), (1, 10), (6, 5), (8, 999), (10, 999), (15, 999), (9, 999), (18, 999), (19, 999), (7, 999), (11, 999), (17, 999), (13, 999)] T H H' ∧ ∃ z : Int, some (vI z) = r ∧ ((-2147483648) ≤ z ∧ z ≤ 2147483647)
set_option maxHeartbeats 4000000 in
theorem s_82 {kt : Nat → Option mc_E} {T : wq_T} {H : wq_H} {r0 : Nat} (hW : WT T H) (g0 : T.2.2.2 r0 = some 1) : wpc kt 6 82 [.ref r0] T H (q_82 r0 T H) := by
  refine wp_enter e82 (Nat.le_of_ble_eq_true rfl) rfl ?_
  have f0 : wfr [(12, 5), (12, 6), (12, 7), (12, 8), (12, 9), (1, 10), (6, 5), (8, 999), (10, 999), (15, 999), (9, 999), (18, 999), (19, 999), (7, 999), (11, 999), (17, 999), (13, 999)] T H H := wfr.rf
  show wp _ _ 82 0 [(0, .ref r0)] [] _ H _
  refine wp_of e82 c82_0 (rw_aload_n (pc' := 1) (v := .ref r0) rfl rfl rfl ?_)
  refine wp_of e82 c82_1 (rw_aload_n (pc' := 2) (v := .ref r0) rfl rfl rfl ?_)
  refine wp_of e82 c82_2 (xg_I (pc' := 5) lf_0_58 hW g0 sh_1 (by decide) (by decide) ty_1_8 rfl rfl (fun b27356 b27357 => ?_))
  refine wp_of e82 c82_5 (xc_V (pc' := 8) (r := r0) (as := [vI (H r0 8)]) (st := []) (lm_0_174) rfl rfl (Nat.le_of_ble_eq_true rfl) hW g0 sh_1 (by decide) rfl (by decide) (s_83 hW g0 ⟨by omega, by omega⟩) (fun R27358 T27359 H27360 p27361 => ?_))
  obtain ⟨e27362, w27364, f27365, z27367, e27363, b27368, p27366⟩ := p27361
  subst e27362
  subst e27363
  have f27369 := f0.tr f27365 rfl
  show wp _ _ 82 8 [(0, .ref r0)] [vI z27367] _ H27360 _
  refine wp_of e82 c82_8 (rw_istore_n (pc' := 9) (z := z27367) (L' := [(1, vI z27367), (0, .ref r0)]) rfl rfl rfl ?_)
  refine wp_of e82 c82_9 (rw_iload_n (pc' := 10) (z := z27367) rfl rfl ?_)
  refine wp_of e82 c82_10 (rw_if_eq (p1 := 19) (p2 := 13) (by decide) rfl ⟨by omega, by omega⟩ (fun c27370 => ?_) (fun c27370 => ?_))
  · refine wp_of e82 c82_19 (rw_aload_n (pc' := 20) (v := .ref r0) rfl rfl rfl ?_)
    refine wp_of e82 c82_20 (rw_aload_n (pc' := 21) (v := .ref r0) rfl rfl rfl ?_)
    refine wp_of e82 c82_21 (xg_R (pc' := 24) lf_0_30 w27364 g0 sh_1 (by decide) (by decide) ty_1_3 rfl rfl (fun r27371 q27372 g27373 => ?_))
    refine wp_of e82 c82_24 (xg_I (pc' := 27) lf_0_177 w27364 g27373 sh_12 (by decide) (by decide) ty_12_5 rfl rfl (fun b27374 b27375 => ?_))
    refine wp_of e82 c82_27 (xc_V (pc' := 30) (r := r0) (as := [vI (H27360 r27371 5)]) (st := []) (lm_0_99) rfl rfl (Nat.le_of_ble_eq_true rfl) w27364 g0 sh_1 (by decide) rfl (by decide) (s_51 w27364 g0 ⟨by omega, by omega⟩) (fun R27376 T27377 H27378 p27379 => ?_))
    obtain ⟨e27380, w27382, f27383, z27384, e27381, b27385⟩ := p27379
    subst e27380
    subst e27381
    have f27386 := f27369.tr f27383 rfl
    show wp _ _ 82 30 [(1, vI z27367), (0, .ref r0)] [vI z27384] _ H27378 _
    exact wp_ireturn e82 c82_30 rfl ⟨rfl, w27382, f27386, z27384, rfl, ⟨by omega, by omega⟩⟩
  · refine wp_of e82 c82_13 (rw_aload_n (pc' := 14) (v := .ref r0) rfl rfl rfl ?_)
    refine wp_of e82 c82_14 (rw_iload_n (pc' := 15) (z := z27367) rfl rfl ?_)
    refine wp_of e82 c82_15 (xc_V (pc' := 18) (r := r0) (as := [vI z27367]) (st := []) (lm_0_70) rfl rfl (Nat.le_of_ble_eq_true rfl) w27364 g0 sh_1 (by decide) rfl (by decide) (s_12 w27364 g0 ⟨by omega, by omega⟩) (fun R27387 T27388 H27389 p27390 => ?_))
    obtain ⟨e27391, w27393, f27394, z27395, e27392, b27396⟩ := p27390
    subst e27391
    subst e27392
    have f27397 := f27369.tr f27394 rfl
    show wp _ _ 82 18 [(1, vI z27367), (0, .ref r0)] [vI z27395] _ H27389 _
    exact wp_ireturn e82 c82_18 rfl ⟨rfl, w27393, f27397, z27395, rfl, ⟨by omega, by omega⟩⟩
/-! StrikeAwake.can()I -/
theorem e92 : wq_en 92 = some (0, 2, false, some FieldType.int) := rfl
theorem cg92_0 : mc_cd 92 0 = some (.aload_n 0, 1) ∧ mc_cd 92 1 = some (.aload_n 0, 1) ∧ mc_cd 92 2 = some (.getfield 58, 3) ∧ mc_cd 92 5 = some (.invokevirtual 174, 3) ∧ mc_cd 92 8 = some (.istore_n 1, 1) ∧ mc_cd 92 9 = some (.iload_n 1, 1) ∧ mc_cd 92 10 = some (.ifCond .eq 9, 3) ∧ mc_cd 92 13 = some (.aload_n 0, 1) := by decide +kernel
theorem c92_0 : mc_cd 92 0 = some (.aload_n 0, 1) := cg92_0.1
theorem c92_1 : mc_cd 92 1 = some (.aload_n 0, 1) := cg92_0.2.1
theorem c92_2 : mc_cd 92 2 = some (.getfield 58, 3) := cg92_0.2.2.1
theorem c92_5 : mc_cd 92 5 = some (.invokevirtual 174, 3) := cg92_0.2.2.2.1
theorem c92_8 : mc_cd 92 8 = some (.istore_n 1, 1) := cg92_0.2.2.2.2.1
theorem c92_9 : mc_cd 92 9 = some (.iload_n 1, 1) := cg92_0.2.2.2.2.2.1
theorem c92_10 : mc_cd 92 10 = some (.ifCond .eq 9, 3) := cg92_0.2.2.2.2.2.2.1
theorem c92_13 : mc_cd 92 13 = some (.aload_n 0, 1) := cg92_0.2.2.2.2.2.2.2
theorem cg92_14 : mc_cd 92 14 = some (.iload_n 1, 1) ∧ mc_cd 92 15 = some (.invokevirtual 70, 3) ∧ mc_cd 92 18 = some (.ireturn, 1) ∧ mc_cd 92 19 = some (.aload_n 0, 1) ∧ mc_cd 92 20 = some (.aload_n 0, 1) ∧ mc_cd 92 21 = some (.getfield 30, 3) ∧ mc_cd 92 24 = some (.getfield 177, 3) ∧ mc_cd 92 27 = some (.ifCond .le 7, 3) := by decide +kernel
theorem c92_14 : mc_cd 92 14 = some (.iload_n 1, 1) := cg92_14.1
theorem c92_15 : mc_cd 92 15 = some (.invokevirtual 70, 3) := cg92_14.2.1
theorem c92_18 : mc_cd 92 18 = some (.ireturn, 1) := cg92_14.2.2.1
theorem c92_19 : mc_cd 92 19 = some (.aload_n 0, 1) := cg92_14.2.2.2.1
theorem c92_20 : mc_cd 92 20 = some (.aload_n 0, 1) := cg92_14.2.2.2.2.1
theorem c92_21 : mc_cd 92 21 = some (.getfield 30, 3) := cg92_14.2.2.2.2.2.1
theorem c92_24 : mc_cd 92 24 = some (.getfield 177, 3) := cg92_14.2.2.2.2.2.2.1
theorem c92_27 : mc_cd 92 27 = some (.ifCond .le 7, 3) := cg92_14.2.2.2.2.2.2.2
theorem cg92_30 : mc_cd 92 30 = some (.iconst 1, 1) ∧ mc_cd 92 31 = some (.goto 4, 3) ∧ mc_cd 92 34 = some (.iconst 0, 1) ∧ mc_cd 92 35 = some (.invokevirtual 99, 3) ∧ mc_cd 92 38 = some (.ireturn, 1) := by decide +kernel
theorem c92_30 : mc_cd 92 30 = some (.iconst 1, 1) := cg92_30.1
theorem c92_31 : mc_cd 92 31 = some (.goto 4, 3) := cg92_30.2.1
theorem c92_34 : mc_cd 92 34 = some (.iconst 0, 1) := cg92_30.2.2.1
theorem c92_35 : mc_cd 92 35 = some (.invokevirtual 99, 3) := cg92_30.2.2.2.1
theorem c92_38 : mc_cd 92 38 = some (.ireturn, 1) := cg92_30.2.2.2.2
abbrev q_92 (r0 : Nat) (T : wq_T) (H : wq_H) : Option Value → wq_T → wq_H → Prop := fun r T' H' => T = T' ∧ WT T H' ∧ wfr [(12, 5), (12, 6), (12, 7), (12, 8), (12, 9), (1, 10), (6, 5), (8, 999), (10, 999), (15, 999), (9, 999), (18, 999), (19, 999), (7, 999), (11, 999), (17, 999), (13, 999)] T H H' ∧ ∃ z : Int, some (vI z) = r ∧ ((-2147483648) ≤ z ∧ z ≤ 2147483647)
set_option maxHeartbeats 4000000 in
theorem s_92 {kt : Nat → Option mc_E} {T : wq_T} {H : wq_H} {r0 : Nat} (hW : WT T H) (g0 : T.2.2.2 r0 = some 1) : wpc kt 6 92 [.ref r0] T H (q_92 r0 T H) := by
  refine wp_enter e92 (Nat.le_of_ble_eq_true rfl) rfl ?_
  have f0 : wfr [(12, 5), (12, 6), (12, 7), (12, 8), (12, 9), (1, 10), (6, 5), (8, 999), (10, 999), (15, 999), (9, 999), (18, 999), (19, 999), (7, 999), (11, 999), (17, 999), (13, 999)] T H H := wfr.rf
  show wp _ _ 92 0 [(0, .ref r0)] [] _ H _
  refine wp_of e92 c92_0 (rw_aload_n (pc' := 1) (v := .ref r0) rfl rfl rfl ?_)
  refine wp_of e92 c92_1 (rw_aload_n (pc' := 2) (v := .ref r0) rfl rfl rfl ?_)
  refine wp_of e92 c92_2 (xg_I (pc' := 5) lf_0_58 hW g0 sh_1 (by decide) (by decide) ty_1_8 rfl rfl (fun b27452 b27453 => ?_))
  refine wp_of e92 c92_5 (xc_V (pc' := 8) (r := r0) (as := [vI (H r0 8)]) (st := []) (lm_0_174) rfl rfl (Nat.le_of_ble_eq_true rfl) hW g0 sh_1 (by decide) rfl (by decide) (s_83 hW g0 ⟨by omega, by omega⟩) (fun R27454 T27455 H27456 p27457 => ?_))
  obtain ⟨e27458, w27460, f27461, z27463, e27459, b27464, p27462⟩ := p27457
  subst e27458
  subst e27459
  have f27465 := f0.tr f27461 rfl
  show wp _ _ 92 8 [(0, .ref r0)] [vI z27463] _ H27456 _
  refine wp_of e92 c92_8 (rw_istore_n (pc' := 9) (z := z27463) (L' := [(1, vI z27463), (0, .ref r0)]) rfl rfl rfl ?_)
  refine wp_of e92 c92_9 (rw_iload_n (pc' := 10) (z := z27463) rfl rfl ?_)
  refine wp_of e92 c92_10 (rw_if_eq (p1 := 19) (p2 := 13) (by decide) rfl ⟨by omega, by omega⟩ (fun c27466 => ?_) (fun c27466 => ?_))
  · refine wp_of e92 c92_19 (rw_aload_n (pc' := 20) (v := .ref r0) rfl rfl rfl ?_)
    refine wp_of e92 c92_20 (rw_aload_n (pc' := 21) (v := .ref r0) rfl rfl rfl ?_)
    refine wp_of e92 c92_21 (xg_R (pc' := 24) lf_0_30 w27460 g0 sh_1 (by decide) (by decide) ty_1_3 rfl rfl (fun r27467 q27468 g27469 => ?_))
    refine wp_of e92 c92_24 (xg_I (pc' := 27) lf_0_177 w27460 g27469 sh_12 (by decide) (by decide) ty_12_5 rfl rfl (fun b27470 b27471 => ?_))
    refine wp_of e92 c92_27 (rw_if_le (p1 := 34) (p2 := 30) (by decide) rfl ⟨by omega, by omega⟩ (fun c27472 => ?_) (fun c27472 => ?_))
    · refine wp_of e92 c92_34 (rw_iconst (pc' := 35) rfl ?_)
      refine wp_of e92 c92_35 (xc_V (pc' := 38) (r := r0) (as := [vI 0]) (st := []) (lm_0_99) rfl rfl (Nat.le_of_ble_eq_true rfl) w27460 g0 sh_1 (by decide) rfl (by decide) (s_51 w27460 g0 ⟨by omega, by omega⟩) (fun R27473 T27474 H27475 p27476 => ?_))
      obtain ⟨e27477, w27479, f27480, z27481, e27478, b27482⟩ := p27476
      subst e27477
      subst e27478
      have f27483 := f27465.tr f27480 rfl
      show wp _ _ 92 38 [(1, vI z27463), (0, .ref r0)] [vI z27481] _ H27475 _
      exact wp_ireturn e92 c92_38 rfl ⟨rfl, w27479, f27483, z27481, rfl, ⟨by omega, by omega⟩⟩
    · refine wp_of e92 c92_30 (rw_iconst (pc' := 31) rfl ?_)
      refine wp_of e92 c92_31 (rw_goto (p1 := 35) (by decide) ?_)
      refine wp_of e92 c92_35 (xc_V (pc' := 38) (r := r0) (as := [vI 1]) (st := []) (lm_0_99) rfl rfl (Nat.le_of_ble_eq_true rfl) w27460 g0 sh_1 (by decide) rfl (by decide) (s_51 w27460 g0 ⟨by omega, by omega⟩) (fun R27484 T27485 H27486 p27487 => ?_))
      obtain ⟨e27488, w27490, f27491, z27492, e27489, b27493⟩ := p27487
      subst e27488
      subst e27489
      have f27494 := f27465.tr f27491 rfl
      show wp _ _ 92 38 [(1, vI z27463), (0, .ref r0)] [vI z27492] _ H27486 _
      exact wp_ireturn e92 c92_38 rfl ⟨rfl, w27490, f27494, z27492, rfl, ⟨by omega, by omega⟩⟩
  · refine wp_of e92 c92_13 (rw_aload_n (pc' := 14) (v := .ref r0) rfl rfl rfl ?_)
    refine wp_of e92 c92_14 (rw_iload_n (pc' := 15) (z := z27463) rfl rfl ?_)
    refine wp_of e92 c92_15 (xc_V (pc' := 18) (r := r0) (as := [vI z27463]) (st := []) (lm_0_70) rfl rfl (Nat.le_of_ble_eq_true rfl) w27460 g0 sh_1 (by decide) rfl (by decide) (s_12 w27460 g0 ⟨by omega, by omega⟩) (fun R27495 T27496 H27497 p27498 => ?_))
    obtain ⟨e27499, w27501, f27502, z27503, e27500, b27504⟩ := p27498
    subst e27499
    subst e27500
    have f27505 := f27465.tr f27502 rfl
    show wp _ _ 92 18 [(1, vI z27463), (0, .ref r0)] [vI z27503] _ H27497 _
    exact wp_ireturn e92 c92_18 rfl ⟨rfl, w27501, f27505, z27503, rfl, ⟨by omega, by omega⟩⟩
/-! StrikeAwake$Census.isWorld(I)Z -/
theorem e95 : wq_en 95 = some (4, 2, false, some FieldType.boolean) := rfl
theorem cg95_0 : mc_cd 95 0 = some (.aload_n 0, 1) ∧ mc_cd 95 1 = some (.getfield 11, 3) ∧ mc_cd 95 4 = some (.iload_n 1, 1) ∧ mc_cd 95 5 = some (.bipush 64, 2) ∧ mc_cd 95 7 = some (.idiv, 1) ∧ mc_cd 95 8 = some (.laload, 1) ∧ mc_cd 95 9 = some (.iload_n 1, 1) ∧ mc_cd 95 10 = some (.bipush 64, 2) := by decide +kernel
theorem c95_0 : mc_cd 95 0 = some (.aload_n 0, 1) := cg95_0.1
theorem c95_1 : mc_cd 95 1 = some (.getfield 11, 3) := cg95_0.2.1
theorem c95_4 : mc_cd 95 4 = some (.iload_n 1, 1) := cg95_0.2.2.1
theorem c95_5 : mc_cd 95 5 = some (.bipush 64, 2) := cg95_0.2.2.2.1
theorem c95_7 : mc_cd 95 7 = some (.idiv, 1) := cg95_0.2.2.2.2.1
theorem c95_8 : mc_cd 95 8 = some (.laload, 1) := cg95_0.2.2.2.2.2.1
theorem c95_9 : mc_cd 95 9 = some (.iload_n 1, 1) := cg95_0.2.2.2.2.2.2.1
theorem c95_10 : mc_cd 95 10 = some (.bipush 64, 2) := cg95_0.2.2.2.2.2.2.2
theorem cg95_12 : mc_cd 95 12 = some (.irem, 1) ∧ mc_cd 95 13 = some (.lshr, 1) ∧ mc_cd 95 14 = some (.lconst 1, 1) ∧ mc_cd 95 15 = some (.land, 1) ∧ mc_cd 95 16 = some (.lconst 0, 1) ∧ mc_cd 95 17 = some (.lcmp, 1) ∧ mc_cd 95 18 = some (.ifCond .eq 7, 3) ∧ mc_cd 95 21 = some (.iconst 1, 1) := by decide +kernel
theorem c95_12 : mc_cd 95 12 = some (.irem, 1) := cg95_12.1
theorem c95_13 : mc_cd 95 13 = some (.lshr, 1) := cg95_12.2.1
theorem c95_14 : mc_cd 95 14 = some (.lconst 1, 1) := cg95_12.2.2.1
theorem c95_15 : mc_cd 95 15 = some (.land, 1) := cg95_12.2.2.2.1
theorem c95_16 : mc_cd 95 16 = some (.lconst 0, 1) := cg95_12.2.2.2.2.1
theorem c95_17 : mc_cd 95 17 = some (.lcmp, 1) := cg95_12.2.2.2.2.2.1
theorem c95_18 : mc_cd 95 18 = some (.ifCond .eq 7, 3) := cg95_12.2.2.2.2.2.2.1
theorem c95_21 : mc_cd 95 21 = some (.iconst 1, 1) := cg95_12.2.2.2.2.2.2.2
theorem cg95_22 : mc_cd 95 22 = some (.goto 4, 3) ∧ mc_cd 95 25 = some (.iconst 0, 1) ∧ mc_cd 95 26 = some (.ireturn, 1) := by decide +kernel
theorem c95_22 : mc_cd 95 22 = some (.goto 4, 3) := cg95_22.1
theorem c95_25 : mc_cd 95 25 = some (.iconst 0, 1) := cg95_22.2.1
theorem c95_26 : mc_cd 95 26 = some (.ireturn, 1) := cg95_22.2.2
abbrev q_95 (r0 : Nat) (a1 : Int) (T : wq_T) (H : wq_H) : Option Value → wq_T → wq_H → Prop := fun r T' H' => T = T' ∧ H = H' ∧ ∃ z : Int, some (vI z) = r ∧ (0 ≤ z ∧ z ≤ 1)
set_option maxHeartbeats 4000000 in
theorem s_95 {kt : Nat → Option mc_E} {T : wq_T} {H : wq_H} {r0 : Nat} {a1 : Int} (hW : WT T H) (g0 : T.2.2.2 r0 = some 12) (i1 : 0 ≤ a1 ∧ a1 ≤ 19999) : wpc kt 1 95 [.ref r0, vI a1] T H (q_95 r0 a1 T H) := by
  refine wp_enter e95 (Nat.le_of_ble_eq_true rfl) rfl ?_
  show wp _ _ 95 0 [(0, .ref r0), (1, vI a1)] [] _ H _
  refine wp_of e95 c95_0 (rw_aload_n (pc' := 1) (v := .ref r0) rfl rfl rfl ?_)
  refine wp_of e95 c95_1 (xg_R (pc' := 4) lf_4_11 hW g0 sh_12 (by decide) (by decide) ty_12_0 rfl rfl (fun r27521 q27522 g27523 => ?_))
  refine wp_of e95 c95_4 (rw_iload_n (pc' := 5) (z := a1) rfl rfl ?_)
  refine wp_of e95 c95_5 (rw_bipush (pc' := 7) (z := 64) rfl (by decide) ?_)
  refine wp_of e95 c95_7 (rw_idiv (pc' := 8) rfl ⟨by omega, by omega⟩ (by omega) ?_)
  obtain ⟨v27524, e27525⟩ : ∃ x : Int, x = wq_div a1 64 := ⟨_, rfl⟩
  rw [← e27525]
  have b27526 : v27524 = a1 / 64 := by
    rw [e27525]
    exact wq_div_e ⟨by omega, by omega⟩ ⟨by omega, by omega⟩
  refine wp_of e95 c95_8 (xa_L (pc' := 9) hW g27523 sh_13 (by decide) (ty_13 _) (by omega) (by omega) rfl (fun b27527 b27528 => ?_))
  refine wp_of e95 c95_9 (rw_iload_n (pc' := 10) (z := a1) rfl rfl ?_)
  refine wp_of e95 c95_10 (rw_bipush (pc' := 12) (z := 64) rfl (by decide) ?_)
  refine wp_of e95 c95_12 (rw_irem (pc' := 13) rfl ⟨by omega, by omega⟩ (by omega) ?_)
  obtain ⟨v27529, e27530⟩ : ∃ x : Int, x = wq_rem a1 64 := ⟨_, rfl⟩
  rw [← e27530]
  have b27531 : v27529 = a1 % 64 := by
    rw [e27530]
    exact wq_rem_e ⟨by omega, by omega⟩ ⟨by omega, by omega⟩
  refine wp_of e95 c95_13 (rw_lshr (pc' := 14) rfl ?_)
  obtain ⟨v27532, e27533⟩ : ∃ x : Int, x = wl_shr (H r27521 (v27524.toNat)) v27529 := ⟨_, rfl⟩
  rw [← e27533]
  have b27534 : -9223372036854775808 ≤ v27532 ∧ v27532 ≤ 9223372036854775807 := by
    rw [e27533]
    exact wL_shr _ _
  refine wp_of e95 c95_14 (rw_lconst (pc' := 15) (z := 1) rfl rfl ?_)
  refine wp_of e95 c95_15 (rw_land (pc' := 16) rfl ?_)
  obtain ⟨v27535, e27536⟩ : ∃ x : Int, x = wl_and v27532 1 := ⟨_, rfl⟩
  rw [← e27536]
  have b27537 : -9223372036854775808 ≤ v27535 ∧ v27535 ≤ 9223372036854775807 := by
    rw [e27536]
    exact wL_and _ _
  refine wp_of e95 c95_16 (rw_lconst (pc' := 17) (z := 0) rfl rfl ?_)
  refine wp_of e95 c95_17 (rw_lcmp (pc' := 18) rfl ⟨by omega, by omega⟩ ⟨by omega, by omega⟩ ?_)
  have b27538 := wq_cmp_b v27535 0
  refine wp_of e95 c95_18 (rw_if_eq (p1 := 25) (p2 := 21) (by decide) rfl ⟨by omega, by omega⟩ (fun c27539 => ?_) (fun c27539 => ?_))
  · refine wp_of e95 c95_25 (rw_iconst (pc' := 26) rfl ?_)
    exact wp_zreturn e95 c95_26 rfl (by omega) ⟨rfl, rfl, 0, rfl, ⟨by omega, by omega⟩⟩
  · refine wp_of e95 c95_21 (rw_iconst (pc' := 22) rfl ?_)
    refine wp_of e95 c95_22 (rw_goto (p1 := 26) (by decide) ?_)
    exact wp_zreturn e95 c95_26 rfl (by omega) ⟨rfl, rfl, 1, rfl, ⟨by omega, by omega⟩⟩
/-! StrikeAwake$Census.numberOf(I)I -/
theorem e94 : wq_en 94 = some (4, 4, false, some FieldType.int) := rfl
theorem cg94_0 : mc_cd 94 0 = some (.iconst 0, 1) ∧ mc_cd 94 1 = some (.istore_n 2, 1) ∧ mc_cd 94 2 = some (.iconst 0, 1) ∧ mc_cd 94 3 = some (.istore_n 3, 1) ∧ mc_cd 94 4 = some (.iload_n 3, 1) ∧ mc_cd 94 5 = some (.sipush 20000, 3) ∧ mc_cd 94 8 = some (.if_icmp .ge 27, 3) ∧ mc_cd 94 11 = some (.aload_n 0, 1) := by decide +kernel
theorem c94_0 : mc_cd 94 0 = some (.iconst 0, 1) := cg94_0.1
theorem c94_1 : mc_cd 94 1 = some (.istore_n 2, 1) := cg94_0.2.1
theorem c94_2 : mc_cd 94 2 = some (.iconst 0, 1) := cg94_0.2.2.1
theorem c94_3 : mc_cd 94 3 = some (.istore_n 3, 1) := cg94_0.2.2.2.1
theorem c94_4 : mc_cd 94 4 = some (.iload_n 3, 1) := cg94_0.2.2.2.2.1
theorem c94_5 : mc_cd 94 5 = some (.sipush 20000, 3) := cg94_0.2.2.2.2.2.1
theorem c94_8 : mc_cd 94 8 = some (.if_icmp .ge 27, 3) := cg94_0.2.2.2.2.2.2.1
theorem c94_11 : mc_cd 94 11 = some (.aload_n 0, 1) := cg94_0.2.2.2.2.2.2.2
theorem cg94_12 : mc_cd 94 12 = some (.iload_n 3, 1) ∧ mc_cd 94 13 = some (.invokevirtual 113, 3) ∧ mc_cd 94 16 = some (.ifCond .eq 13, 3) ∧ mc_cd 94 19 = some (.iload_n 2, 1) ∧ mc_cd 94 20 = some (.iload_n 1, 1) ∧ mc_cd 94 21 = some (.if_icmp .ne 5, 3) ∧ mc_cd 94 24 = some (.iload_n 3, 1) ∧ mc_cd 94 25 = some (.ireturn, 1) := by decide +kernel
theorem c94_12 : mc_cd 94 12 = some (.iload_n 3, 1) := cg94_12.1
theorem c94_13 : mc_cd 94 13 = some (.invokevirtual 113, 3) := cg94_12.2.1
theorem c94_16 : mc_cd 94 16 = some (.ifCond .eq 13, 3) := cg94_12.2.2.1
theorem c94_19 : mc_cd 94 19 = some (.iload_n 2, 1) := cg94_12.2.2.2.1
theorem c94_20 : mc_cd 94 20 = some (.iload_n 1, 1) := cg94_12.2.2.2.2.1
theorem c94_21 : mc_cd 94 21 = some (.if_icmp .ne 5, 3) := cg94_12.2.2.2.2.2.1
theorem c94_24 : mc_cd 94 24 = some (.iload_n 3, 1) := cg94_12.2.2.2.2.2.2.1
theorem c94_25 : mc_cd 94 25 = some (.ireturn, 1) := cg94_12.2.2.2.2.2.2.2
theorem cg94_26 : mc_cd 94 26 = some (.iinc 2 1, 3) ∧ mc_cd 94 29 = some (.iinc 3 1, 3) ∧ mc_cd 94 32 = some (.goto (-28), 3) ∧ mc_cd 94 35 = some (.iconst 0, 1) ∧ mc_cd 94 36 = some (.ireturn, 1) := by decide +kernel
theorem c94_26 : mc_cd 94 26 = some (.iinc 2 1, 3) := cg94_26.1
theorem c94_29 : mc_cd 94 29 = some (.iinc 3 1, 3) := cg94_26.2.1
theorem c94_32 : mc_cd 94 32 = some (.goto (-28), 3) := cg94_26.2.2.1
theorem c94_35 : mc_cd 94 35 = some (.iconst 0, 1) := cg94_26.2.2.2.1
theorem c94_36 : mc_cd 94 36 = some (.ireturn, 1) := cg94_26.2.2.2.2
abbrev q_94 (r0 : Nat) (a1 : Int) (T : wq_T) (H : wq_H) : Option Value → wq_T → wq_H → Prop := fun r T' H' => T = T' ∧ H = H' ∧ ∃ z : Int, some (vI z) = r ∧ (0 ≤ z ∧ z ≤ 19999)
set_option maxHeartbeats 4000000 in
theorem s_94 {kt : Nat → Option mc_E} {T : wq_T} {H : wq_H} {r0 : Nat} {a1 : Int} (hW : WT T H) (g0 : T.2.2.2 r0 = some 12) (i1 : (-2147483648) ≤ a1 ∧ a1 ≤ 2147483647) : wpc kt 2 94 [.ref r0, vI a1] T H (q_94 r0 a1 T H) := by
  refine wp_enter e94 (Nat.le_of_ble_eq_true rfl) rfl ?_
  show wp _ _ 94 0 [(0, .ref r0), (1, vI a1)] [] _ H _
  refine wp_of e94 c94_0 (rw_iconst (pc' := 1) rfl ?_)
  refine wp_of e94 c94_1 (rw_istore_n (pc' := 2) (z := 0) (L' := [(2, vI 0), (0, .ref r0), (1, vI a1)]) rfl rfl rfl ?_)
  refine wp_of e94 c94_2 (rw_iconst (pc' := 3) rfl ?_)
  refine wp_of e94 c94_3 (rw_istore_n (pc' := 4) (z := 0) (L' := [(3, vI 0), (2, vI 0), (0, .ref r0), (1, vI a1)]) rfl rfl rfl ?_)
  have lp27745 : ∀ (n27746 : Nat) (v27748 : Int) (v27749 : Int), (0 ≤ v27748 ∧ v27748 ≤ 20000) → (0 ≤ v27749 ∧ v27749 ≤ 20000) → (v27749 ≤ v27748) → (20000 - v27748).toNat = n27746 → wp kt 1 94 4 [(3, vI v27748), (2, vI v27749), (0, .ref r0), (1, vI a1)] [] T H (q_94 r0 a1 T H) := by
    intro n27746
    induction n27746 using Nat.strongRecOn with
    | _ n27746 ih27747 =>
      intro v27748 v27749 b27752 b27753 x27754 m27755
      refine wp_of e94 c94_4 (rw_iload_n (pc' := 5) (z := v27748) rfl rfl ?_)
      refine wp_of e94 c94_5 (rw_sipush (pc' := 8) (z := 20000) rfl (by decide) ?_)
      refine wp_of e94 c94_8 (rw_icmp_ge (p1 := 35) (p2 := 11) (by decide) rfl ⟨by omega, by omega⟩ ⟨by omega, by omega⟩ (fun c27756 => ?_) (fun c27756 => ?_))
      · refine wp_of e94 c94_35 (rw_iconst (pc' := 36) rfl ?_)
        exact wp_ireturn e94 c94_36 rfl ⟨rfl, rfl, 0, rfl, ⟨by omega, by omega⟩⟩
      · refine wp_of e94 c94_11 (rw_aload_n (pc' := 12) (v := .ref r0) rfl rfl rfl ?_)
        refine wp_of e94 c94_12 (rw_iload_n (pc' := 13) (z := v27748) rfl rfl ?_)
        refine wp_of e94 c94_13 (xc_V (pc' := 16) (r := r0) (as := [vI v27748]) (st := []) (lm_4_113) rfl rfl (Nat.le_of_ble_eq_true rfl) hW g0 sh_12 (by decide) rfl (by decide) (s_95 hW g0 ⟨by omega, by omega⟩) (fun R27757 T27758 H27759 p27760 => ?_))
        obtain ⟨e27761, e27763, z27764, e27762, b27765⟩ := p27760
        subst e27761
        subst e27762
        subst e27763
        show wp _ _ 94 16 [(3, vI v27748), (2, vI v27749), (0, .ref r0), (1, vI a1)] [vI z27764] _ H _
        refine wp_of e94 c94_16 (rw_if_eq (p1 := 29) (p2 := 19) (by decide) rfl ⟨by omega, by omega⟩ (fun c27766 => ?_) (fun c27766 => ?_))
        · refine wp_of e94 c94_29 (rw_iinc (pc' := 32) (z := v27748) (L' := [(3, vI (v27748 + 1)), (2, vI v27749), (0, .ref r0), (1, vI a1)]) rfl rfl rfl rfl ?_)
          refine wp_of e94 c94_32 (rw_goto (p1 := 4) (by decide) ?_)
          exact wp_lc (ks := [3, 2, 0, 1]) (wl_c rfl (wl_c rfl (wl_c rfl (wl_c rfl wl_n)))) rfl (by decide) (ih27747 _ (by omega) (v27748 + 1) v27749 ⟨by omega, by omega⟩ ⟨by omega, by omega⟩ (by omega) rfl)
        · refine wp_of e94 c94_19 (rw_iload_n (pc' := 20) (z := v27749) rfl rfl ?_)
          refine wp_of e94 c94_20 (rw_iload_n (pc' := 21) (z := a1) rfl rfl ?_)
          refine wp_of e94 c94_21 (rw_icmp_ne (p1 := 26) (p2 := 24) (by decide) rfl ⟨by omega, by omega⟩ ⟨by omega, by omega⟩ (fun c27767 => ?_) (fun c27767 => ?_))
          · refine wp_of e94 c94_26 (rw_iinc (pc' := 29) (z := v27749) (L' := [(2, vI (v27749 + 1)), (3, vI v27748), (0, .ref r0), (1, vI a1)]) rfl rfl rfl rfl ?_)
            refine wp_of e94 c94_29 (rw_iinc (pc' := 32) (z := v27748) (L' := [(3, vI (v27748 + 1)), (2, vI (v27749 + 1)), (0, .ref r0), (1, vI a1)]) rfl rfl rfl rfl ?_)
            refine wp_of e94 c94_32 (rw_goto (p1 := 4) (by decide) ?_)
            exact wp_lc (ks := [3, 2, 0, 1]) (wl_c rfl (wl_c rfl (wl_c rfl (wl_c rfl wl_n)))) rfl (by decide) (ih27747 _ (by omega) (v27748 + 1) (v27749 + 1) ⟨by omega, by omega⟩ ⟨by omega, by omega⟩ (by omega) rfl)
          · refine wp_of e94 c94_24 (rw_iload_n (pc' := 25) (z := v27748) rfl rfl ?_)
            exact wp_ireturn e94 c94_25 rfl ⟨rfl, rfl, v27748, rfl, ⟨by omega, by omega⟩⟩
  exact wp_lc (ks := [3, 2, 0, 1]) (wl_c rfl (wl_c rfl (wl_c rfl (wl_c rfl wl_n)))) rfl (by decide) (lp27745 _ 0 0 ⟨by omega, by omega⟩ ⟨by omega, by omega⟩ (by omega) rfl)
/-! StrikeAwake$Parish.spanIn(II)I -/
theorem e96 : wq_en 96 = some (7, 5, false, some FieldType.int) := rfl
theorem cg96_0 : mc_cd 96 0 = some (.aload_n 0, 1) ∧ mc_cd 96 1 = some (.getfield 11, 3) ∧ mc_cd 96 4 = some (.iload_n 2, 1) ∧ mc_cd 96 5 = some (.aaload, 1) ∧ mc_cd 96 6 = some (.getfield 107, 3) ∧ mc_cd 96 9 = some (.istore_n 3, 1) ∧ mc_cd 96 10 = some (.aload_n 0, 1) ∧ mc_cd 96 11 = some (.getfield 11, 3) := by decide +kernel
theorem c96_0 : mc_cd 96 0 = some (.aload_n 0, 1) := cg96_0.1
theorem c96_1 : mc_cd 96 1 = some (.getfield 11, 3) := cg96_0.2.1
theorem c96_4 : mc_cd 96 4 = some (.iload_n 2, 1) := cg96_0.2.2.1
theorem c96_5 : mc_cd 96 5 = some (.aaload, 1) := cg96_0.2.2.2.1
theorem c96_6 : mc_cd 96 6 = some (.getfield 107, 3) := cg96_0.2.2.2.2.1
theorem c96_9 : mc_cd 96 9 = some (.istore_n 3, 1) := cg96_0.2.2.2.2.2.1
theorem c96_10 : mc_cd 96 10 = some (.aload_n 0, 1) := cg96_0.2.2.2.2.2.2.1
theorem c96_11 : mc_cd 96 11 = some (.getfield 11, 3) := cg96_0.2.2.2.2.2.2.2
theorem cg96_14 : mc_cd 96 14 = some (.iload_n 2, 1) ∧ mc_cd 96 15 = some (.aaload, 1) ∧ mc_cd 96 16 = some (.getfield 110, 3) ∧ mc_cd 96 19 = some (.istore 4, 2) ∧ mc_cd 96 21 = some (.iload_n 3, 1) ∧ mc_cd 96 22 = some (.ifCond .le 8, 3) ∧ mc_cd 96 25 = some (.iload 4, 2) ∧ mc_cd 96 27 = some (.ifCond .gt 5, 3) := by decide +kernel
theorem c96_14 : mc_cd 96 14 = some (.iload_n 2, 1) := cg96_14.1
theorem c96_15 : mc_cd 96 15 = some (.aaload, 1) := cg96_14.2.1
theorem c96_16 : mc_cd 96 16 = some (.getfield 110, 3) := cg96_14.2.2.1
theorem c96_19 : mc_cd 96 19 = some (.istore 4, 2) := cg96_14.2.2.2.1
theorem c96_21 : mc_cd 96 21 = some (.iload_n 3, 1) := cg96_14.2.2.2.2.1
theorem c96_22 : mc_cd 96 22 = some (.ifCond .le 8, 3) := cg96_14.2.2.2.2.2.1
theorem c96_25 : mc_cd 96 25 = some (.iload 4, 2) := cg96_14.2.2.2.2.2.2.1
theorem c96_27 : mc_cd 96 27 = some (.ifCond .gt 5, 3) := cg96_14.2.2.2.2.2.2.2
theorem cg96_30 : mc_cd 96 30 = some (.iconst (-1), 1) ∧ mc_cd 96 31 = some (.ireturn, 1) ∧ mc_cd 96 32 = some (.iload_n 1, 1) ∧ mc_cd 96 33 = some (.iload_n 3, 1) ∧ mc_cd 96 34 = some (.idiv, 1) ∧ mc_cd 96 35 = some (.iload 4, 2) ∧ mc_cd 96 37 = some (.irem, 1) ∧ mc_cd 96 38 = some (.ireturn, 1) := by decide +kernel
theorem c96_30 : mc_cd 96 30 = some (.iconst (-1), 1) := cg96_30.1
theorem c96_31 : mc_cd 96 31 = some (.ireturn, 1) := cg96_30.2.1
theorem c96_32 : mc_cd 96 32 = some (.iload_n 1, 1) := cg96_30.2.2.1
theorem c96_33 : mc_cd 96 33 = some (.iload_n 3, 1) := cg96_30.2.2.2.1
theorem c96_34 : mc_cd 96 34 = some (.idiv, 1) := cg96_30.2.2.2.2.1
theorem c96_35 : mc_cd 96 35 = some (.iload 4, 2) := cg96_30.2.2.2.2.2.1
theorem c96_37 : mc_cd 96 37 = some (.irem, 1) := cg96_30.2.2.2.2.2.2.1
theorem c96_38 : mc_cd 96 38 = some (.ireturn, 1) := cg96_30.2.2.2.2.2.2.2
abbrev q_96 (r0 : Nat) (a1 : Int) (a2 : Int) (T : wq_T) (H : wq_H) : Option Value → wq_T → wq_H → Prop := fun r T' H' => T = T' ∧ H = H' ∧ ∃ z : Int, some (vI z) = r ∧ ((-1) ≤ z ∧ z ≤ 39)
set_option maxHeartbeats 4000000 in
theorem s_96 {kt : Nat → Option mc_E} {T : wq_T} {H : wq_H} {r0 : Nat} {a1 : Int} {a2 : Int} (hW : WT T H) (g0 : T.2.2.2 r0 = some 27) (i1 : 0 ≤ a1 ∧ a1 ≤ 2147483647) (i2 : 0 ≤ a2 ∧ a2 ≤ 5) : wpc kt 1 96 [.ref r0, vI a1, vI a2] T H (q_96 r0 a1 a2 T H) := by
  refine wp_enter e96 (Nat.le_of_ble_eq_true rfl) rfl ?_
  show wp _ _ 96 0 [(0, .ref r0), (1, vI a1), (2, vI a2)] [] _ H _
  refine wp_of e96 c96_0 (rw_aload_n (pc' := 1) (v := .ref r0) rfl rfl rfl ?_)
  refine wp_of e96 c96_1 (xg_R (pc' := 4) lf_7_11 hW g0 sh_27 (by decide) (by decide) ty_27_0 rfl rfl (fun r27784 q27785 g27786 => ?_))
  refine wp_of e96 c96_4 (rw_iload_n (pc' := 5) (z := a2) rfl rfl ?_)
  refine wp_of e96 c96_5 (xa_R (pc' := 6) (by decide) hW g27786 sh_28 (by decide) (ty_28 _) (by omega) (by omega) rfl (fun r27787 q27788 g27789 => ?_))
  refine wp_of e96 c96_6 (xg_I (pc' := 9) lf_7_107 hW g27789 sh_35 (by decide) (by decide) ty_35_17 rfl rfl (fun b27790 b27791 => ?_))
  refine wp_of e96 c96_9 (rw_istore_n (pc' := 10) (z := H r27787 17) (L' := [(3, vI (H r27787 17)), (0, .ref r0), (1, vI a1), (2, vI a2)]) rfl rfl rfl ?_)
  refine wp_of e96 c96_10 (rw_aload_n (pc' := 11) (v := .ref r0) rfl rfl rfl ?_)
  refine wp_of e96 c96_11 (xg_K (pc' := 14) lf_7_11 hW g0 sh_27 (by decide) (by decide) rfl q27785 rfl ?_)
  refine wp_of e96 c96_14 (rw_iload_n (pc' := 15) (z := a2) rfl rfl ?_)
  refine wp_of e96 c96_15 (xa_K (pc' := 16) (by decide) hW g27786 sh_28 (by decide) (by omega) (by omega) q27788 rfl ?_)
  refine wp_of e96 c96_16 (xg_I (pc' := 19) lf_7_110 hW g27789 sh_35 (by decide) (by decide) ty_35_15 rfl rfl (fun b27792 b27793 => ?_))
  refine wp_of e96 c96_19 (rw_istore (pc' := 21) (z := H r27787 15) (L' := [(4, vI (H r27787 15)), (3, vI (H r27787 17)), (0, .ref r0), (1, vI a1), (2, vI a2)]) rfl rfl rfl ?_)
  refine wp_of e96 c96_21 (rw_iload_n (pc' := 22) (z := H r27787 17) rfl rfl ?_)
  refine wp_of e96 c96_22 (rw_if_le (p1 := 30) (p2 := 25) (by decide) rfl ⟨by omega, by omega⟩ (fun c27794 => ?_) (fun c27794 => ?_))
  · refine wp_of e96 c96_30 (rw_iconst (pc' := 31) rfl ?_)
    exact wp_ireturn e96 c96_31 rfl ⟨rfl, rfl, -1, rfl, ⟨by omega, by omega⟩⟩
  · refine wp_of e96 c96_25 (rw_iload (pc' := 27) (z := H r27787 15) rfl rfl ?_)
    refine wp_of e96 c96_27 (rw_if_gt (p1 := 32) (p2 := 30) (by decide) rfl ⟨by omega, by omega⟩ (fun c27795 => ?_) (fun c27795 => ?_))
    · refine wp_of e96 c96_32 (rw_iload_n (pc' := 33) (z := a1) rfl rfl ?_)
      refine wp_of e96 c96_33 (rw_iload_n (pc' := 34) (z := H r27787 17) rfl rfl ?_)
      refine wp_of e96 c96_34 (rw_idiv (pc' := 35) rfl ⟨by omega, by omega⟩ (by omega) ?_)
      obtain ⟨v27796, e27797⟩ : ∃ x : Int, x = wq_div a1 (H r27787 17) := ⟨_, rfl⟩
      rw [← e27797]
      have b27798 : 0 ≤ v27796 ∧ v27796 ≤ a1 := by
        rw [e27797]
        rw [wq_div_e ⟨by omega, by omega⟩ ⟨by omega, by omega⟩]; exact ⟨Int.ediv_nonneg (by omega) (by omega), Int.ediv_le_self _ (by omega)⟩
      refine wp_of e96 c96_35 (rw_iload (pc' := 37) (z := H r27787 15) rfl rfl ?_)
      refine wp_of e96 c96_37 (rw_irem (pc' := 38) rfl ⟨by omega, by omega⟩ (by omega) ?_)
      obtain ⟨v27799, e27800⟩ : ∃ x : Int, x = wq_rem v27796 (H r27787 15) := ⟨_, rfl⟩
      rw [← e27800]
      have b27801 : 0 ≤ v27799 ∧ v27799 < (H r27787 15) := by
        rw [e27800]
        rw [wq_rem_e ⟨by omega, by omega⟩ ⟨by omega, by omega⟩]; exact ⟨Int.emod_nonneg _ (by omega), Int.emod_lt_of_pos _ (by omega)⟩
      exact wp_ireturn e96 c96_38 rfl ⟨rfl, rfl, v27799, rfl, ⟨by omega, by omega⟩⟩
    · refine wp_of e96 c96_30 (rw_iconst (pc' := 31) rfl ?_)
      exact wp_ireturn e96 c96_31 rfl ⟨rfl, rfl, -1, rfl, ⟨by omega, by omega⟩⟩
/-! StrikeAwake.world(II)I -/
theorem e93 : wq_en 93 = some (0, 4, false, some FieldType.int) := rfl
theorem cg93_0 : mc_cd 93 0 = some (.aload_n 0, 1) ∧ mc_cd 93 1 = some (.aload_n 0, 1) ∧ mc_cd 93 2 = some (.iload_n 2, 1) ∧ mc_cd 93 3 = some (.invokevirtual 105, 3) ∧ mc_cd 93 6 = some (.ifCond .eq 11, 3) ∧ mc_cd 93 9 = some (.iload_n 1, 1) ∧ mc_cd 93 10 = some (.ifCond .lt 7, 3) ∧ mc_cd 93 13 = some (.iconst 1, 1) := by decide +kernel
theorem c93_0 : mc_cd 93 0 = some (.aload_n 0, 1) := cg93_0.1
theorem c93_1 : mc_cd 93 1 = some (.aload_n 0, 1) := cg93_0.2.1
theorem c93_2 : mc_cd 93 2 = some (.iload_n 2, 1) := cg93_0.2.2.1
theorem c93_3 : mc_cd 93 3 = some (.invokevirtual 105, 3) := cg93_0.2.2.2.1
theorem c93_6 : mc_cd 93 6 = some (.ifCond .eq 11, 3) := cg93_0.2.2.2.2.1
theorem c93_9 : mc_cd 93 9 = some (.iload_n 1, 1) := cg93_0.2.2.2.2.2.1
theorem c93_10 : mc_cd 93 10 = some (.ifCond .lt 7, 3) := cg93_0.2.2.2.2.2.2.1
theorem c93_13 : mc_cd 93 13 = some (.iconst 1, 1) := cg93_0.2.2.2.2.2.2.2
theorem cg93_14 : mc_cd 93 14 = some (.goto 4, 3) ∧ mc_cd 93 17 = some (.iconst 0, 1) ∧ mc_cd 93 18 = some (.invokevirtual 174, 3) ∧ mc_cd 93 21 = some (.istore_n 3, 1) ∧ mc_cd 93 22 = some (.iload_n 3, 1) ∧ mc_cd 93 23 = some (.ifCond .eq 9, 3) ∧ mc_cd 93 26 = some (.aload_n 0, 1) ∧ mc_cd 93 27 = some (.iload_n 3, 1) := by decide +kernel
theorem c93_14 : mc_cd 93 14 = some (.goto 4, 3) := cg93_14.1
theorem c93_17 : mc_cd 93 17 = some (.iconst 0, 1) := cg93_14.2.1
theorem c93_18 : mc_cd 93 18 = some (.invokevirtual 174, 3) := cg93_14.2.2.1
theorem c93_21 : mc_cd 93 21 = some (.istore_n 3, 1) := cg93_14.2.2.2.1
theorem c93_22 : mc_cd 93 22 = some (.iload_n 3, 1) := cg93_14.2.2.2.2.1
theorem c93_23 : mc_cd 93 23 = some (.ifCond .eq 9, 3) := cg93_14.2.2.2.2.2.1
theorem c93_26 : mc_cd 93 26 = some (.aload_n 0, 1) := cg93_14.2.2.2.2.2.2.1
theorem c93_27 : mc_cd 93 27 = some (.iload_n 3, 1) := cg93_14.2.2.2.2.2.2.2
theorem cg93_28 : mc_cd 93 28 = some (.invokevirtual 70, 3) ∧ mc_cd 93 31 = some (.ireturn, 1) ∧ mc_cd 93 32 = some (.iload_n 1, 1) ∧ mc_cd 93 33 = some (.aload_n 0, 1) ∧ mc_cd 93 34 = some (.getfield 30, 3) ∧ mc_cd 93 37 = some (.getfield 177, 3) ∧ mc_cd 93 40 = some (.if_icmp .lt 9, 3) ∧ mc_cd 93 43 = some (.aload_n 0, 1) := by decide +kernel
theorem c93_28 : mc_cd 93 28 = some (.invokevirtual 70, 3) := cg93_28.1
theorem c93_31 : mc_cd 93 31 = some (.ireturn, 1) := cg93_28.2.1
theorem c93_32 : mc_cd 93 32 = some (.iload_n 1, 1) := cg93_28.2.2.1
theorem c93_33 : mc_cd 93 33 = some (.aload_n 0, 1) := cg93_28.2.2.2.1
theorem c93_34 : mc_cd 93 34 = some (.getfield 30, 3) := cg93_28.2.2.2.2.1
theorem c93_37 : mc_cd 93 37 = some (.getfield 177, 3) := cg93_28.2.2.2.2.2.1
theorem c93_40 : mc_cd 93 40 = some (.if_icmp .lt 9, 3) := cg93_28.2.2.2.2.2.2.1
theorem c93_43 : mc_cd 93 43 = some (.aload_n 0, 1) := cg93_28.2.2.2.2.2.2.2
theorem cg93_44 : mc_cd 93 44 = some (.iconst 1, 1) ∧ mc_cd 93 45 = some (.invokevirtual 70, 3) ∧ mc_cd 93 48 = some (.ireturn, 1) ∧ mc_cd 93 49 = some (.aload_n 0, 1) ∧ mc_cd 93 50 = some (.aload_n 0, 1) ∧ mc_cd 93 51 = some (.getfield 51, 3) ∧ mc_cd 93 54 = some (.aload_n 0, 1) ∧ mc_cd 93 55 = some (.getfield 30, 3) := by decide +kernel
theorem c93_44 : mc_cd 93 44 = some (.iconst 1, 1) := cg93_44.1
theorem c93_45 : mc_cd 93 45 = some (.invokevirtual 70, 3) := cg93_44.2.1
theorem c93_48 : mc_cd 93 48 = some (.ireturn, 1) := cg93_44.2.2.1
theorem c93_49 : mc_cd 93 49 = some (.aload_n 0, 1) := cg93_44.2.2.2.1
theorem c93_50 : mc_cd 93 50 = some (.aload_n 0, 1) := cg93_44.2.2.2.2.1
theorem c93_51 : mc_cd 93 51 = some (.getfield 51, 3) := cg93_44.2.2.2.2.2.1
theorem c93_54 : mc_cd 93 54 = some (.aload_n 0, 1) := cg93_44.2.2.2.2.2.2.1
theorem c93_55 : mc_cd 93 55 = some (.getfield 30, 3) := cg93_44.2.2.2.2.2.2.2
theorem cg93_58 : mc_cd 93 58 = some (.iload_n 1, 1) ∧ mc_cd 93 59 = some (.invokevirtual 180, 3) ∧ mc_cd 93 62 = some (.iload_n 2, 1) ∧ mc_cd 93 63 = some (.invokevirtual 183, 3) ∧ mc_cd 93 66 = some (.invokevirtual 99, 3) ∧ mc_cd 93 69 = some (.ireturn, 1) := by decide +kernel
theorem c93_58 : mc_cd 93 58 = some (.iload_n 1, 1) := cg93_58.1
theorem c93_59 : mc_cd 93 59 = some (.invokevirtual 180, 3) := cg93_58.2.1
theorem c93_62 : mc_cd 93 62 = some (.iload_n 2, 1) := cg93_58.2.2.1
theorem c93_63 : mc_cd 93 63 = some (.invokevirtual 183, 3) := cg93_58.2.2.2.1
theorem c93_66 : mc_cd 93 66 = some (.invokevirtual 99, 3) := cg93_58.2.2.2.2.1
theorem c93_69 : mc_cd 93 69 = some (.ireturn, 1) := cg93_58.2.2.2.2.2
abbrev q_93 (r0 : Nat) (a1 : Int) (a2 : Int) (T : wq_T) (H : wq_H) : Option Value → wq_T → wq_H → Prop := fun r T' H' => T = T' ∧ WT T H' ∧ wfr [(12, 5), (12, 6), (12, 7), (12, 8), (12, 9), (1, 10), (6, 5), (8, 999), (10, 999), (15, 999), (9, 999), (18, 999), (19, 999), (7, 999), (11, 999), (17, 999), (13, 999)] T H H' ∧ ∃ z : Int, some (vI z) = r ∧ ((-2147483648) ≤ z ∧ z ≤ 2147483647)
set_option maxHeartbeats 4000000 in
theorem s_93 {kt : Nat → Option mc_E} {T : wq_T} {H : wq_H} {r0 : Nat} {a1 : Int} {a2 : Int} (hW : WT T H) (g0 : T.2.2.2 r0 = some 1) (i1 : (-2147483648) ≤ a1 ∧ a1 ≤ 2147483647) (i2 : (-2147483648) ≤ a2 ∧ a2 ≤ 2147483647) : wpc kt 6 93 [.ref r0, vI a1, vI a2] T H (q_93 r0 a1 a2 T H) := by
  refine wp_enter e93 (Nat.le_of_ble_eq_true rfl) rfl ?_
  have f0 : wfr [(12, 5), (12, 6), (12, 7), (12, 8), (12, 9), (1, 10), (6, 5), (8, 999), (10, 999), (15, 999), (9, 999), (18, 999), (19, 999), (7, 999), (11, 999), (17, 999), (13, 999)] T H H := wfr.rf
  show wp _ _ 93 0 [(0, .ref r0), (1, vI a1), (2, vI a2)] [] _ H _
  refine wp_of e93 c93_0 (rw_aload_n (pc' := 1) (v := .ref r0) rfl rfl rfl ?_)
  refine wp_of e93 c93_1 (rw_aload_n (pc' := 2) (v := .ref r0) rfl rfl rfl ?_)
  refine wp_of e93 c93_2 (rw_iload_n (pc' := 3) (z := a2) rfl rfl ?_)
  refine wp_of e93 c93_3 (xc_V (pc' := 6) (r := r0) (as := [vI a2]) (st := [.ref r0]) (lm_0_105) rfl rfl (Nat.le_of_ble_eq_true rfl) hW g0 sh_1 (by decide) rfl (by decide) (s_55 hW g0 ⟨by omega, by omega⟩) (fun R27935 T27936 H27937 p27938 => ?_))
  obtain ⟨e27939, e27941, z27943, e27940, b27944, p27942⟩ := p27938
  subst e27939
  subst e27940
  subst e27941
  show wp _ _ 93 6 [(0, .ref r0), (1, vI a1), (2, vI a2)] [vI z27943, .ref r0] _ H _
  refine wp_of e93 c93_6 (rw_if_eq (p1 := 17) (p2 := 9) (by decide) rfl ⟨by omega, by omega⟩ (fun c27945 => ?_) (fun c27945 => ?_))
  · refine wp_of e93 c93_17 (rw_iconst (pc' := 18) rfl ?_)
    refine wp_of e93 c93_18 (xc_V (pc' := 21) (r := r0) (as := [vI 0]) (st := []) (lm_0_174) rfl rfl (Nat.le_of_ble_eq_true rfl) hW g0 sh_1 (by decide) rfl (by decide) (s_83 hW g0 ⟨by omega, by omega⟩) (fun R27946 T27947 H27948 p27949 => ?_))
    obtain ⟨e27950, w27952, f27953, z27955, e27951, b27956, p27954⟩ := p27949
    subst e27950
    subst e27951
    have f27957 := f0.tr f27953 rfl
    show wp _ _ 93 21 [(0, .ref r0), (1, vI a1), (2, vI a2)] [vI z27955] _ H27948 _
    refine wp_of e93 c93_21 (rw_istore_n (pc' := 22) (z := z27955) (L' := [(3, vI z27955), (0, .ref r0), (1, vI a1), (2, vI a2)]) rfl rfl rfl ?_)
    refine wp_of e93 c93_22 (rw_iload_n (pc' := 23) (z := z27955) rfl rfl ?_)
    refine wp_of e93 c93_23 (rw_if_eq (p1 := 32) (p2 := 26) (by decide) rfl ⟨by omega, by omega⟩ (fun c27958 => ?_) (fun c27958 => ?_))
    · exfalso
      omega
    · refine wp_of e93 c93_26 (rw_aload_n (pc' := 27) (v := .ref r0) rfl rfl rfl ?_)
      refine wp_of e93 c93_27 (rw_iload_n (pc' := 28) (z := z27955) rfl rfl ?_)
      refine wp_of e93 c93_28 (xc_V (pc' := 31) (r := r0) (as := [vI z27955]) (st := []) (lm_0_70) rfl rfl (Nat.le_of_ble_eq_true rfl) w27952 g0 sh_1 (by decide) rfl (by decide) (s_12 w27952 g0 ⟨by omega, by omega⟩) (fun R27959 T27960 H27961 p27962 => ?_))
      obtain ⟨e27963, w27965, f27966, z27967, e27964, b27968⟩ := p27962
      subst e27963
      subst e27964
      have f27969 := f27957.tr f27966 rfl
      show wp _ _ 93 31 [(3, vI z27955), (0, .ref r0), (1, vI a1), (2, vI a2)] [vI z27967] _ H27961 _
      exact wp_ireturn e93 c93_31 rfl ⟨rfl, w27965, f27969, z27967, rfl, ⟨by omega, by omega⟩⟩
  · refine wp_of e93 c93_9 (rw_iload_n (pc' := 10) (z := a1) rfl rfl ?_)
    refine wp_of e93 c93_10 (rw_if_lt (p1 := 17) (p2 := 13) (by decide) rfl ⟨by omega, by omega⟩ (fun c27970 => ?_) (fun c27970 => ?_))
    · refine wp_of e93 c93_17 (rw_iconst (pc' := 18) rfl ?_)
      refine wp_of e93 c93_18 (xc_V (pc' := 21) (r := r0) (as := [vI 0]) (st := []) (lm_0_174) rfl rfl (Nat.le_of_ble_eq_true rfl) hW g0 sh_1 (by decide) rfl (by decide) (s_83 hW g0 ⟨by omega, by omega⟩) (fun R27971 T27972 H27973 p27974 => ?_))
      obtain ⟨e27975, w27977, f27978, z27980, e27976, b27981, p27979⟩ := p27974
      subst e27975
      subst e27976
      have f27982 := f0.tr f27978 rfl
      show wp _ _ 93 21 [(0, .ref r0), (1, vI a1), (2, vI a2)] [vI z27980] _ H27973 _
      refine wp_of e93 c93_21 (rw_istore_n (pc' := 22) (z := z27980) (L' := [(3, vI z27980), (0, .ref r0), (1, vI a1), (2, vI a2)]) rfl rfl rfl ?_)
      refine wp_of e93 c93_22 (rw_iload_n (pc' := 23) (z := z27980) rfl rfl ?_)
      refine wp_of e93 c93_23 (rw_if_eq (p1 := 32) (p2 := 26) (by decide) rfl ⟨by omega, by omega⟩ (fun c27983 => ?_) (fun c27983 => ?_))
      · exfalso
        omega
      · refine wp_of e93 c93_26 (rw_aload_n (pc' := 27) (v := .ref r0) rfl rfl rfl ?_)
        refine wp_of e93 c93_27 (rw_iload_n (pc' := 28) (z := z27980) rfl rfl ?_)
        refine wp_of e93 c93_28 (xc_V (pc' := 31) (r := r0) (as := [vI z27980]) (st := []) (lm_0_70) rfl rfl (Nat.le_of_ble_eq_true rfl) w27977 g0 sh_1 (by decide) rfl (by decide) (s_12 w27977 g0 ⟨by omega, by omega⟩) (fun R27984 T27985 H27986 p27987 => ?_))
        obtain ⟨e27988, w27990, f27991, z27992, e27989, b27993⟩ := p27987
        subst e27988
        subst e27989
        have f27994 := f27982.tr f27991 rfl
        show wp _ _ 93 31 [(3, vI z27980), (0, .ref r0), (1, vI a1), (2, vI a2)] [vI z27992] _ H27986 _
        exact wp_ireturn e93 c93_31 rfl ⟨rfl, w27990, f27994, z27992, rfl, ⟨by omega, by omega⟩⟩
    · refine wp_of e93 c93_13 (rw_iconst (pc' := 14) rfl ?_)
      refine wp_of e93 c93_14 (rw_goto (p1 := 18) (by decide) ?_)
      refine wp_of e93 c93_18 (xc_V (pc' := 21) (r := r0) (as := [vI 1]) (st := []) (lm_0_174) rfl rfl (Nat.le_of_ble_eq_true rfl) hW g0 sh_1 (by decide) rfl (by decide) (s_83 hW g0 ⟨by omega, by omega⟩) (fun R27995 T27996 H27997 p27998 => ?_))
      obtain ⟨e27999, w28001, f28002, z28004, e28000, b28005, p28003⟩ := p27998
      subst e27999
      subst e28000
      have f28006 := f0.tr f28002 rfl
      show wp _ _ 93 21 [(0, .ref r0), (1, vI a1), (2, vI a2)] [vI z28004] _ H27997 _
      refine wp_of e93 c93_21 (rw_istore_n (pc' := 22) (z := z28004) (L' := [(3, vI z28004), (0, .ref r0), (1, vI a1), (2, vI a2)]) rfl rfl rfl ?_)
      refine wp_of e93 c93_22 (rw_iload_n (pc' := 23) (z := z28004) rfl rfl ?_)
      refine wp_of e93 c93_23 (rw_if_eq (p1 := 32) (p2 := 26) (by decide) rfl ⟨by omega, by omega⟩ (fun c28007 => ?_) (fun c28007 => ?_))
      · refine wp_of e93 c93_32 (rw_iload_n (pc' := 33) (z := a1) rfl rfl ?_)
        refine wp_of e93 c93_33 (rw_aload_n (pc' := 34) (v := .ref r0) rfl rfl rfl ?_)
        refine wp_of e93 c93_34 (xg_R (pc' := 37) lf_0_30 w28001 g0 sh_1 (by decide) (by decide) ty_1_3 rfl rfl (fun r28008 q28009 g28010 => ?_))
        refine wp_of e93 c93_37 (xg_I (pc' := 40) lf_0_177 w28001 g28010 sh_12 (by decide) (by decide) ty_12_5 rfl rfl (fun b28011 b28012 => ?_))
        refine wp_of e93 c93_40 (rw_icmp_lt (p1 := 49) (p2 := 43) (by decide) rfl ⟨by omega, by omega⟩ ⟨by omega, by omega⟩ (fun c28013 => ?_) (fun c28013 => ?_))
        · refine wp_of e93 c93_49 (rw_aload_n (pc' := 50) (v := .ref r0) rfl rfl rfl ?_)
          refine wp_of e93 c93_50 (rw_aload_n (pc' := 51) (v := .ref r0) rfl rfl rfl ?_)
          refine wp_of e93 c93_51 (xg_R (pc' := 54) lf_0_51 w28001 g0 sh_1 (by decide) (by decide) ty_1_6 rfl rfl (fun r28014 q28015 g28016 => ?_))
          refine wp_of e93 c93_54 (rw_aload_n (pc' := 55) (v := .ref r0) rfl rfl rfl ?_)
          refine wp_of e93 c93_55 (xg_K (pc' := 58) lf_0_30 w28001 g0 sh_1 (by decide) (by decide) rfl q28009 rfl ?_)
          refine wp_of e93 c93_58 (rw_iload_n (pc' := 59) (z := a1) rfl rfl ?_)
          refine wp_of e93 c93_59 (xc_V (pc' := 62) (r := r28008) (as := [vI a1]) (st := [.ref r28014, .ref r0]) (lm_0_180) rfl rfl (Nat.le_of_ble_eq_true rfl) w28001 g28010 sh_12 (by decide) rfl (by decide) (s_94 w28001 g28010 ⟨by omega, by omega⟩) (fun R28017 T28018 H28019 p28020 => ?_))
          obtain ⟨e28021, e28023, z28024, e28022, b28025⟩ := p28020
          subst e28021
          subst e28022
          subst e28023
          show wp _ _ 93 62 [(3, vI z28004), (0, .ref r0), (1, vI a1), (2, vI a2)] [vI z28024, .ref r28014, .ref r0] _ H27997 _
          refine wp_of e93 c93_62 (rw_iload_n (pc' := 63) (z := a2) rfl rfl ?_)
          refine wp_of e93 c93_63 (xc_V (pc' := 66) (r := r28014) (as := [vI z28024, vI a2]) (st := [.ref r0]) (lm_0_183) rfl rfl (Nat.le_of_ble_eq_true rfl) w28001 g28016 sh_27 (by decide) rfl (by decide) (s_96 w28001 g28016 ⟨by omega, by omega⟩ ⟨by omega, by omega⟩) (fun R28026 T28027 H28028 p28029 => ?_))
          obtain ⟨e28030, e28032, z28033, e28031, b28034⟩ := p28029
          subst e28030
          subst e28031
          subst e28032
          show wp _ _ 93 66 [(3, vI z28004), (0, .ref r0), (1, vI a1), (2, vI a2)] [vI z28033, .ref r0] _ H27997 _
          refine wp_of e93 c93_66 (xc_V (pc' := 69) (r := r0) (as := [vI z28033]) (st := []) (lm_0_99) rfl rfl (Nat.le_of_ble_eq_true rfl) w28001 g0 sh_1 (by decide) rfl (by decide) (s_51 w28001 g0 ⟨by omega, by omega⟩) (fun R28035 T28036 H28037 p28038 => ?_))
          obtain ⟨e28039, w28041, f28042, z28043, e28040, b28044⟩ := p28038
          subst e28039
          subst e28040
          have f28045 := f28006.tr f28042 rfl
          show wp _ _ 93 69 [(3, vI z28004), (0, .ref r0), (1, vI a1), (2, vI a2)] [vI z28043] _ H28037 _
          exact wp_ireturn e93 c93_69 rfl ⟨rfl, w28041, f28045, z28043, rfl, ⟨by omega, by omega⟩⟩
        · refine wp_of e93 c93_43 (rw_aload_n (pc' := 44) (v := .ref r0) rfl rfl rfl ?_)
          refine wp_of e93 c93_44 (rw_iconst (pc' := 45) rfl ?_)
          refine wp_of e93 c93_45 (xc_V (pc' := 48) (r := r0) (as := [vI 1]) (st := []) (lm_0_70) rfl rfl (Nat.le_of_ble_eq_true rfl) w28001 g0 sh_1 (by decide) rfl (by decide) (s_12 w28001 g0 ⟨by omega, by omega⟩) (fun R28046 T28047 H28048 p28049 => ?_))
          obtain ⟨e28050, w28052, f28053, z28054, e28051, b28055⟩ := p28049
          subst e28050
          subst e28051
          have f28056 := f28006.tr f28053 rfl
          show wp _ _ 93 48 [(3, vI z28004), (0, .ref r0), (1, vI a1), (2, vI a2)] [vI z28054] _ H28048 _
          exact wp_ireturn e93 c93_48 rfl ⟨rfl, w28052, f28056, z28054, rfl, ⟨by omega, by omega⟩⟩
      · refine wp_of e93 c93_26 (rw_aload_n (pc' := 27) (v := .ref r0) rfl rfl rfl ?_)
        refine wp_of e93 c93_27 (rw_iload_n (pc' := 28) (z := z28004) rfl rfl ?_)
        refine wp_of e93 c93_28 (xc_V (pc' := 31) (r := r0) (as := [vI z28004]) (st := []) (lm_0_70) rfl rfl (Nat.le_of_ble_eq_true rfl) w28001 g0 sh_1 (by decide) rfl (by decide) (s_12 w28001 g0 ⟨by omega, by omega⟩) (fun R28057 T28058 H28059 p28060 => ?_))
        obtain ⟨e28061, w28063, f28064, z28065, e28062, b28066⟩ := p28060
        subst e28061
        subst e28062
        have f28067 := f28006.tr f28064 rfl
        show wp _ _ 93 31 [(3, vI z28004), (0, .ref r0), (1, vI a1), (2, vI a2)] [vI z28065] _ H28059 _
        exact wp_ireturn e93 c93_31 rfl ⟨rfl, w28063, f28067, z28065, rfl, ⟨by omega, by omega⟩⟩
/-! StrikeAwake.weights()J -/
theorem e97 : wq_en 97 = some (0, 2, false, some FieldType.long) := rfl
theorem cg97_0 : mc_cd 97 0 = some (.aload_n 0, 1) ∧ mc_cd 97 1 = some (.aload_n 0, 1) ∧ mc_cd 97 2 = some (.getfield 58, 3) ∧ mc_cd 97 5 = some (.invokevirtual 174, 3) ∧ mc_cd 97 8 = some (.istore_n 1, 1) ∧ mc_cd 97 9 = some (.iload_n 1, 1) ∧ mc_cd 97 10 = some (.ifCond .eq 10, 3) ∧ mc_cd 97 13 = some (.aload_n 0, 1) := by decide +kernel
theorem c97_0 : mc_cd 97 0 = some (.aload_n 0, 1) := cg97_0.1
theorem c97_1 : mc_cd 97 1 = some (.aload_n 0, 1) := cg97_0.2.1
theorem c97_2 : mc_cd 97 2 = some (.getfield 58, 3) := cg97_0.2.2.1
theorem c97_5 : mc_cd 97 5 = some (.invokevirtual 174, 3) := cg97_0.2.2.2.1
theorem c97_8 : mc_cd 97 8 = some (.istore_n 1, 1) := cg97_0.2.2.2.2.1
theorem c97_9 : mc_cd 97 9 = some (.iload_n 1, 1) := cg97_0.2.2.2.2.2.1
theorem c97_10 : mc_cd 97 10 = some (.ifCond .eq 10, 3) := cg97_0.2.2.2.2.2.2.1
theorem c97_13 : mc_cd 97 13 = some (.aload_n 0, 1) := cg97_0.2.2.2.2.2.2.2
theorem cg97_14 : mc_cd 97 14 = some (.iload_n 1, 1) ∧ mc_cd 97 15 = some (.invokevirtual 70, 3) ∧ mc_cd 97 18 = some (.i2l, 1) ∧ mc_cd 97 19 = some (.lreturn, 1) ∧ mc_cd 97 20 = some (.aload_n 0, 1) ∧ mc_cd 97 21 = some (.iconst 0, 1) ∧ mc_cd 97 22 = some (.putfield 102, 3) ∧ mc_cd 97 25 = some (.aload_n 0, 1) := by decide +kernel
theorem c97_14 : mc_cd 97 14 = some (.iload_n 1, 1) := cg97_14.1
theorem c97_15 : mc_cd 97 15 = some (.invokevirtual 70, 3) := cg97_14.2.1
theorem c97_18 : mc_cd 97 18 = some (.i2l, 1) := cg97_14.2.2.1
theorem c97_19 : mc_cd 97 19 = some (.lreturn, 1) := cg97_14.2.2.2.1
theorem c97_20 : mc_cd 97 20 = some (.aload_n 0, 1) := cg97_14.2.2.2.2.1
theorem c97_21 : mc_cd 97 21 = some (.iconst 0, 1) := cg97_14.2.2.2.2.2.1
theorem c97_22 : mc_cd 97 22 = some (.putfield 102, 3) := cg97_14.2.2.2.2.2.2.1
theorem c97_25 : mc_cd 97 25 = some (.aload_n 0, 1) := cg97_14.2.2.2.2.2.2.2
theorem cg97_26 : mc_cd 97 26 = some (.getfield 30, 3) ∧ mc_cd 97 29 = some (.getfield 187, 3) ∧ mc_cd 97 32 = some (.lreturn, 1) := by decide +kernel
theorem c97_26 : mc_cd 97 26 = some (.getfield 30, 3) := cg97_26.1
theorem c97_29 : mc_cd 97 29 = some (.getfield 187, 3) := cg97_26.2.1
theorem c97_32 : mc_cd 97 32 = some (.lreturn, 1) := cg97_26.2.2
abbrev q_97 (r0 : Nat) (T : wq_T) (H : wq_H) : Option Value → wq_T → wq_H → Prop := fun r T' H' => T = T' ∧ WT T H' ∧ wfr [(12, 5), (12, 6), (12, 7), (12, 8), (12, 9), (1, 10), (6, 5), (8, 999), (10, 999), (15, 999), (9, 999), (18, 999), (19, 999), (7, 999), (11, 999), (17, 999), (13, 999)] T H H' ∧ ∃ z : Int, some (vL z) = r ∧ ((-9223372036854775808) ≤ z ∧ z ≤ 9223372036854775807)
set_option maxHeartbeats 4000000 in
theorem s_97 {kt : Nat → Option mc_E} {T : wq_T} {H : wq_H} {r0 : Nat} (hW : WT T H) (g0 : T.2.2.2 r0 = some 1) : wpc kt 6 97 [.ref r0] T H (q_97 r0 T H) := by
  refine wp_enter e97 (Nat.le_of_ble_eq_true rfl) rfl ?_
  have f0 : wfr [(12, 5), (12, 6), (12, 7), (12, 8), (12, 9), (1, 10), (6, 5), (8, 999), (10, 999), (15, 999), (9, 999), (18, 999), (19, 999), (7, 999), (11, 999), (17, 999), (13, 999)] T H H := wfr.rf
  show wp _ _ 97 0 [(0, .ref r0)] [] _ H _
  refine wp_of e97 c97_0 (rw_aload_n (pc' := 1) (v := .ref r0) rfl rfl rfl ?_)
  refine wp_of e97 c97_1 (rw_aload_n (pc' := 2) (v := .ref r0) rfl rfl rfl ?_)
  refine wp_of e97 c97_2 (xg_I (pc' := 5) lf_0_58 hW g0 sh_1 (by decide) (by decide) ty_1_8 rfl rfl (fun b28104 b28105 => ?_))
  refine wp_of e97 c97_5 (xc_V (pc' := 8) (r := r0) (as := [vI (H r0 8)]) (st := []) (lm_0_174) rfl rfl (Nat.le_of_ble_eq_true rfl) hW g0 sh_1 (by decide) rfl (by decide) (s_83 hW g0 ⟨by omega, by omega⟩) (fun R28106 T28107 H28108 p28109 => ?_))
  obtain ⟨e28110, w28112, f28113, z28115, e28111, b28116, p28114⟩ := p28109
  subst e28110
  subst e28111
  have f28117 := f0.tr f28113 rfl
  show wp _ _ 97 8 [(0, .ref r0)] [vI z28115] _ H28108 _
  refine wp_of e97 c97_8 (rw_istore_n (pc' := 9) (z := z28115) (L' := [(1, vI z28115), (0, .ref r0)]) rfl rfl rfl ?_)
  refine wp_of e97 c97_9 (rw_iload_n (pc' := 10) (z := z28115) rfl rfl ?_)
  refine wp_of e97 c97_10 (rw_if_eq (p1 := 20) (p2 := 13) (by decide) rfl ⟨by omega, by omega⟩ (fun c28118 => ?_) (fun c28118 => ?_))
  · refine wp_of e97 c97_20 (rw_aload_n (pc' := 21) (v := .ref r0) rfl rfl rfl ?_)
    refine wp_of e97 c97_21 (rw_iconst (pc' := 22) rfl ?_)
    refine wp_of e97 c97_22 (xp_I (pc' := 25) lf_0_102 w28112 g0 sh_1 (by decide) (by decide) ty_1_10 rfl rfl (by omega) (by omega) ⟨by omega, by omega⟩ rfl (fun H28119 e28120 w28121 => ?_))
    have f28122 := f28117.put' e28120 g0 rfl
    have k28123 : H28119 r0 10 = 0 := wq_u_s e28120
    refine wp_of e97 c97_25 (rw_aload_n (pc' := 26) (v := .ref r0) rfl rfl rfl ?_)
    refine wp_of e97 c97_26 (xg_R (pc' := 29) lf_0_30 w28121 g0 sh_1 (by decide) (by decide) ty_1_3 rfl rfl (fun r28124 q28125 g28126 => ?_))
    refine wp_of e97 c97_29 (xg_L (pc' := 32) lf_0_187 w28121 g28126 sh_12 (by decide) (by decide) ty_12_6 rfl rfl (fun b28127 b28128 => ?_))
    exact wp_lreturn e97 c97_32 rfl ⟨rfl, w28121, f28122, H28119 r28124 6, rfl, ⟨by omega, by omega⟩⟩
  · refine wp_of e97 c97_13 (rw_aload_n (pc' := 14) (v := .ref r0) rfl rfl rfl ?_)
    refine wp_of e97 c97_14 (rw_iload_n (pc' := 15) (z := z28115) rfl rfl ?_)
    refine wp_of e97 c97_15 (xc_V (pc' := 18) (r := r0) (as := [vI z28115]) (st := []) (lm_0_70) rfl rfl (Nat.le_of_ble_eq_true rfl) w28112 g0 sh_1 (by decide) rfl (by decide) (s_12 w28112 g0 ⟨by omega, by omega⟩) (fun R28129 T28130 H28131 p28132 => ?_))
    obtain ⟨e28133, w28135, f28136, z28137, e28134, b28138⟩ := p28132
    subst e28133
    subst e28134
    have f28139 := f28117.tr f28136 rfl
    show wp _ _ 97 18 [(1, vI z28115), (0, .ref r0)] [vI z28137] _ H28131 _
    refine wp_of e97 c97_18 (rw_i2l (pc' := 19) rfl ⟨by omega, by omega⟩ ?_)
    exact wp_lreturn e97 c97_19 rfl ⟨rfl, w28135, f28139, z28137, rfl, ⟨by omega, by omega⟩⟩
