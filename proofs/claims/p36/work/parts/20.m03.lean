/-! methods (own work, written by wip/gen2/sx.py) -/
/-! StrikeAwake$Reader.reads([BILStrikeAwake$Parish;)Z -/
theorem e13 : wq_en 13 = some (1, 5, false, some FieldType.boolean) := rfl
theorem cg13_0 : mc_cd 13 0 = some (.aload_n 0, 1) ∧ mc_cd 13 1 = some (.iconst 0, 1) ∧ mc_cd 13 2 = some (.putfield 18, 3) ∧ mc_cd 13 5 = some (.aload_n 0, 1) ∧ mc_cd 13 6 = some (.iconst (-1), 1) ∧ mc_cd 13 7 = some (.putfield 22, 3) ∧ mc_cd 13 10 = some (.aload_n 3, 1) ∧ mc_cd 13 11 = some (.invokevirtual 25, 3) := by decide +kernel
theorem c13_0 : mc_cd 13 0 = some (.aload_n 0, 1) := cg13_0.1
theorem c13_1 : mc_cd 13 1 = some (.iconst 0, 1) := cg13_0.2.1
theorem c13_2 : mc_cd 13 2 = some (.putfield 18, 3) := cg13_0.2.2.1
theorem c13_5 : mc_cd 13 5 = some (.aload_n 0, 1) := cg13_0.2.2.2.1
theorem c13_6 : mc_cd 13 6 = some (.iconst (-1), 1) := cg13_0.2.2.2.2.1
theorem c13_7 : mc_cd 13 7 = some (.putfield 22, 3) := cg13_0.2.2.2.2.2.1
theorem c13_10 : mc_cd 13 10 = some (.aload_n 3, 1) := cg13_0.2.2.2.2.2.2.1
theorem c13_11 : mc_cd 13 11 = some (.invokevirtual 25, 3) := cg13_0.2.2.2.2.2.2.2
theorem cg13_14 : mc_cd 13 14 = some (.aload_n 0, 1) ∧ mc_cd 13 15 = some (.getfield 12, 3) ∧ mc_cd 13 18 = some (.aload_n 1, 1) ∧ mc_cd 13 19 = some (.iload_n 2, 1) ∧ mc_cd 13 20 = some (.invokevirtual 30, 3) ∧ mc_cd 13 23 = some (.iconst 0, 1) ∧ mc_cd 13 24 = some (.istore 4, 2) ∧ mc_cd 13 26 = some (.iload 4, 2) := by decide +kernel
theorem c13_14 : mc_cd 13 14 = some (.aload_n 0, 1) := cg13_14.1
theorem c13_15 : mc_cd 13 15 = some (.getfield 12, 3) := cg13_14.2.1
theorem c13_18 : mc_cd 13 18 = some (.aload_n 1, 1) := cg13_14.2.2.1
theorem c13_19 : mc_cd 13 19 = some (.iload_n 2, 1) := cg13_14.2.2.2.1
theorem c13_20 : mc_cd 13 20 = some (.invokevirtual 30, 3) := cg13_14.2.2.2.2.1
theorem c13_23 : mc_cd 13 23 = some (.iconst 0, 1) := cg13_14.2.2.2.2.2.1
theorem c13_24 : mc_cd 13 24 = some (.istore 4, 2) := cg13_14.2.2.2.2.2.2.1
theorem c13_26 : mc_cd 13 26 = some (.iload 4, 2) := cg13_14.2.2.2.2.2.2.2
theorem cg13_28 : mc_cd 13 28 = some (.sipush 900, 3) ∧ mc_cd 13 31 = some (.if_icmp .gt 68, 3) ∧ mc_cd 13 34 = some (.aload_n 0, 1) ∧ mc_cd 13 35 = some (.aload_n 3, 1) ∧ mc_cd 13 36 = some (.invokevirtual 34, 3) ∧ mc_cd 13 39 = some (.ifCond .ne 5, 3) ∧ mc_cd 13 42 = some (.iconst 0, 1) ∧ mc_cd 13 43 = some (.ireturn, 1) := by decide +kernel
theorem c13_28 : mc_cd 13 28 = some (.sipush 900, 3) := cg13_28.1
theorem c13_31 : mc_cd 13 31 = some (.if_icmp .gt 68, 3) := cg13_28.2.1
theorem c13_34 : mc_cd 13 34 = some (.aload_n 0, 1) := cg13_28.2.2.1
theorem c13_35 : mc_cd 13 35 = some (.aload_n 3, 1) := cg13_28.2.2.2.1
theorem c13_36 : mc_cd 13 36 = some (.invokevirtual 34, 3) := cg13_28.2.2.2.2.1
theorem c13_39 : mc_cd 13 39 = some (.ifCond .ne 5, 3) := cg13_28.2.2.2.2.2.1
theorem c13_42 : mc_cd 13 42 = some (.iconst 0, 1) := cg13_28.2.2.2.2.2.2.1
theorem c13_43 : mc_cd 13 43 = some (.ireturn, 1) := cg13_28.2.2.2.2.2.2.2
theorem cg13_44 : mc_cd 13 44 = some (.aload_n 0, 1) ∧ mc_cd 13 45 = some (.getfield 12, 3) ∧ mc_cd 13 48 = some (.getfield 38, 3) ∧ mc_cd 13 51 = some (.ifCond .ne 32, 3) ∧ mc_cd 13 54 = some (.aload_n 3, 1) ∧ mc_cd 13 55 = some (.getfield 41, 3) ∧ mc_cd 13 58 = some (.ifCond .le 10, 3) ∧ mc_cd 13 61 = some (.aload_n 3, 1) := by decide +kernel
theorem c13_44 : mc_cd 13 44 = some (.aload_n 0, 1) := cg13_44.1
theorem c13_45 : mc_cd 13 45 = some (.getfield 12, 3) := cg13_44.2.1
theorem c13_48 : mc_cd 13 48 = some (.getfield 38, 3) := cg13_44.2.2.1
theorem c13_51 : mc_cd 13 51 = some (.ifCond .ne 32, 3) := cg13_44.2.2.2.1
theorem c13_54 : mc_cd 13 54 = some (.aload_n 3, 1) := cg13_44.2.2.2.2.1
theorem c13_55 : mc_cd 13 55 = some (.getfield 41, 3) := cg13_44.2.2.2.2.2.1
theorem c13_58 : mc_cd 13 58 = some (.ifCond .le 10, 3) := cg13_44.2.2.2.2.2.2.1
theorem c13_61 : mc_cd 13 61 = some (.aload_n 3, 1) := cg13_44.2.2.2.2.2.2.2
theorem cg13_62 : mc_cd 13 62 = some (.getfield 44, 3) ∧ mc_cd 13 65 = some (.ifCond .gt 12, 3) ∧ mc_cd 13 68 = some (.aload_n 0, 1) ∧ mc_cd 13 69 = some (.bipush 6, 2) ∧ mc_cd 13 71 = some (.invokevirtual 47, 3) ∧ mc_cd 13 74 = some (.ifCond .eq 7, 3) ∧ mc_cd 13 77 = some (.iconst 1, 1) ∧ mc_cd 13 78 = some (.goto 4, 3) := by decide +kernel
theorem c13_62 : mc_cd 13 62 = some (.getfield 44, 3) := cg13_62.1
theorem c13_65 : mc_cd 13 65 = some (.ifCond .gt 12, 3) := cg13_62.2.1
theorem c13_68 : mc_cd 13 68 = some (.aload_n 0, 1) := cg13_62.2.2.1
theorem c13_69 : mc_cd 13 69 = some (.bipush 6, 2) := cg13_62.2.2.2.1
theorem c13_71 : mc_cd 13 71 = some (.invokevirtual 47, 3) := cg13_62.2.2.2.2.1
theorem c13_74 : mc_cd 13 74 = some (.ifCond .eq 7, 3) := cg13_62.2.2.2.2.2.1
theorem c13_77 : mc_cd 13 77 = some (.iconst 1, 1) := cg13_62.2.2.2.2.2.2.1
theorem c13_78 : mc_cd 13 78 = some (.goto 4, 3) := cg13_62.2.2.2.2.2.2.2
theorem cg13_81 : mc_cd 13 81 = some (.iconst 0, 1) ∧ mc_cd 13 82 = some (.ireturn, 1) ∧ mc_cd 13 83 = some (.aload_n 0, 1) ∧ mc_cd 13 84 = some (.iconst 3, 1) ∧ mc_cd 13 85 = some (.invokevirtual 51, 3) ∧ mc_cd 13 88 = some (.ifCond .ne 5, 3) ∧ mc_cd 13 91 = some (.iconst 0, 1) ∧ mc_cd 13 92 = some (.ireturn, 1) := by decide +kernel
theorem c13_81 : mc_cd 13 81 = some (.iconst 0, 1) := cg13_81.1
theorem c13_82 : mc_cd 13 82 = some (.ireturn, 1) := cg13_81.2.1
theorem c13_83 : mc_cd 13 83 = some (.aload_n 0, 1) := cg13_81.2.2.1
theorem c13_84 : mc_cd 13 84 = some (.iconst 3, 1) := cg13_81.2.2.2.1
theorem c13_85 : mc_cd 13 85 = some (.invokevirtual 51, 3) := cg13_81.2.2.2.2.1
theorem c13_88 : mc_cd 13 88 = some (.ifCond .ne 5, 3) := cg13_81.2.2.2.2.2.1
theorem c13_91 : mc_cd 13 91 = some (.iconst 0, 1) := cg13_81.2.2.2.2.2.2.1
theorem c13_92 : mc_cd 13 92 = some (.ireturn, 1) := cg13_81.2.2.2.2.2.2.2
theorem cg13_93 : mc_cd 13 93 = some (.iinc 4 1, 3) ∧ mc_cd 13 96 = some (.goto (-70), 3) := by decide +kernel
theorem c13_93 : mc_cd 13 93 = some (.iinc 4 1, 3) := cg13_93.1
theorem c13_96 : mc_cd 13 96 = some (.goto (-70), 3) := cg13_93.2
/-! StrikeAwake$Parish.allHours()I -/
theorem e45 : wq_en 45 = some (7, 1, false, some FieldType.int) := rfl
theorem cg45_0 : mc_cd 45 0 = some (.iconst 0, 1) ∧ mc_cd 45 1 = some (.aload_n 0, 1) ∧ mc_cd 45 2 = some (.getfield 41, 3) ∧ mc_cd 45 5 = some (.invokestatic 92, 3) ∧ mc_cd 45 8 = some (.ireturn, 1) := by decide +kernel
theorem c45_0 : mc_cd 45 0 = some (.iconst 0, 1) := cg45_0.1
theorem c45_1 : mc_cd 45 1 = some (.aload_n 0, 1) := cg45_0.2.1
theorem c45_2 : mc_cd 45 2 = some (.getfield 41, 3) := cg45_0.2.2.1
theorem c45_5 : mc_cd 45 5 = some (.invokestatic 92, 3) := cg45_0.2.2.2.1
theorem c45_8 : mc_cd 45 8 = some (.ireturn, 1) := cg45_0.2.2.2.2
abbrev q_45 (r0 : Nat) (T : wq_T) (H : wq_H) : Option Value → wq_T → wq_H → Prop := fun r T' H' => T = T' ∧ H = H' ∧ ∃ z : Int, some (vI z) = r ∧ ((-2147483648) ≤ z ∧ z ≤ 2147483647)
set_option maxHeartbeats 4000000 in
theorem s_45 {kt : Nat → Option mc_E} {T : wq_T} {H : wq_H} {r0 : Nat} (hW : WT T H) (g0 : T.2.2.2 r0 = some 27) : wpc kt 2 45 [.ref r0] T H (q_45 r0 T H) := by
  refine wp_enter e45 (Nat.le_of_ble_eq_true rfl) rfl ?_
  show wp _ _ 45 0 [(0, .ref r0)] [] _ H _
  refine wp_of e45 c45_0 (rw_iconst (pc' := 1) rfl ?_)
  refine wp_of e45 c45_1 (rw_aload_n (pc' := 2) (v := .ref r0) rfl rfl rfl ?_)
  refine wp_of e45 c45_2 (xg_I (pc' := 5) lf_7_41 hW g0 sh_27 (by decide) (by decide) ty_27_7 rfl rfl (fun b13328 b13329 => ?_))
  refine wp_of e45 c45_5 (xc_S (pc' := 8) (as := [vI 0, vI (H r0 7)]) (st := []) (lm_7_92) rfl rfl (Nat.le_of_ble_eq_true rfl) rfl (by decide) (s_31 hW ⟨by omega, by omega⟩ ⟨by omega, by omega⟩) (fun R13330 T13331 H13332 p13333 => ?_))
  obtain ⟨e13334, e13336, z13337, e13335, b13338⟩ := p13333
  subst e13334
  subst e13335
  subst e13336
  show wp _ _ 45 8 [(0, .ref r0)] [vI z13337] _ H _
  exact wp_ireturn e45 c45_8 rfl ⟨rfl, rfl, z13337, rfl, ⟨by omega, by omega⟩⟩
/-! StrikeAwake$Parish.hoursStruckUpTo(I)I -/
theorem e46 : wq_en 46 = some (7, 4, false, some FieldType.int) := rfl
theorem cg46_0 : mc_cd 46 0 = some (.iconst 0, 1) ∧ mc_cd 46 1 = some (.istore_n 2, 1) ∧ mc_cd 46 2 = some (.iconst 0, 1) ∧ mc_cd 46 3 = some (.istore_n 3, 1) ∧ mc_cd 46 4 = some (.iload_n 3, 1) ∧ mc_cd 46 5 = some (.aload_n 0, 1) ∧ mc_cd 46 6 = some (.getfield 65, 3) ∧ mc_cd 46 9 = some (.if_icmp .ge 35, 3) := by decide +kernel
theorem c46_0 : mc_cd 46 0 = some (.iconst 0, 1) := cg46_0.1
theorem c46_1 : mc_cd 46 1 = some (.istore_n 2, 1) := cg46_0.2.1
theorem c46_2 : mc_cd 46 2 = some (.iconst 0, 1) := cg46_0.2.2.1
theorem c46_3 : mc_cd 46 3 = some (.istore_n 3, 1) := cg46_0.2.2.2.1
theorem c46_4 : mc_cd 46 4 = some (.iload_n 3, 1) := cg46_0.2.2.2.2.1
theorem c46_5 : mc_cd 46 5 = some (.aload_n 0, 1) := cg46_0.2.2.2.2.2.1
theorem c46_6 : mc_cd 46 6 = some (.getfield 65, 3) := cg46_0.2.2.2.2.2.2.1
theorem c46_9 : mc_cd 46 9 = some (.if_icmp .ge 35, 3) := cg46_0.2.2.2.2.2.2.2
theorem cg46_12 : mc_cd 46 12 = some (.aload_n 0, 1) ∧ mc_cd 46 13 = some (.getfield 17, 3) ∧ mc_cd 46 16 = some (.aload_n 0, 1) ∧ mc_cd 46 17 = some (.getfield 21, 3) ∧ mc_cd 46 20 = some (.iload_n 3, 1) ∧ mc_cd 46 21 = some (.iaload, 1) ∧ mc_cd 46 22 = some (.iaload, 1) ∧ mc_cd 46 23 = some (.iload_n 1, 1) := by decide +kernel
theorem c46_12 : mc_cd 46 12 = some (.aload_n 0, 1) := cg46_12.1
theorem c46_13 : mc_cd 46 13 = some (.getfield 17, 3) := cg46_12.2.1
theorem c46_16 : mc_cd 46 16 = some (.aload_n 0, 1) := cg46_12.2.2.1
theorem c46_17 : mc_cd 46 17 = some (.getfield 21, 3) := cg46_12.2.2.2.1
theorem c46_20 : mc_cd 46 20 = some (.iload_n 3, 1) := cg46_12.2.2.2.2.1
theorem c46_21 : mc_cd 46 21 = some (.iaload, 1) := cg46_12.2.2.2.2.2.1
theorem c46_22 : mc_cd 46 22 = some (.iaload, 1) := cg46_12.2.2.2.2.2.2.1
theorem c46_23 : mc_cd 46 23 = some (.iload_n 1, 1) := cg46_12.2.2.2.2.2.2.2
theorem cg46_24 : mc_cd 46 24 = some (.if_icmp .gt 14, 3) ∧ mc_cd 46 27 = some (.iload_n 2, 1) ∧ mc_cd 46 28 = some (.iconst 1, 1) ∧ mc_cd 46 29 = some (.aload_n 0, 1) ∧ mc_cd 46 30 = some (.getfield 21, 3) ∧ mc_cd 46 33 = some (.iload_n 3, 1) ∧ mc_cd 46 34 = some (.iaload, 1) ∧ mc_cd 46 35 = some (.ishl, 1) := by decide +kernel
theorem c46_24 : mc_cd 46 24 = some (.if_icmp .gt 14, 3) := cg46_24.1
theorem c46_27 : mc_cd 46 27 = some (.iload_n 2, 1) := cg46_24.2.1
theorem c46_28 : mc_cd 46 28 = some (.iconst 1, 1) := cg46_24.2.2.1
theorem c46_29 : mc_cd 46 29 = some (.aload_n 0, 1) := cg46_24.2.2.2.1
theorem c46_30 : mc_cd 46 30 = some (.getfield 21, 3) := cg46_24.2.2.2.2.1
theorem c46_33 : mc_cd 46 33 = some (.iload_n 3, 1) := cg46_24.2.2.2.2.2.1
theorem c46_34 : mc_cd 46 34 = some (.iaload, 1) := cg46_24.2.2.2.2.2.2.1
theorem c46_35 : mc_cd 46 35 = some (.ishl, 1) := cg46_24.2.2.2.2.2.2.2
theorem cg46_36 : mc_cd 46 36 = some (.ior, 1) ∧ mc_cd 46 37 = some (.istore_n 2, 1) ∧ mc_cd 46 38 = some (.iinc 3 1, 3) ∧ mc_cd 46 41 = some (.goto (-37), 3) ∧ mc_cd 46 44 = some (.iload_n 2, 1) ∧ mc_cd 46 45 = some (.ireturn, 1) := by decide +kernel
theorem c46_36 : mc_cd 46 36 = some (.ior, 1) := cg46_36.1
theorem c46_37 : mc_cd 46 37 = some (.istore_n 2, 1) := cg46_36.2.1
theorem c46_38 : mc_cd 46 38 = some (.iinc 3 1, 3) := cg46_36.2.2.1
theorem c46_41 : mc_cd 46 41 = some (.goto (-37), 3) := cg46_36.2.2.2.1
theorem c46_44 : mc_cd 46 44 = some (.iload_n 2, 1) := cg46_36.2.2.2.2.1
theorem c46_45 : mc_cd 46 45 = some (.ireturn, 1) := cg46_36.2.2.2.2.2
abbrev q_46 (r0 : Nat) (a1 : Int) (T : wq_T) (H : wq_H) : Option Value → wq_T → wq_H → Prop := fun r T' H' => T = T' ∧ H = H' ∧ ∃ z : Int, some (vI z) = r ∧ ((-2147483648) ≤ z ∧ z ≤ 2147483647)
set_option maxHeartbeats 4000000 in
theorem s_46 {kt : Nat → Option mc_E} {T : wq_T} {H : wq_H} {r0 : Nat} {a1 : Int} (hW : WT T H) (g0 : T.2.2.2 r0 = some 27) (i1 : (-2147483648) ≤ a1 ∧ a1 ≤ 2147483647) : wpc kt 1 46 [.ref r0, vI a1] T H (q_46 r0 a1 T H) := by
  refine wp_enter e46 (Nat.le_of_ble_eq_true rfl) rfl ?_
  show wp _ _ 46 0 [(0, .ref r0), (1, vI a1)] [] _ H _
  refine wp_of e46 c46_0 (rw_iconst (pc' := 1) rfl ?_)
  refine wp_of e46 c46_1 (rw_istore_n (pc' := 2) (z := 0) (L' := [(2, vI 0), (0, .ref r0), (1, vI a1)]) rfl rfl rfl ?_)
  refine wp_of e46 c46_2 (rw_iconst (pc' := 3) rfl ?_)
  refine wp_of e46 c46_3 (rw_istore_n (pc' := 4) (z := 0) (L' := [(3, vI 0), (2, vI 0), (0, .ref r0), (1, vI a1)]) rfl rfl rfl ?_)
  have lp13680 : ∀ (n13681 : Nat) (v13683 : Int) (v13684 : Int), (0 ≤ v13683 ∧ v13683 ≤ 24) → (0 ≤ v13684 ∧ v13684 ≤ 16777215) → (24 - v13683).toNat = n13681 → wp kt 0 46 4 [(3, vI v13683), (2, vI v13684), (0, .ref r0), (1, vI a1)] [] T H (q_46 r0 a1 T H) := by
    intro n13681
    induction n13681 using Nat.strongRecOn with
    | _ n13681 ih13682 =>
      intro v13683 v13684 b13687 b13688 m13689
      refine wp_of e46 c46_4 (rw_iload_n (pc' := 5) (z := v13683) rfl rfl ?_)
      refine wp_of e46 c46_5 (rw_aload_n (pc' := 6) (v := .ref r0) rfl rfl rfl ?_)
      refine wp_of e46 c46_6 (xg_I (pc' := 9) lf_7_65 hW g0 sh_27 (by decide) (by decide) ty_27_16 rfl rfl (fun b13690 b13691 => ?_))
      refine wp_of e46 c46_9 (rw_icmp_ge (p1 := 44) (p2 := 12) (by decide) rfl ⟨by omega, by omega⟩ ⟨by omega, by omega⟩ (fun c13692 => ?_) (fun c13692 => ?_))
      · refine wp_of e46 c46_44 (rw_iload_n (pc' := 45) (z := v13684) rfl rfl ?_)
        exact wp_ireturn e46 c46_45 rfl ⟨rfl, rfl, v13684, rfl, ⟨by omega, by omega⟩⟩
      · refine wp_of e46 c46_12 (rw_aload_n (pc' := 13) (v := .ref r0) rfl rfl rfl ?_)
        refine wp_of e46 c46_13 (xg_R (pc' := 16) lf_7_17 hW g0 sh_27 (by decide) (by decide) ty_27_1 rfl rfl (fun r13693 q13694 g13695 => ?_))
        refine wp_of e46 c46_16 (rw_aload_n (pc' := 17) (v := .ref r0) rfl rfl rfl ?_)
        refine wp_of e46 c46_17 (xg_R (pc' := 20) lf_7_21 hW g0 sh_27 (by decide) (by decide) ty_27_2 rfl rfl (fun r13696 q13697 g13698 => ?_))
        refine wp_of e46 c46_20 (rw_iload_n (pc' := 21) (z := v13683) rfl rfl ?_)
        refine wp_of e46 c46_21 (xa_I (so := 0) (pc' := 22) hW g13698 sh_30 (by decide) (ty_30 _) (by omega) (by omega) rfl (fun b13699 b13700 => ?_))
        refine wp_of e46 c46_22 (xa_I (so := 0) (pc' := 23) hW g13695 sh_29 (by decide) (ty_29 _) (by omega) (by omega) rfl (fun b13701 b13702 => ?_))
        refine wp_of e46 c46_23 (rw_iload_n (pc' := 24) (z := a1) rfl rfl ?_)
        refine wp_of e46 c46_24 (rw_icmp_gt (p1 := 38) (p2 := 27) (by decide) rfl ⟨by omega, by omega⟩ ⟨by omega, by omega⟩ (fun c13703 => ?_) (fun c13703 => ?_))
        · refine wp_of e46 c46_38 (rw_iinc (pc' := 41) (z := v13683) (L' := [(3, vI (v13683 + 1)), (2, vI v13684), (0, .ref r0), (1, vI a1)]) rfl rfl rfl rfl ?_)
          refine wp_of e46 c46_41 (rw_goto (p1 := 4) (by decide) ?_)
          exact wp_lc (ks := [3, 2, 0, 1]) (wl_c rfl (wl_c rfl (wl_c rfl (wl_c rfl wl_n)))) rfl (by decide) (ih13682 _ (by omega) (v13683 + 1) v13684 ⟨by omega, by omega⟩ ⟨by omega, by omega⟩ rfl)
        · refine wp_of e46 c46_27 (rw_iload_n (pc' := 28) (z := v13684) rfl rfl ?_)
          refine wp_of e46 c46_28 (rw_iconst (pc' := 29) rfl ?_)
          refine wp_of e46 c46_29 (rw_aload_n (pc' := 30) (v := .ref r0) rfl rfl rfl ?_)
          refine wp_of e46 c46_30 (xg_K (pc' := 33) lf_7_21 hW g0 sh_27 (by decide) (by decide) rfl q13697 rfl ?_)
          refine wp_of e46 c46_33 (rw_iload_n (pc' := 34) (z := v13683) rfl rfl ?_)
          refine wp_of e46 c46_34 (xa_I (so := 0) (pc' := 35) hW g13698 sh_30 (by decide) (ty_30 _) (by omega) (by omega) rfl (fun b13704 b13705 => ?_))
          refine wp_of e46 c46_35 (rw_ishl (pc' := 36) rfl ?_)
          obtain ⟨v13706, e13707⟩ : ∃ x : Int, x = wq_shl 1 (H r13696 (v13683.toNat)) := ⟨_, rfl⟩
          rw [← e13707]
          have b13708 : 1 ≤ v13706 ∧ v13706 ≤ 8388608 := by
            rw [e13707]
            exact wq_shl1_24 ⟨by omega, by omega⟩
          refine wp_of e46 c46_36 (rw_ior (pc' := 37) rfl ?_)
          obtain ⟨v13709, e13710⟩ : ∃ x : Int, x = wq_or v13684 v13706 := ⟨_, rfl⟩
          rw [← e13710]
          have b13711 : 0 ≤ v13709 ∧ v13709 ≤ 16777215 := by
            rw [e13710]
            exact wq_or_24 ⟨by omega, by omega⟩ ⟨by omega, by omega⟩
          refine wp_of e46 c46_37 (rw_istore_n (pc' := 38) (z := v13709) (L' := [(2, vI v13709), (3, vI v13683), (0, .ref r0), (1, vI a1)]) rfl rfl rfl ?_)
          refine wp_of e46 c46_38 (rw_iinc (pc' := 41) (z := v13683) (L' := [(3, vI (v13683 + 1)), (2, vI v13709), (0, .ref r0), (1, vI a1)]) rfl rfl rfl rfl ?_)
          refine wp_of e46 c46_41 (rw_goto (p1 := 4) (by decide) ?_)
          exact wp_lc (ks := [3, 2, 0, 1]) (wl_c rfl (wl_c rfl (wl_c rfl (wl_c rfl wl_n)))) rfl (by decide) (ih13682 _ (by omega) (v13683 + 1) v13709 ⟨by omega, by omega⟩ ⟨by omega, by omega⟩ rfl)
  exact wp_lc (ks := [3, 2, 0, 1]) (wl_c rfl (wl_c rfl (wl_c rfl (wl_c rfl wl_n)))) rfl (by decide) (lp13680 _ 0 0 ⟨by omega, by omega⟩ ⟨by omega, by omega⟩ rfl)
/-! StrikeAwake$Walk.tallyOf(I)J -/
theorem e49 : wq_en 49 = some (3, 4, false, some FieldType.long) := rfl
theorem cg49_0 : mc_cd 49 0 = some (.lconst 0, 1) ∧ mc_cd 49 1 = some (.lstore_n 1, 1) ∧ mc_cd 49 2 = some (.iconst 0, 1) ∧ mc_cd 49 3 = some (.istore_n 3, 1) ∧ mc_cd 49 4 = some (.iload_n 3, 1) ∧ mc_cd 49 5 = some (.bipush 12, 2) ∧ mc_cd 49 7 = some (.if_icmp .ge 22, 3) ∧ mc_cd 49 10 = some (.lload_n 1, 1) := by decide +kernel
theorem c49_0 : mc_cd 49 0 = some (.lconst 0, 1) := cg49_0.1
theorem c49_1 : mc_cd 49 1 = some (.lstore_n 1, 1) := cg49_0.2.1
theorem c49_2 : mc_cd 49 2 = some (.iconst 0, 1) := cg49_0.2.2.1
theorem c49_3 : mc_cd 49 3 = some (.istore_n 3, 1) := cg49_0.2.2.2.1
theorem c49_4 : mc_cd 49 4 = some (.iload_n 3, 1) := cg49_0.2.2.2.2.1
theorem c49_5 : mc_cd 49 5 = some (.bipush 12, 2) := cg49_0.2.2.2.2.2.1
theorem c49_7 : mc_cd 49 7 = some (.if_icmp .ge 22, 3) := cg49_0.2.2.2.2.2.2.1
theorem c49_10 : mc_cd 49 10 = some (.lload_n 1, 1) := cg49_0.2.2.2.2.2.2.2
theorem cg49_11 : mc_cd 49 11 = some (.iload_n 0, 1) ∧ mc_cd 49 12 = some (.iload_n 3, 1) ∧ mc_cd 49 13 = some (.ishr, 1) ∧ mc_cd 49 14 = some (.i2l, 1) ∧ mc_cd 49 15 = some (.lconst 1, 1) ∧ mc_cd 49 16 = some (.land, 1) ∧ mc_cd 49 17 = some (.iload_n 3, 1) ∧ mc_cd 49 18 = some (.iconst 4, 1) := by decide +kernel
theorem c49_11 : mc_cd 49 11 = some (.iload_n 0, 1) := cg49_11.1
theorem c49_12 : mc_cd 49 12 = some (.iload_n 3, 1) := cg49_11.2.1
theorem c49_13 : mc_cd 49 13 = some (.ishr, 1) := cg49_11.2.2.1
theorem c49_14 : mc_cd 49 14 = some (.i2l, 1) := cg49_11.2.2.2.1
theorem c49_15 : mc_cd 49 15 = some (.lconst 1, 1) := cg49_11.2.2.2.2.1
theorem c49_16 : mc_cd 49 16 = some (.land, 1) := cg49_11.2.2.2.2.2.1
theorem c49_17 : mc_cd 49 17 = some (.iload_n 3, 1) := cg49_11.2.2.2.2.2.2.1
theorem c49_18 : mc_cd 49 18 = some (.iconst 4, 1) := cg49_11.2.2.2.2.2.2.2
theorem cg49_19 : mc_cd 49 19 = some (.imul, 1) ∧ mc_cd 49 20 = some (.lshl, 1) ∧ mc_cd 49 21 = some (.lor, 1) ∧ mc_cd 49 22 = some (.lstore_n 1, 1) ∧ mc_cd 49 23 = some (.iinc 3 1, 3) ∧ mc_cd 49 26 = some (.goto (-22), 3) ∧ mc_cd 49 29 = some (.lload_n 1, 1) ∧ mc_cd 49 30 = some (.lreturn, 1) := by decide +kernel
theorem c49_19 : mc_cd 49 19 = some (.imul, 1) := cg49_19.1
theorem c49_20 : mc_cd 49 20 = some (.lshl, 1) := cg49_19.2.1
theorem c49_21 : mc_cd 49 21 = some (.lor, 1) := cg49_19.2.2.1
theorem c49_22 : mc_cd 49 22 = some (.lstore_n 1, 1) := cg49_19.2.2.2.1
theorem c49_23 : mc_cd 49 23 = some (.iinc 3 1, 3) := cg49_19.2.2.2.2.1
theorem c49_26 : mc_cd 49 26 = some (.goto (-22), 3) := cg49_19.2.2.2.2.2.1
theorem c49_29 : mc_cd 49 29 = some (.lload_n 1, 1) := cg49_19.2.2.2.2.2.2.1
theorem c49_30 : mc_cd 49 30 = some (.lreturn, 1) := cg49_19.2.2.2.2.2.2.2
abbrev q_49 (a0 : Int) (T : wq_T) (H : wq_H) : Option Value → wq_T → wq_H → Prop := fun r T' H' => T = T' ∧ H = H' ∧ ∃ z : Int, some (vL z) = r ∧ ((-9223372036854775808) ≤ z ∧ z ≤ 9223372036854775807)
set_option maxHeartbeats 4000000 in
theorem s_49 {kt : Nat → Option mc_E} {T : wq_T} {H : wq_H} {a0 : Int} (hW : WT T H) (i0 : (-2147483648) ≤ a0 ∧ a0 ≤ 2147483647) : wpc kt 1 49 [vI a0] T H (q_49 a0 T H) := by
  refine wp_enter e49 (Nat.le_of_ble_eq_true rfl) rfl ?_
  show wp _ _ 49 0 [(0, vI a0)] [] _ H _
  refine wp_of e49 c49_0 (rw_lconst (pc' := 1) (z := 0) rfl rfl ?_)
  refine wp_of e49 c49_1 (rw_lstore_n (pc' := 2) (z := 0) (L' := [(1, vL 0), (0, vI a0)]) rfl rfl rfl ?_)
  refine wp_of e49 c49_2 (rw_iconst (pc' := 3) rfl ?_)
  refine wp_of e49 c49_3 (rw_istore_n (pc' := 4) (z := 0) (L' := [(3, vI 0), (1, vL 0), (0, vI a0)]) rfl rfl rfl ?_)
  have lp13866 : ∀ (n13867 : Nat) (v13869 : Int) (v13870 : Int), (0 ≤ v13869 ∧ v13869 ≤ 12) → ((-9223372036854775808) ≤ v13870 ∧ v13870 ≤ 9223372036854775807) → (12 - v13869).toNat = n13867 → wp kt 0 49 4 [(3, vI v13869), (1, vL v13870), (0, vI a0)] [] T H (q_49 a0 T H) := by
    intro n13867
    induction n13867 using Nat.strongRecOn with
    | _ n13867 ih13868 =>
      intro v13869 v13870 b13873 b13874 m13875
      refine wp_of e49 c49_4 (rw_iload_n (pc' := 5) (z := v13869) rfl rfl ?_)
      refine wp_of e49 c49_5 (rw_bipush (pc' := 7) (z := 12) rfl (by decide) ?_)
      refine wp_of e49 c49_7 (rw_icmp_ge (p1 := 29) (p2 := 10) (by decide) rfl ⟨by omega, by omega⟩ ⟨by omega, by omega⟩ (fun c13876 => ?_) (fun c13876 => ?_))
      · refine wp_of e49 c49_29 (rw_lload_n (pc' := 30) (z := v13870) rfl rfl ?_)
        exact wp_lreturn e49 c49_30 rfl ⟨rfl, rfl, v13870, rfl, ⟨by omega, by omega⟩⟩
      · refine wp_of e49 c49_10 (rw_lload_n (pc' := 11) (z := v13870) rfl rfl ?_)
        refine wp_of e49 c49_11 (rw_iload_n (pc' := 12) (z := a0) rfl rfl ?_)
        refine wp_of e49 c49_12 (rw_iload_n (pc' := 13) (z := v13869) rfl rfl ?_)
        refine wp_of e49 c49_13 (rw_ishr (pc' := 14) rfl ?_)
        obtain ⟨v13877, e13878⟩ : ∃ x : Int, x = wq_shr a0 v13869 := ⟨_, rfl⟩
        rw [← e13878]
        have b13879 : -2147483648 ≤ v13877 ∧ v13877 ≤ 2147483647 := by
          rw [e13878]
          exact wI_shr _ _
        refine wp_of e49 c49_14 (rw_i2l (pc' := 15) rfl ⟨by omega, by omega⟩ ?_)
        refine wp_of e49 c49_15 (rw_lconst (pc' := 16) (z := 1) rfl rfl ?_)
        refine wp_of e49 c49_16 (rw_land (pc' := 17) rfl ?_)
        obtain ⟨v13880, e13881⟩ : ∃ x : Int, x = wl_and v13877 1 := ⟨_, rfl⟩
        rw [← e13881]
        have b13882 : -9223372036854775808 ≤ v13880 ∧ v13880 ≤ 9223372036854775807 := by
          rw [e13881]
          exact wL_and _ _
        refine wp_of e49 c49_17 (rw_iload_n (pc' := 18) (z := v13869) rfl rfl ?_)
        refine wp_of e49 c49_18 (rw_iconst (pc' := 19) rfl ?_)
        refine wp_of e49 c49_19 (rw_imul (pc' := 20) rfl ?_)
        refine wp_of e49 c49_20 (rw_lshl (pc' := 21) rfl ?_)
        obtain ⟨v13883, e13884⟩ : ∃ x : Int, x = wl_shl v13880 (v13869 * 4) := ⟨_, rfl⟩
        rw [← e13884]
        have b13885 : -9223372036854775808 ≤ v13883 ∧ v13883 ≤ 9223372036854775807 := by
          rw [e13884]
          exact wL_shl _ _
        refine wp_of e49 c49_21 (rw_lor (pc' := 22) rfl ?_)
        obtain ⟨v13886, e13887⟩ : ∃ x : Int, x = wl_or v13870 v13883 := ⟨_, rfl⟩
        rw [← e13887]
        have b13888 : -9223372036854775808 ≤ v13886 ∧ v13886 ≤ 9223372036854775807 := by
          rw [e13887]
          exact wL_or _ _
        refine wp_of e49 c49_22 (rw_lstore_n (pc' := 23) (z := v13886) (L' := [(1, vL v13886), (3, vI v13869), (0, vI a0)]) rfl rfl rfl ?_)
        refine wp_of e49 c49_23 (rw_iinc (pc' := 26) (z := v13869) (L' := [(3, vI (v13869 + 1)), (1, vL v13886), (0, vI a0)]) rfl rfl rfl rfl ?_)
        refine wp_of e49 c49_26 (rw_goto (p1 := 4) (by decide) ?_)
        exact wp_lc (ks := [3, 1, 0]) (wl_c rfl (wl_c rfl (wl_c rfl wl_n))) rfl (by decide) (ih13868 _ (by omega) (v13869 + 1) v13886 ⟨by omega, by omega⟩ ⟨by omega, by omega⟩ rfl)
  exact wp_lc (ks := [3, 1, 0]) (wl_c rfl (wl_c rfl (wl_c rfl wl_n))) rfl (by decide) (lp13866 _ 0 0 ⟨by omega, by omega⟩ ⟨by omega, by omega⟩ rfl)
/-! StrikeAwake$Person.addSpan(IIII)V -/
theorem e48 : wq_en 48 = some (8, 5, false, none) := rfl
theorem cg48_0 : mc_cd 48 0 = some (.aload_n 0, 1) ∧ mc_cd 48 1 = some (.getfield 49, 3) ∧ mc_cd 48 4 = some (.bipush 40, 2) ∧ mc_cd 48 6 = some (.if_icmp .lt 4, 3) ∧ mc_cd 48 9 = some (.return_, 1) ∧ mc_cd 48 10 = some (.aload_n 0, 1) ∧ mc_cd 48 11 = some (.getfield 9, 3) ∧ mc_cd 48 14 = some (.aload_n 0, 1) := by decide +kernel
theorem c48_0 : mc_cd 48 0 = some (.aload_n 0, 1) := cg48_0.1
theorem c48_1 : mc_cd 48 1 = some (.getfield 49, 3) := cg48_0.2.1
theorem c48_4 : mc_cd 48 4 = some (.bipush 40, 2) := cg48_0.2.2.1
theorem c48_6 : mc_cd 48 6 = some (.if_icmp .lt 4, 3) := cg48_0.2.2.2.1
theorem c48_9 : mc_cd 48 9 = some (.return_, 1) := cg48_0.2.2.2.2.1
theorem c48_10 : mc_cd 48 10 = some (.aload_n 0, 1) := cg48_0.2.2.2.2.2.1
theorem c48_11 : mc_cd 48 11 = some (.getfield 9, 3) := cg48_0.2.2.2.2.2.2.1
theorem c48_14 : mc_cd 48 14 = some (.aload_n 0, 1) := cg48_0.2.2.2.2.2.2.2
theorem cg48_15 : mc_cd 48 15 = some (.getfield 49, 3) ∧ mc_cd 48 18 = some (.iload_n 1, 1) ∧ mc_cd 48 19 = some (.iastore, 1) ∧ mc_cd 48 20 = some (.aload_n 0, 1) ∧ mc_cd 48 21 = some (.getfield 15, 3) ∧ mc_cd 48 24 = some (.aload_n 0, 1) ∧ mc_cd 48 25 = some (.getfield 49, 3) ∧ mc_cd 48 28 = some (.iload_n 2, 1) := by decide +kernel
theorem c48_15 : mc_cd 48 15 = some (.getfield 49, 3) := cg48_15.1
theorem c48_18 : mc_cd 48 18 = some (.iload_n 1, 1) := cg48_15.2.1
theorem c48_19 : mc_cd 48 19 = some (.iastore, 1) := cg48_15.2.2.1
theorem c48_20 : mc_cd 48 20 = some (.aload_n 0, 1) := cg48_15.2.2.2.1
theorem c48_21 : mc_cd 48 21 = some (.getfield 15, 3) := cg48_15.2.2.2.2.1
theorem c48_24 : mc_cd 48 24 = some (.aload_n 0, 1) := cg48_15.2.2.2.2.2.1
theorem c48_25 : mc_cd 48 25 = some (.getfield 49, 3) := cg48_15.2.2.2.2.2.2.1
theorem c48_28 : mc_cd 48 28 = some (.iload_n 2, 1) := cg48_15.2.2.2.2.2.2.2
theorem cg48_29 : mc_cd 48 29 = some (.iastore, 1) ∧ mc_cd 48 30 = some (.aload_n 0, 1) ∧ mc_cd 48 31 = some (.getfield 18, 3) ∧ mc_cd 48 34 = some (.aload_n 0, 1) ∧ mc_cd 48 35 = some (.getfield 49, 3) ∧ mc_cd 48 38 = some (.iload_n 3, 1) ∧ mc_cd 48 39 = some (.iastore, 1) ∧ mc_cd 48 40 = some (.aload_n 0, 1) := by decide +kernel
theorem c48_29 : mc_cd 48 29 = some (.iastore, 1) := cg48_29.1
theorem c48_30 : mc_cd 48 30 = some (.aload_n 0, 1) := cg48_29.2.1
theorem c48_31 : mc_cd 48 31 = some (.getfield 18, 3) := cg48_29.2.2.1
theorem c48_34 : mc_cd 48 34 = some (.aload_n 0, 1) := cg48_29.2.2.2.1
theorem c48_35 : mc_cd 48 35 = some (.getfield 49, 3) := cg48_29.2.2.2.2.1
theorem c48_38 : mc_cd 48 38 = some (.iload_n 3, 1) := cg48_29.2.2.2.2.2.1
theorem c48_39 : mc_cd 48 39 = some (.iastore, 1) := cg48_29.2.2.2.2.2.2.1
theorem c48_40 : mc_cd 48 40 = some (.aload_n 0, 1) := cg48_29.2.2.2.2.2.2.2
theorem cg48_41 : mc_cd 48 41 = some (.getfield 21, 3) ∧ mc_cd 48 44 = some (.aload_n 0, 1) ∧ mc_cd 48 45 = some (.getfield 49, 3) ∧ mc_cd 48 48 = some (.iload 4, 2) ∧ mc_cd 48 50 = some (.iastore, 1) ∧ mc_cd 48 51 = some (.aload_n 0, 1) ∧ mc_cd 48 52 = some (.getfield 24, 3) ∧ mc_cd 48 55 = some (.aload_n 0, 1) := by decide +kernel
theorem c48_41 : mc_cd 48 41 = some (.getfield 21, 3) := cg48_41.1
theorem c48_44 : mc_cd 48 44 = some (.aload_n 0, 1) := cg48_41.2.1
theorem c48_45 : mc_cd 48 45 = some (.getfield 49, 3) := cg48_41.2.2.1
theorem c48_48 : mc_cd 48 48 = some (.iload 4, 2) := cg48_41.2.2.2.1
theorem c48_50 : mc_cd 48 50 = some (.iastore, 1) := cg48_41.2.2.2.2.1
theorem c48_51 : mc_cd 48 51 = some (.aload_n 0, 1) := cg48_41.2.2.2.2.2.1
theorem c48_52 : mc_cd 48 52 = some (.getfield 24, 3) := cg48_41.2.2.2.2.2.2.1
theorem c48_55 : mc_cd 48 55 = some (.aload_n 0, 1) := cg48_41.2.2.2.2.2.2.2
theorem cg48_56 : mc_cd 48 56 = some (.getfield 49, 3) ∧ mc_cd 48 59 = some (.iload 4, 2) ∧ mc_cd 48 61 = some (.invokestatic 78, 3) ∧ mc_cd 48 64 = some (.lastore, 1) ∧ mc_cd 48 65 = some (.aload_n 0, 1) ∧ mc_cd 48 66 = some (.getfield 28, 3) ∧ mc_cd 48 69 = some (.aload_n 0, 1) ∧ mc_cd 48 70 = some (.getfield 49, 3) := by decide +kernel
theorem c48_56 : mc_cd 48 56 = some (.getfield 49, 3) := cg48_56.1
theorem c48_59 : mc_cd 48 59 = some (.iload 4, 2) := cg48_56.2.1
theorem c48_61 : mc_cd 48 61 = some (.invokestatic 78, 3) := cg48_56.2.2.1
theorem c48_64 : mc_cd 48 64 = some (.lastore, 1) := cg48_56.2.2.2.1
theorem c48_65 : mc_cd 48 65 = some (.aload_n 0, 1) := cg48_56.2.2.2.2.1
theorem c48_66 : mc_cd 48 66 = some (.getfield 28, 3) := cg48_56.2.2.2.2.2.1
theorem c48_69 : mc_cd 48 69 = some (.aload_n 0, 1) := cg48_56.2.2.2.2.2.2.1
theorem c48_70 : mc_cd 48 70 = some (.getfield 49, 3) := cg48_56.2.2.2.2.2.2.2
theorem cg48_73 : mc_cd 48 73 = some (.iload 4, 2) ∧ mc_cd 48 75 = some (.bipush 12, 2) ∧ mc_cd 48 77 = some (.ishr, 1) ∧ mc_cd 48 78 = some (.invokestatic 78, 3) ∧ mc_cd 48 81 = some (.lastore, 1) ∧ mc_cd 48 82 = some (.aload_n 0, 1) ∧ mc_cd 48 83 = some (.dup, 1) ∧ mc_cd 48 84 = some (.getfield 49, 3) := by decide +kernel
theorem c48_73 : mc_cd 48 73 = some (.iload 4, 2) := cg48_73.1
theorem c48_75 : mc_cd 48 75 = some (.bipush 12, 2) := cg48_73.2.1
theorem c48_77 : mc_cd 48 77 = some (.ishr, 1) := cg48_73.2.2.1
theorem c48_78 : mc_cd 48 78 = some (.invokestatic 78, 3) := cg48_73.2.2.2.1
theorem c48_81 : mc_cd 48 81 = some (.lastore, 1) := cg48_73.2.2.2.2.1
theorem c48_82 : mc_cd 48 82 = some (.aload_n 0, 1) := cg48_73.2.2.2.2.2.1
theorem c48_83 : mc_cd 48 83 = some (.dup, 1) := cg48_73.2.2.2.2.2.2.1
theorem c48_84 : mc_cd 48 84 = some (.getfield 49, 3) := cg48_73.2.2.2.2.2.2.2
theorem cg48_87 : mc_cd 48 87 = some (.iconst 1, 1) ∧ mc_cd 48 88 = some (.iadd, 1) ∧ mc_cd 48 89 = some (.putfield 49, 3) ∧ mc_cd 48 92 = some (.return_, 1) := by decide +kernel
theorem c48_87 : mc_cd 48 87 = some (.iconst 1, 1) := cg48_87.1
theorem c48_88 : mc_cd 48 88 = some (.iadd, 1) := cg48_87.2.1
theorem c48_89 : mc_cd 48 89 = some (.putfield 49, 3) := cg48_87.2.2.1
theorem c48_92 : mc_cd 48 92 = some (.return_, 1) := cg48_87.2.2.2
/-! StrikeAwake$Person.makeSpans(II)V -/
theorem e47 : wq_en 47 = some (8, 6, false, none) := rfl
theorem cg47_0 : mc_cd 47 0 = some (.aload_n 0, 1) ∧ mc_cd 47 1 = some (.getfield 42, 3) ∧ mc_cd 47 4 = some (.ifCond .eq 12, 3) ∧ mc_cd 47 7 = some (.aload_n 0, 1) ∧ mc_cd 47 8 = some (.iconst 0, 1) ∧ mc_cd 47 9 = some (.iconst 0, 1) ∧ mc_cd 47 10 = some (.iconst 0, 1) ∧ mc_cd 47 11 = some (.iconst 0, 1) := by decide +kernel
theorem c47_0 : mc_cd 47 0 = some (.aload_n 0, 1) := cg47_0.1
theorem c47_1 : mc_cd 47 1 = some (.getfield 42, 3) := cg47_0.2.1
theorem c47_4 : mc_cd 47 4 = some (.ifCond .eq 12, 3) := cg47_0.2.2.1
theorem c47_7 : mc_cd 47 7 = some (.aload_n 0, 1) := cg47_0.2.2.2.1
theorem c47_8 : mc_cd 47 8 = some (.iconst 0, 1) := cg47_0.2.2.2.2.1
theorem c47_9 : mc_cd 47 9 = some (.iconst 0, 1) := cg47_0.2.2.2.2.2.1
theorem c47_10 : mc_cd 47 10 = some (.iconst 0, 1) := cg47_0.2.2.2.2.2.2.1
theorem c47_11 : mc_cd 47 11 = some (.iconst 0, 1) := cg47_0.2.2.2.2.2.2.2
theorem cg47_12 : mc_cd 47 12 = some (.invokevirtual 58, 3) ∧ mc_cd 47 15 = some (.return_, 1) ∧ mc_cd 47 16 = some (.aload_n 0, 1) ∧ mc_cd 47 17 = some (.getfield 62, 3) ∧ mc_cd 47 20 = some (.istore_n 3, 1) ∧ mc_cd 47 21 = some (.iload_n 3, 1) ∧ mc_cd 47 22 = some (.aload_n 0, 1) ∧ mc_cd 47 23 = some (.getfield 65, 3) := by decide +kernel
theorem c47_12 : mc_cd 47 12 = some (.invokevirtual 58, 3) := cg47_12.1
theorem c47_15 : mc_cd 47 15 = some (.return_, 1) := cg47_12.2.1
theorem c47_16 : mc_cd 47 16 = some (.aload_n 0, 1) := cg47_12.2.2.1
theorem c47_17 : mc_cd 47 17 = some (.getfield 62, 3) := cg47_12.2.2.2.1
theorem c47_20 : mc_cd 47 20 = some (.istore_n 3, 1) := cg47_12.2.2.2.2.1
theorem c47_21 : mc_cd 47 21 = some (.iload_n 3, 1) := cg47_12.2.2.2.2.2.1
theorem c47_22 : mc_cd 47 22 = some (.aload_n 0, 1) := cg47_12.2.2.2.2.2.2.1
theorem c47_23 : mc_cd 47 23 = some (.getfield 65, 3) := cg47_12.2.2.2.2.2.2.2
theorem cg47_26 : mc_cd 47 26 = some (.if_icmp .gt 69, 3) ∧ mc_cd 47 29 = some (.aload_n 0, 1) ∧ mc_cd 47 30 = some (.getfield 68, 3) ∧ mc_cd 47 33 = some (.istore 4, 2) ∧ mc_cd 47 35 = some (.iload 4, 2) ∧ mc_cd 47 37 = some (.aload_n 0, 1) ∧ mc_cd 47 38 = some (.getfield 71, 3) ∧ mc_cd 47 41 = some (.if_icmp .gt 48, 3) := by decide +kernel
theorem c47_26 : mc_cd 47 26 = some (.if_icmp .gt 69, 3) := cg47_26.1
theorem c47_29 : mc_cd 47 29 = some (.aload_n 0, 1) := cg47_26.2.1
theorem c47_30 : mc_cd 47 30 = some (.getfield 68, 3) := cg47_26.2.2.1
theorem c47_33 : mc_cd 47 33 = some (.istore 4, 2) := cg47_26.2.2.2.1
theorem c47_35 : mc_cd 47 35 = some (.iload 4, 2) := cg47_26.2.2.2.2.1
theorem c47_37 : mc_cd 47 37 = some (.aload_n 0, 1) := cg47_26.2.2.2.2.2.1
theorem c47_38 : mc_cd 47 38 = some (.getfield 71, 3) := cg47_26.2.2.2.2.2.2.1
theorem c47_41 : mc_cd 47 41 = some (.if_icmp .gt 48, 3) := cg47_26.2.2.2.2.2.2.2
theorem cg47_44 : mc_cd 47 44 = some (.iload_n 3, 1) ∧ mc_cd 47 45 = some (.iload_n 3, 1) ∧ mc_cd 47 46 = some (.iload 4, 2) ∧ mc_cd 47 48 = some (.iadd, 1) ∧ mc_cd 47 49 = some (.invokestatic 74, 3) ∧ mc_cd 47 52 = some (.aload_n 0, 1) ∧ mc_cd 47 53 = some (.getfield 39, 3) ∧ mc_cd 47 56 = some (.ior, 1) := by decide +kernel
theorem c47_44 : mc_cd 47 44 = some (.iload_n 3, 1) := cg47_44.1
theorem c47_45 : mc_cd 47 45 = some (.iload_n 3, 1) := cg47_44.2.1
theorem c47_46 : mc_cd 47 46 = some (.iload 4, 2) := cg47_44.2.2.1
theorem c47_48 : mc_cd 47 48 = some (.iadd, 1) := cg47_44.2.2.2.1
theorem c47_49 : mc_cd 47 49 = some (.invokestatic 74, 3) := cg47_44.2.2.2.2.1
theorem c47_52 : mc_cd 47 52 = some (.aload_n 0, 1) := cg47_44.2.2.2.2.2.1
theorem c47_53 : mc_cd 47 53 = some (.getfield 39, 3) := cg47_44.2.2.2.2.2.2.1
theorem c47_56 : mc_cd 47 56 = some (.ior, 1) := cg47_44.2.2.2.2.2.2.2
theorem cg47_57 : mc_cd 47 57 = some (.iload_n 1, 1) ∧ mc_cd 47 58 = some (.iand, 1) ∧ mc_cd 47 59 = some (.istore 5, 2) ∧ mc_cd 47 61 = some (.iload 5, 2) ∧ mc_cd 47 63 = some (.iload_n 2, 1) ∧ mc_cd 47 64 = some (.iand, 1) ∧ mc_cd 47 65 = some (.ifCond .ne 18, 3) ∧ mc_cd 47 68 = some (.aload_n 0, 1) := by decide +kernel
theorem c47_57 : mc_cd 47 57 = some (.iload_n 1, 1) := cg47_57.1
theorem c47_58 : mc_cd 47 58 = some (.iand, 1) := cg47_57.2.1
theorem c47_59 : mc_cd 47 59 = some (.istore 5, 2) := cg47_57.2.2.1
theorem c47_61 : mc_cd 47 61 = some (.iload 5, 2) := cg47_57.2.2.2.1
theorem c47_63 : mc_cd 47 63 = some (.iload_n 2, 1) := cg47_57.2.2.2.2.1
theorem c47_64 : mc_cd 47 64 = some (.iand, 1) := cg47_57.2.2.2.2.2.1
theorem c47_65 : mc_cd 47 65 = some (.ifCond .ne 18, 3) := cg47_57.2.2.2.2.2.2.1
theorem c47_68 : mc_cd 47 68 = some (.aload_n 0, 1) := cg47_57.2.2.2.2.2.2.2
theorem cg47_69 : mc_cd 47 69 = some (.iload_n 3, 1) ∧ mc_cd 47 70 = some (.iload 4, 2) ∧ mc_cd 47 72 = some (.iload 5, 2) ∧ mc_cd 47 74 = some (.iload_n 1, 1) ∧ mc_cd 47 75 = some (.iload 5, 2) ∧ mc_cd 47 77 = some (.iconst (-1), 1) ∧ mc_cd 47 78 = some (.ixor, 1) ∧ mc_cd 47 79 = some (.iand, 1) := by decide +kernel
theorem c47_69 : mc_cd 47 69 = some (.iload_n 3, 1) := cg47_69.1
theorem c47_70 : mc_cd 47 70 = some (.iload 4, 2) := cg47_69.2.1
theorem c47_72 : mc_cd 47 72 = some (.iload 5, 2) := cg47_69.2.2.1
theorem c47_74 : mc_cd 47 74 = some (.iload_n 1, 1) := cg47_69.2.2.2.1
theorem c47_75 : mc_cd 47 75 = some (.iload 5, 2) := cg47_69.2.2.2.2.1
theorem c47_77 : mc_cd 47 77 = some (.iconst (-1), 1) := cg47_69.2.2.2.2.2.1
theorem c47_78 : mc_cd 47 78 = some (.ixor, 1) := cg47_69.2.2.2.2.2.2.1
theorem c47_79 : mc_cd 47 79 = some (.iand, 1) := cg47_69.2.2.2.2.2.2.2
theorem cg47_80 : mc_cd 47 80 = some (.invokevirtual 58, 3) ∧ mc_cd 47 83 = some (.iinc 4 1, 3) ∧ mc_cd 47 86 = some (.goto (-51), 3) ∧ mc_cd 47 89 = some (.iinc 3 1, 3) ∧ mc_cd 47 92 = some (.goto (-71), 3) ∧ mc_cd 47 95 = some (.return_, 1) := by decide +kernel
theorem c47_80 : mc_cd 47 80 = some (.invokevirtual 58, 3) := cg47_80.1
theorem c47_83 : mc_cd 47 83 = some (.iinc 4 1, 3) := cg47_80.2.1
theorem c47_86 : mc_cd 47 86 = some (.goto (-51), 3) := cg47_80.2.2.1
theorem c47_89 : mc_cd 47 89 = some (.iinc 3 1, 3) := cg47_80.2.2.2.1
theorem c47_92 : mc_cd 47 92 = some (.goto (-71), 3) := cg47_80.2.2.2.2.1
theorem c47_95 : mc_cd 47 95 = some (.return_, 1) := cg47_80.2.2.2.2.2
/-! StrikeAwake$Parish.settle()V -/
theorem e44 : wq_en 44 = some (7, 3, false, none) := rfl
theorem cg44_0 : mc_cd 44 0 = some (.aload_n 0, 1) ∧ mc_cd 44 1 = some (.invokevirtual 96, 3) ∧ mc_cd 44 4 = some (.istore_n 1, 1) ∧ mc_cd 44 5 = some (.aload_n 0, 1) ∧ mc_cd 44 6 = some (.getfield 41, 3) ∧ mc_cd 44 9 = some (.istore_n 2, 1) ∧ mc_cd 44 10 = some (.iload_n 2, 1) ∧ mc_cd 44 11 = some (.bipush 24, 2) := by decide +kernel
theorem c44_0 : mc_cd 44 0 = some (.aload_n 0, 1) := cg44_0.1
theorem c44_1 : mc_cd 44 1 = some (.invokevirtual 96, 3) := cg44_0.2.1
theorem c44_4 : mc_cd 44 4 = some (.istore_n 1, 1) := cg44_0.2.2.1
theorem c44_5 : mc_cd 44 5 = some (.aload_n 0, 1) := cg44_0.2.2.2.1
theorem c44_6 : mc_cd 44 6 = some (.getfield 41, 3) := cg44_0.2.2.2.2.1
theorem c44_9 : mc_cd 44 9 = some (.istore_n 2, 1) := cg44_0.2.2.2.2.2.1
theorem c44_10 : mc_cd 44 10 = some (.iload_n 2, 1) := cg44_0.2.2.2.2.2.2.1
theorem c44_11 : mc_cd 44 11 = some (.bipush 24, 2) := cg44_0.2.2.2.2.2.2.2
theorem cg44_13 : mc_cd 44 13 = some (.if_icmp .ge 17, 3) ∧ mc_cd 44 16 = some (.aload_n 0, 1) ∧ mc_cd 44 17 = some (.getfield 17, 3) ∧ mc_cd 44 20 = some (.iload_n 2, 1) ∧ mc_cd 44 21 = some (.bipush (-2), 2) ∧ mc_cd 44 23 = some (.iastore, 1) ∧ mc_cd 44 24 = some (.iinc 2 1, 3) ∧ mc_cd 44 27 = some (.goto (-17), 3) := by decide +kernel
theorem c44_13 : mc_cd 44 13 = some (.if_icmp .ge 17, 3) := cg44_13.1
theorem c44_16 : mc_cd 44 16 = some (.aload_n 0, 1) := cg44_13.2.1
theorem c44_17 : mc_cd 44 17 = some (.getfield 17, 3) := cg44_13.2.2.1
theorem c44_20 : mc_cd 44 20 = some (.iload_n 2, 1) := cg44_13.2.2.2.1
theorem c44_21 : mc_cd 44 21 = some (.bipush (-2), 2) := cg44_13.2.2.2.2.1
theorem c44_23 : mc_cd 44 23 = some (.iastore, 1) := cg44_13.2.2.2.2.2.1
theorem c44_24 : mc_cd 44 24 = some (.iinc 2 1, 3) := cg44_13.2.2.2.2.2.2.1
theorem c44_27 : mc_cd 44 27 = some (.goto (-17), 3) := cg44_13.2.2.2.2.2.2.2
theorem cg44_30 : mc_cd 44 30 = some (.aload_n 0, 1) ∧ mc_cd 44 31 = some (.invokevirtual 89, 3) ∧ mc_cd 44 34 = some (.iconst 0, 1) ∧ mc_cd 44 35 = some (.istore_n 2, 1) ∧ mc_cd 44 36 = some (.iload_n 2, 1) ∧ mc_cd 44 37 = some (.aload_n 0, 1) ∧ mc_cd 44 38 = some (.getfield 59, 3) ∧ mc_cd 44 41 = some (.if_icmp .ge 19, 3) := by decide +kernel
theorem c44_30 : mc_cd 44 30 = some (.aload_n 0, 1) := cg44_30.1
theorem c44_31 : mc_cd 44 31 = some (.invokevirtual 89, 3) := cg44_30.2.1
theorem c44_34 : mc_cd 44 34 = some (.iconst 0, 1) := cg44_30.2.2.1
theorem c44_35 : mc_cd 44 35 = some (.istore_n 2, 1) := cg44_30.2.2.2.1
theorem c44_36 : mc_cd 44 36 = some (.iload_n 2, 1) := cg44_30.2.2.2.2.1
theorem c44_37 : mc_cd 44 37 = some (.aload_n 0, 1) := cg44_30.2.2.2.2.2.1
theorem c44_38 : mc_cd 44 38 = some (.getfield 59, 3) := cg44_30.2.2.2.2.2.2.1
theorem c44_41 : mc_cd 44 41 = some (.if_icmp .ge 19, 3) := cg44_30.2.2.2.2.2.2.2
theorem cg44_44 : mc_cd 44 44 = some (.aload_n 0, 1) ∧ mc_cd 44 45 = some (.getfield 30, 3) ∧ mc_cd 44 48 = some (.iload_n 2, 1) ∧ mc_cd 44 49 = some (.dup2, 1) ∧ mc_cd 44 50 = some (.iaload, 1) ∧ mc_cd 44 51 = some (.iload_n 1, 1) ∧ mc_cd 44 52 = some (.iand, 1) ∧ mc_cd 44 53 = some (.iastore, 1) := by decide +kernel
theorem c44_44 : mc_cd 44 44 = some (.aload_n 0, 1) := cg44_44.1
theorem c44_45 : mc_cd 44 45 = some (.getfield 30, 3) := cg44_44.2.1
theorem c44_48 : mc_cd 44 48 = some (.iload_n 2, 1) := cg44_44.2.2.1
theorem c44_49 : mc_cd 44 49 = some (.dup2, 1) := cg44_44.2.2.2.1
theorem c44_50 : mc_cd 44 50 = some (.iaload, 1) := cg44_44.2.2.2.2.1
theorem c44_51 : mc_cd 44 51 = some (.iload_n 1, 1) := cg44_44.2.2.2.2.2.1
theorem c44_52 : mc_cd 44 52 = some (.iand, 1) := cg44_44.2.2.2.2.2.2.1
theorem c44_53 : mc_cd 44 53 = some (.iastore, 1) := cg44_44.2.2.2.2.2.2.2
theorem cg44_54 : mc_cd 44 54 = some (.iinc 2 1, 3) ∧ mc_cd 44 57 = some (.goto (-21), 3) ∧ mc_cd 44 60 = some (.iconst 0, 1) ∧ mc_cd 44 61 = some (.istore_n 2, 1) ∧ mc_cd 44 62 = some (.iload_n 2, 1) ∧ mc_cd 44 63 = some (.aload_n 0, 1) ∧ mc_cd 44 64 = some (.getfield 62, 3) ∧ mc_cd 44 67 = some (.if_icmp .ge 19, 3) := by decide +kernel
theorem c44_54 : mc_cd 44 54 = some (.iinc 2 1, 3) := cg44_54.1
theorem c44_57 : mc_cd 44 57 = some (.goto (-21), 3) := cg44_54.2.1
theorem c44_60 : mc_cd 44 60 = some (.iconst 0, 1) := cg44_54.2.2.1
theorem c44_61 : mc_cd 44 61 = some (.istore_n 2, 1) := cg44_54.2.2.2.1
theorem c44_62 : mc_cd 44 62 = some (.iload_n 2, 1) := cg44_54.2.2.2.2.1
theorem c44_63 : mc_cd 44 63 = some (.aload_n 0, 1) := cg44_54.2.2.2.2.2.1
theorem c44_64 : mc_cd 44 64 = some (.getfield 62, 3) := cg44_54.2.2.2.2.2.2.1
theorem c44_67 : mc_cd 44 67 = some (.if_icmp .ge 19, 3) := cg44_54.2.2.2.2.2.2.2
theorem cg44_70 : mc_cd 44 70 = some (.aload_n 0, 1) ∧ mc_cd 44 71 = some (.getfield 33, 3) ∧ mc_cd 44 74 = some (.iload_n 2, 1) ∧ mc_cd 44 75 = some (.dup2, 1) ∧ mc_cd 44 76 = some (.iaload, 1) ∧ mc_cd 44 77 = some (.iload_n 1, 1) ∧ mc_cd 44 78 = some (.iand, 1) ∧ mc_cd 44 79 = some (.iastore, 1) := by decide +kernel
theorem c44_70 : mc_cd 44 70 = some (.aload_n 0, 1) := cg44_70.1
theorem c44_71 : mc_cd 44 71 = some (.getfield 33, 3) := cg44_70.2.1
theorem c44_74 : mc_cd 44 74 = some (.iload_n 2, 1) := cg44_70.2.2.1
theorem c44_75 : mc_cd 44 75 = some (.dup2, 1) := cg44_70.2.2.2.1
theorem c44_76 : mc_cd 44 76 = some (.iaload, 1) := cg44_70.2.2.2.2.1
theorem c44_77 : mc_cd 44 77 = some (.iload_n 1, 1) := cg44_70.2.2.2.2.2.1
theorem c44_78 : mc_cd 44 78 = some (.iand, 1) := cg44_70.2.2.2.2.2.2.1
theorem c44_79 : mc_cd 44 79 = some (.iastore, 1) := cg44_70.2.2.2.2.2.2.2
theorem cg44_80 : mc_cd 44 80 = some (.iinc 2 1, 3) ∧ mc_cd 44 83 = some (.goto (-21), 3) ∧ mc_cd 44 86 = some (.aload_n 0, 1) ∧ mc_cd 44 87 = some (.lconst 1, 1) ∧ mc_cd 44 88 = some (.putfield 71, 3) ∧ mc_cd 44 91 = some (.aload_n 0, 1) ∧ mc_cd 44 92 = some (.getfield 50, 3) ∧ mc_cd 44 95 = some (.iconst 1, 1) := by decide +kernel
theorem c44_80 : mc_cd 44 80 = some (.iinc 2 1, 3) := cg44_80.1
theorem c44_83 : mc_cd 44 83 = some (.goto (-21), 3) := cg44_80.2.1
theorem c44_86 : mc_cd 44 86 = some (.aload_n 0, 1) := cg44_80.2.2.1
theorem c44_87 : mc_cd 44 87 = some (.lconst 1, 1) := cg44_80.2.2.2.1
theorem c44_88 : mc_cd 44 88 = some (.putfield 71, 3) := cg44_80.2.2.2.2.1
theorem c44_91 : mc_cd 44 91 = some (.aload_n 0, 1) := cg44_80.2.2.2.2.2.1
theorem c44_92 : mc_cd 44 92 = some (.getfield 50, 3) := cg44_80.2.2.2.2.2.2.1
theorem c44_95 : mc_cd 44 95 = some (.iconst 1, 1) := cg44_80.2.2.2.2.2.2.2
theorem cg44_96 : mc_cd 44 96 = some (.isub, 1) ∧ mc_cd 44 97 = some (.istore_n 2, 1) ∧ mc_cd 44 98 = some (.iload_n 2, 1) ∧ mc_cd 44 99 = some (.ifCond .lt 70, 3) ∧ mc_cd 44 102 = some (.aload_n 0, 1) ∧ mc_cd 44 103 = some (.getfield 11, 3) ∧ mc_cd 44 106 = some (.iload_n 2, 1) ∧ mc_cd 44 107 = some (.aaload, 1) := by decide +kernel
theorem c44_96 : mc_cd 44 96 = some (.isub, 1) := cg44_96.1
theorem c44_97 : mc_cd 44 97 = some (.istore_n 2, 1) := cg44_96.2.1
theorem c44_98 : mc_cd 44 98 = some (.iload_n 2, 1) := cg44_96.2.2.1
theorem c44_99 : mc_cd 44 99 = some (.ifCond .lt 70, 3) := cg44_96.2.2.2.1
theorem c44_102 : mc_cd 44 102 = some (.aload_n 0, 1) := cg44_96.2.2.2.2.1
theorem c44_103 : mc_cd 44 103 = some (.getfield 11, 3) := cg44_96.2.2.2.2.2.1
theorem c44_106 : mc_cd 44 106 = some (.iload_n 2, 1) := cg44_96.2.2.2.2.2.2.1
theorem c44_107 : mc_cd 44 107 = some (.aaload, 1) := cg44_96.2.2.2.2.2.2.2
theorem cg44_108 : mc_cd 44 108 = some (.iload_n 1, 1) ∧ mc_cd 44 109 = some (.iload_n 2, 1) ∧ mc_cd 44 110 = some (.aload_n 0, 1) ∧ mc_cd 44 111 = some (.getfield 37, 3) ∧ mc_cd 44 114 = some (.if_icmp .ne 12, 3) ∧ mc_cd 44 117 = some (.aload_n 0, 1) ∧ mc_cd 44 118 = some (.bipush 99, 2) ∧ mc_cd 44 120 = some (.invokevirtual 99, 3) := by decide +kernel
theorem c44_108 : mc_cd 44 108 = some (.iload_n 1, 1) := cg44_108.1
theorem c44_109 : mc_cd 44 109 = some (.iload_n 2, 1) := cg44_108.2.1
theorem c44_110 : mc_cd 44 110 = some (.aload_n 0, 1) := cg44_108.2.2.1
theorem c44_111 : mc_cd 44 111 = some (.getfield 37, 3) := cg44_108.2.2.2.1
theorem c44_114 : mc_cd 44 114 = some (.if_icmp .ne 12, 3) := cg44_108.2.2.2.2.1
theorem c44_117 : mc_cd 44 117 = some (.aload_n 0, 1) := cg44_108.2.2.2.2.2.1
theorem c44_118 : mc_cd 44 118 = some (.bipush 99, 2) := cg44_108.2.2.2.2.2.2.1
theorem c44_120 : mc_cd 44 120 = some (.invokevirtual 99, 3) := cg44_108.2.2.2.2.2.2.2
theorem cg44_123 : mc_cd 44 123 = some (.goto 4, 3) ∧ mc_cd 44 126 = some (.iconst 0, 1) ∧ mc_cd 44 127 = some (.invokevirtual 103, 3) ∧ mc_cd 44 130 = some (.aload_n 0, 1) ∧ mc_cd 44 131 = some (.getfield 11, 3) ∧ mc_cd 44 134 = some (.iload_n 2, 1) ∧ mc_cd 44 135 = some (.aaload, 1) ∧ mc_cd 44 136 = some (.aload_n 0, 1) := by decide +kernel
theorem c44_123 : mc_cd 44 123 = some (.goto 4, 3) := cg44_123.1
theorem c44_126 : mc_cd 44 126 = some (.iconst 0, 1) := cg44_123.2.1
theorem c44_127 : mc_cd 44 127 = some (.invokevirtual 103, 3) := cg44_123.2.2.1
theorem c44_130 : mc_cd 44 130 = some (.aload_n 0, 1) := cg44_123.2.2.2.1
theorem c44_131 : mc_cd 44 131 = some (.getfield 11, 3) := cg44_123.2.2.2.2.1
theorem c44_134 : mc_cd 44 134 = some (.iload_n 2, 1) := cg44_123.2.2.2.2.2.1
theorem c44_135 : mc_cd 44 135 = some (.aaload, 1) := cg44_123.2.2.2.2.2.2.1
theorem c44_136 : mc_cd 44 136 = some (.aload_n 0, 1) := cg44_123.2.2.2.2.2.2.2
theorem cg44_137 : mc_cd 44 137 = some (.getfield 71, 3) ∧ mc_cd 44 140 = some (.l2i, 1) ∧ mc_cd 44 141 = some (.putfield 107, 3) ∧ mc_cd 44 144 = some (.aload_n 0, 1) ∧ mc_cd 44 145 = some (.dup, 1) ∧ mc_cd 44 146 = some (.getfield 71, 3) ∧ mc_cd 44 149 = some (.aload_n 0, 1) ∧ mc_cd 44 150 = some (.getfield 11, 3) := by decide +kernel
theorem c44_137 : mc_cd 44 137 = some (.getfield 71, 3) := cg44_137.1
theorem c44_140 : mc_cd 44 140 = some (.l2i, 1) := cg44_137.2.1
theorem c44_141 : mc_cd 44 141 = some (.putfield 107, 3) := cg44_137.2.2.1
theorem c44_144 : mc_cd 44 144 = some (.aload_n 0, 1) := cg44_137.2.2.2.1
theorem c44_145 : mc_cd 44 145 = some (.dup, 1) := cg44_137.2.2.2.2.1
theorem c44_146 : mc_cd 44 146 = some (.getfield 71, 3) := cg44_137.2.2.2.2.2.1
theorem c44_149 : mc_cd 44 149 = some (.aload_n 0, 1) := cg44_137.2.2.2.2.2.2.1
theorem c44_150 : mc_cd 44 150 = some (.getfield 11, 3) := cg44_137.2.2.2.2.2.2.2
theorem cg44_153 : mc_cd 44 153 = some (.iload_n 2, 1) ∧ mc_cd 44 154 = some (.aaload, 1) ∧ mc_cd 44 155 = some (.getfield 110, 3) ∧ mc_cd 44 158 = some (.i2l, 1) ∧ mc_cd 44 159 = some (.lmul, 1) ∧ mc_cd 44 160 = some (.putfield 71, 3) ∧ mc_cd 44 163 = some (.iinc 2 (-1), 3) ∧ mc_cd 44 166 = some (.goto (-68), 3) := by decide +kernel
theorem c44_153 : mc_cd 44 153 = some (.iload_n 2, 1) := cg44_153.1
theorem c44_154 : mc_cd 44 154 = some (.aaload, 1) := cg44_153.2.1
theorem c44_155 : mc_cd 44 155 = some (.getfield 110, 3) := cg44_153.2.2.1
theorem c44_158 : mc_cd 44 158 = some (.i2l, 1) := cg44_153.2.2.2.1
theorem c44_159 : mc_cd 44 159 = some (.lmul, 1) := cg44_153.2.2.2.2.1
theorem c44_160 : mc_cd 44 160 = some (.putfield 71, 3) := cg44_153.2.2.2.2.2.1
theorem c44_163 : mc_cd 44 163 = some (.iinc 2 (-1), 3) := cg44_153.2.2.2.2.2.2.1
theorem c44_166 : mc_cd 44 166 = some (.goto (-68), 3) := cg44_153.2.2.2.2.2.2.2
theorem c44_169 : mc_cd 44 169 = some (.return_, 1) := by decide +kernel
/-! StrikeAwake$Census.forget()V -/
theorem e50 : wq_en 50 = some (4, 1, false, none) := rfl
theorem cg50_0 : mc_cd 50 0 = some (.aload_n 0, 1) ∧ mc_cd 50 1 = some (.iconst 0, 1) ∧ mc_cd 50 2 = some (.putfield 32, 3) ∧ mc_cd 50 5 = some (.return_, 1) := by decide +kernel
theorem c50_0 : mc_cd 50 0 = some (.aload_n 0, 1) := cg50_0.1
theorem c50_1 : mc_cd 50 1 = some (.iconst 0, 1) := cg50_0.2.1
theorem c50_2 : mc_cd 50 2 = some (.putfield 32, 3) := cg50_0.2.2.1
theorem c50_5 : mc_cd 50 5 = some (.return_, 1) := cg50_0.2.2.2
/-! StrikeAwake.answer(I)I -/
theorem e51 : wq_en 51 = some (0, 2, false, some FieldType.int) := rfl
theorem cg51_0 : mc_cd 51 0 = some (.aload_n 0, 1) ∧ mc_cd 51 1 = some (.iconst 0, 1) ∧ mc_cd 51 2 = some (.putfield 102, 3) ∧ mc_cd 51 5 = some (.iload_n 1, 1) ∧ mc_cd 51 6 = some (.ireturn, 1) := by decide +kernel
theorem c51_0 : mc_cd 51 0 = some (.aload_n 0, 1) := cg51_0.1
theorem c51_1 : mc_cd 51 1 = some (.iconst 0, 1) := cg51_0.2.1
theorem c51_2 : mc_cd 51 2 = some (.putfield 102, 3) := cg51_0.2.2.1
theorem c51_5 : mc_cd 51 5 = some (.iload_n 1, 1) := cg51_0.2.2.2.1
theorem c51_6 : mc_cd 51 6 = some (.ireturn, 1) := cg51_0.2.2.2.2
abbrev q_51 (r0 : Nat) (a1 : Int) (T : wq_T) (H : wq_H) : Option Value → wq_T → wq_H → Prop := fun r T' H' => T = T' ∧ WT T H' ∧ wfr [(1, 10)] T H H' ∧ ∃ z : Int, some (vI z) = r ∧ ((-2147483648) ≤ z ∧ z ≤ 2147483647)
set_option maxHeartbeats 4000000 in
theorem s_51 {kt : Nat → Option mc_E} {T : wq_T} {H : wq_H} {r0 : Nat} {a1 : Int} (hW : WT T H) (g0 : T.2.2.2 r0 = some 1) (i1 : (-2147483648) ≤ a1 ∧ a1 ≤ 2147483647) : wpc kt 1 51 [.ref r0, vI a1] T H (q_51 r0 a1 T H) := by
  refine wp_enter e51 (Nat.le_of_ble_eq_true rfl) rfl ?_
  have f0 : wfr [(1, 10)] T H H := wfr.rf
  show wp _ _ 51 0 [(0, .ref r0), (1, vI a1)] [] _ H _
  refine wp_of e51 c51_0 (rw_aload_n (pc' := 1) (v := .ref r0) rfl rfl rfl ?_)
  refine wp_of e51 c51_1 (rw_iconst (pc' := 2) rfl ?_)
  refine wp_of e51 c51_2 (xp_I (pc' := 5) lf_0_102 hW g0 sh_1 (by decide) (by decide) ty_1_10 rfl rfl (by omega) (by omega) ⟨by omega, by omega⟩ rfl (fun H15920 e15921 w15922 => ?_))
  have f15923 := f0.put' e15921 g0 rfl
  have k15924 : H15920 r0 10 = 0 := wq_u_s e15921
  refine wp_of e51 c51_5 (rw_iload_n (pc' := 6) (z := a1) rfl rfl ?_)
  exact wp_ireturn e51 c51_6 rfl ⟨rfl, w15922, f15923, a1, rfl, ⟨by omega, by omega⟩⟩
/-! StrikeAwake.parish(I)I -/
theorem e11 : wq_en 11 = some (0, 4, false, some FieldType.int) := rfl
theorem cg11_0 : mc_cd 11 0 = some (.iload_n 1, 1) ∧ mc_cd 11 1 = some (.ifCond .lt 11, 3) ∧ mc_cd 11 4 = some (.iload_n 1, 1) ∧ mc_cd 11 5 = some (.aload_n 0, 1) ∧ mc_cd 11 6 = some (.getfield 62, 3) ∧ mc_cd 11 9 = some (.if_icmp .le 9, 3) ∧ mc_cd 11 12 = some (.aload_n 0, 1) ∧ mc_cd 11 13 = some (.iconst 2, 1) := by decide +kernel
theorem c11_0 : mc_cd 11 0 = some (.iload_n 1, 1) := cg11_0.1
theorem c11_1 : mc_cd 11 1 = some (.ifCond .lt 11, 3) := cg11_0.2.1
theorem c11_4 : mc_cd 11 4 = some (.iload_n 1, 1) := cg11_0.2.2.1
theorem c11_5 : mc_cd 11 5 = some (.aload_n 0, 1) := cg11_0.2.2.2.1
theorem c11_6 : mc_cd 11 6 = some (.getfield 62, 3) := cg11_0.2.2.2.2.1
theorem c11_9 : mc_cd 11 9 = some (.if_icmp .le 9, 3) := cg11_0.2.2.2.2.2.1
theorem c11_12 : mc_cd 11 12 = some (.aload_n 0, 1) := cg11_0.2.2.2.2.2.2.1
theorem c11_13 : mc_cd 11 13 = some (.iconst 2, 1) := cg11_0.2.2.2.2.2.2.2
theorem cg11_14 : mc_cd 11 14 = some (.invokevirtual 70, 3) ∧ mc_cd 11 17 = some (.ireturn, 1) ∧ mc_cd 11 18 = some (.aload_n 0, 1) ∧ mc_cd 11 19 = some (.iconst 0, 1) ∧ mc_cd 11 20 = some (.putfield 62, 3) ∧ mc_cd 11 23 = some (.aload_n 0, 1) ∧ mc_cd 11 24 = some (.getfield 16, 3) ∧ mc_cd 11 27 = some (.aload_n 0, 1) := by decide +kernel
theorem c11_14 : mc_cd 11 14 = some (.invokevirtual 70, 3) := cg11_14.1
theorem c11_17 : mc_cd 11 17 = some (.ireturn, 1) := cg11_14.2.1
theorem c11_18 : mc_cd 11 18 = some (.aload_n 0, 1) := cg11_14.2.2.1
theorem c11_19 : mc_cd 11 19 = some (.iconst 0, 1) := cg11_14.2.2.2.1
theorem c11_20 : mc_cd 11 20 = some (.putfield 62, 3) := cg11_14.2.2.2.2.1
theorem c11_23 : mc_cd 11 23 = some (.aload_n 0, 1) := cg11_14.2.2.2.2.2.1
theorem c11_24 : mc_cd 11 24 = some (.getfield 16, 3) := cg11_14.2.2.2.2.2.2.1
theorem c11_27 : mc_cd 11 27 = some (.aload_n 0, 1) := cg11_14.2.2.2.2.2.2.2
theorem cg11_28 : mc_cd 11 28 = some (.getfield 9, 3) ∧ mc_cd 11 31 = some (.iload_n 1, 1) ∧ mc_cd 11 32 = some (.aload_n 0, 1) ∧ mc_cd 11 33 = some (.getfield 55, 3) ∧ mc_cd 11 36 = some (.invokevirtual 74, 3) ∧ mc_cd 11 39 = some (.istore_n 2, 1) ∧ mc_cd 11 40 = some (.aload_n 0, 1) ∧ mc_cd 11 41 = some (.aload_n 0, 1) := by decide +kernel
theorem c11_28 : mc_cd 11 28 = some (.getfield 9, 3) := cg11_28.1
theorem c11_31 : mc_cd 11 31 = some (.iload_n 1, 1) := cg11_28.2.1
theorem c11_32 : mc_cd 11 32 = some (.aload_n 0, 1) := cg11_28.2.2.1
theorem c11_33 : mc_cd 11 33 = some (.getfield 55, 3) := cg11_28.2.2.2.1
theorem c11_36 : mc_cd 11 36 = some (.invokevirtual 74, 3) := cg11_28.2.2.2.2.1
theorem c11_39 : mc_cd 11 39 = some (.istore_n 2, 1) := cg11_28.2.2.2.2.2.1
theorem c11_40 : mc_cd 11 40 = some (.aload_n 0, 1) := cg11_28.2.2.2.2.2.2.1
theorem c11_41 : mc_cd 11 41 = some (.aload_n 0, 1) := cg11_28.2.2.2.2.2.2.2
theorem cg11_42 : mc_cd 11 42 = some (.getfield 16, 3) ∧ mc_cd 11 45 = some (.getfield 78, 3) ∧ mc_cd 11 48 = some (.putfield 81, 3) ∧ mc_cd 11 51 = some (.aload_n 0, 1) ∧ mc_cd 11 52 = some (.aload_n 0, 1) ∧ mc_cd 11 53 = some (.getfield 16, 3) ∧ mc_cd 11 56 = some (.getfield 84, 3) ∧ mc_cd 11 59 = some (.putfield 87, 3) := by decide +kernel
theorem c11_42 : mc_cd 11 42 = some (.getfield 16, 3) := cg11_42.1
theorem c11_45 : mc_cd 11 45 = some (.getfield 78, 3) := cg11_42.2.1
theorem c11_48 : mc_cd 11 48 = some (.putfield 81, 3) := cg11_42.2.2.1
theorem c11_51 : mc_cd 11 51 = some (.aload_n 0, 1) := cg11_42.2.2.2.1
theorem c11_52 : mc_cd 11 52 = some (.aload_n 0, 1) := cg11_42.2.2.2.2.1
theorem c11_53 : mc_cd 11 53 = some (.getfield 16, 3) := cg11_42.2.2.2.2.2.1
theorem c11_56 : mc_cd 11 56 = some (.getfield 84, 3) := cg11_42.2.2.2.2.2.2.1
theorem c11_59 : mc_cd 11 59 = some (.putfield 87, 3) := cg11_42.2.2.2.2.2.2.2
theorem cg11_62 : mc_cd 11 62 = some (.iload_n 2, 1) ∧ mc_cd 11 63 = some (.ifCond .ne 9, 3) ∧ mc_cd 11 66 = some (.aload_n 0, 1) ∧ mc_cd 11 67 = some (.iconst 4, 1) ∧ mc_cd 11 68 = some (.invokevirtual 70, 3) ∧ mc_cd 11 71 = some (.ireturn, 1) ∧ mc_cd 11 72 = some (.aload_n 0, 1) ∧ mc_cd 11 73 = some (.getfield 55, 3) := by decide +kernel
theorem c11_62 : mc_cd 11 62 = some (.iload_n 2, 1) := cg11_62.1
theorem c11_63 : mc_cd 11 63 = some (.ifCond .ne 9, 3) := cg11_62.2.1
theorem c11_66 : mc_cd 11 66 = some (.aload_n 0, 1) := cg11_62.2.2.1
theorem c11_67 : mc_cd 11 67 = some (.iconst 4, 1) := cg11_62.2.2.2.1
theorem c11_68 : mc_cd 11 68 = some (.invokevirtual 70, 3) := cg11_62.2.2.2.2.1
theorem c11_71 : mc_cd 11 71 = some (.ireturn, 1) := cg11_62.2.2.2.2.2.1
theorem c11_72 : mc_cd 11 72 = some (.aload_n 0, 1) := cg11_62.2.2.2.2.2.2.1
theorem c11_73 : mc_cd 11 73 = some (.getfield 55, 3) := cg11_62.2.2.2.2.2.2.2
theorem cg11_76 : mc_cd 11 76 = some (.invokevirtual 90, 3) ∧ mc_cd 11 79 = some (.aload_n 0, 1) ∧ mc_cd 11 80 = some (.getfield 51, 3) ∧ mc_cd 11 83 = some (.astore_n 3, 1) ∧ mc_cd 11 84 = some (.aload_n 0, 1) ∧ mc_cd 11 85 = some (.aload_n 0, 1) ∧ mc_cd 11 86 = some (.getfield 55, 3) ∧ mc_cd 11 89 = some (.putfield 51, 3) := by decide +kernel
theorem c11_76 : mc_cd 11 76 = some (.invokevirtual 90, 3) := cg11_76.1
theorem c11_79 : mc_cd 11 79 = some (.aload_n 0, 1) := cg11_76.2.1
theorem c11_80 : mc_cd 11 80 = some (.getfield 51, 3) := cg11_76.2.2.1
theorem c11_83 : mc_cd 11 83 = some (.astore_n 3, 1) := cg11_76.2.2.2.1
theorem c11_84 : mc_cd 11 84 = some (.aload_n 0, 1) := cg11_76.2.2.2.2.1
theorem c11_85 : mc_cd 11 85 = some (.aload_n 0, 1) := cg11_76.2.2.2.2.2.1
theorem c11_86 : mc_cd 11 86 = some (.getfield 55, 3) := cg11_76.2.2.2.2.2.2.1
theorem c11_89 : mc_cd 11 89 = some (.putfield 51, 3) := cg11_76.2.2.2.2.2.2.2
theorem cg11_92 : mc_cd 11 92 = some (.aload_n 0, 1) ∧ mc_cd 11 93 = some (.aload_n 3, 1) ∧ mc_cd 11 94 = some (.putfield 55, 3) ∧ mc_cd 11 97 = some (.aload_n 0, 1) ∧ mc_cd 11 98 = some (.iconst 1, 1) ∧ mc_cd 11 99 = some (.putfield 58, 3) ∧ mc_cd 11 102 = some (.aload_n 0, 1) ∧ mc_cd 11 103 = some (.getfield 30, 3) := by decide +kernel
theorem c11_92 : mc_cd 11 92 = some (.aload_n 0, 1) := cg11_92.1
theorem c11_93 : mc_cd 11 93 = some (.aload_n 3, 1) := cg11_92.2.1
theorem c11_94 : mc_cd 11 94 = some (.putfield 55, 3) := cg11_92.2.2.1
theorem c11_97 : mc_cd 11 97 = some (.aload_n 0, 1) := cg11_92.2.2.2.1
theorem c11_98 : mc_cd 11 98 = some (.iconst 1, 1) := cg11_92.2.2.2.2.1
theorem c11_99 : mc_cd 11 99 = some (.putfield 58, 3) := cg11_92.2.2.2.2.2.1
theorem c11_102 : mc_cd 11 102 = some (.aload_n 0, 1) := cg11_92.2.2.2.2.2.2.1
theorem c11_103 : mc_cd 11 103 = some (.getfield 30, 3) := cg11_92.2.2.2.2.2.2.2
theorem cg11_106 : mc_cd 11 106 = some (.invokevirtual 93, 3) ∧ mc_cd 11 109 = some (.aload_n 0, 1) ∧ mc_cd 11 110 = some (.aload_n 0, 1) ∧ mc_cd 11 111 = some (.getfield 51, 3) ∧ mc_cd 11 114 = some (.getfield 96, 3) ∧ mc_cd 11 117 = some (.invokevirtual 99, 3) ∧ mc_cd 11 120 = some (.ireturn, 1) := by decide +kernel
theorem c11_106 : mc_cd 11 106 = some (.invokevirtual 93, 3) := cg11_106.1
theorem c11_109 : mc_cd 11 109 = some (.aload_n 0, 1) := cg11_106.2.1
theorem c11_110 : mc_cd 11 110 = some (.aload_n 0, 1) := cg11_106.2.2.1
theorem c11_111 : mc_cd 11 111 = some (.getfield 51, 3) := cg11_106.2.2.2.1
theorem c11_114 : mc_cd 11 114 = some (.getfield 96, 3) := cg11_106.2.2.2.2.1
theorem c11_117 : mc_cd 11 117 = some (.invokevirtual 99, 3) := cg11_106.2.2.2.2.2.1
theorem c11_120 : mc_cd 11 120 = some (.ireturn, 1) := cg11_106.2.2.2.2.2.2
/-! StrikeAwake.fault()I -/
theorem e52 : wq_en 52 = some (0, 1, false, some FieldType.int) := rfl
theorem cg52_0 : mc_cd 52 0 = some (.aload_n 0, 1) ∧ mc_cd 52 1 = some (.getfield 81, 3) ∧ mc_cd 52 4 = some (.ireturn, 1) := by decide +kernel
theorem c52_0 : mc_cd 52 0 = some (.aload_n 0, 1) := cg52_0.1
theorem c52_1 : mc_cd 52 1 = some (.getfield 81, 3) := cg52_0.2.1
theorem c52_4 : mc_cd 52 4 = some (.ireturn, 1) := cg52_0.2.2
abbrev q_52 (r0 : Nat) (T : wq_T) (H : wq_H) : Option Value → wq_T → wq_H → Prop := fun r T' H' => T = T' ∧ H = H' ∧ ∃ z : Int, some (vI z) = r ∧ ((-2147483648) ≤ z ∧ z ≤ 2147483647)
set_option maxHeartbeats 4000000 in
theorem s_52 {kt : Nat → Option mc_E} {T : wq_T} {H : wq_H} {r0 : Nat} (hW : WT T H) (g0 : T.2.2.2 r0 = some 1) : wpc kt 1 52 [.ref r0] T H (q_52 r0 T H) := by
  refine wp_enter e52 (Nat.le_of_ble_eq_true rfl) rfl ?_
  show wp _ _ 52 0 [(0, .ref r0)] [] _ H _
  refine wp_of e52 c52_0 (rw_aload_n (pc' := 1) (v := .ref r0) rfl rfl rfl ?_)
  refine wp_of e52 c52_1 (xg_I (pc' := 4) lf_0_81 hW g0 sh_1 (by decide) (by decide) ty_1_11 rfl rfl (fun b16214 b16215 => ?_))
  exact wp_ireturn e52 c52_4 rfl ⟨rfl, rfl, H r0 11, rfl, ⟨by omega, by omega⟩⟩
/-! StrikeAwake.where()I -/
theorem e53 : wq_en 53 = some (0, 1, false, some FieldType.int) := rfl
theorem cg53_0 : mc_cd 53 0 = some (.aload_n 0, 1) ∧ mc_cd 53 1 = some (.getfield 102, 3) ∧ mc_cd 53 4 = some (.iconst 4, 1) ∧ mc_cd 53 5 = some (.if_icmp .ne 10, 3) ∧ mc_cd 53 8 = some (.aload_n 0, 1) ∧ mc_cd 53 9 = some (.getfield 87, 3) ∧ mc_cd 53 12 = some (.goto 4, 3) ∧ mc_cd 53 15 = some (.iconst (-1), 1) := by decide +kernel
theorem c53_0 : mc_cd 53 0 = some (.aload_n 0, 1) := cg53_0.1
theorem c53_1 : mc_cd 53 1 = some (.getfield 102, 3) := cg53_0.2.1
theorem c53_4 : mc_cd 53 4 = some (.iconst 4, 1) := cg53_0.2.2.1
theorem c53_5 : mc_cd 53 5 = some (.if_icmp .ne 10, 3) := cg53_0.2.2.2.1
theorem c53_8 : mc_cd 53 8 = some (.aload_n 0, 1) := cg53_0.2.2.2.2.1
theorem c53_9 : mc_cd 53 9 = some (.getfield 87, 3) := cg53_0.2.2.2.2.2.1
theorem c53_12 : mc_cd 53 12 = some (.goto 4, 3) := cg53_0.2.2.2.2.2.2.1
theorem c53_15 : mc_cd 53 15 = some (.iconst (-1), 1) := cg53_0.2.2.2.2.2.2.2
theorem c53_16 : mc_cd 53 16 = some (.ireturn, 1) := by decide +kernel
abbrev q_53 (r0 : Nat) (T : wq_T) (H : wq_H) : Option Value → wq_T → wq_H → Prop := fun r T' H' => T = T' ∧ H = H' ∧ ∃ z : Int, some (vI z) = r ∧ ((-2147483648) ≤ z ∧ z ≤ 2147483647)
set_option maxHeartbeats 4000000 in
theorem s_53 {kt : Nat → Option mc_E} {T : wq_T} {H : wq_H} {r0 : Nat} (hW : WT T H) (g0 : T.2.2.2 r0 = some 1) : wpc kt 1 53 [.ref r0] T H (q_53 r0 T H) := by
  refine wp_enter e53 (Nat.le_of_ble_eq_true rfl) rfl ?_
  show wp _ _ 53 0 [(0, .ref r0)] [] _ H _
  refine wp_of e53 c53_0 (rw_aload_n (pc' := 1) (v := .ref r0) rfl rfl rfl ?_)
  refine wp_of e53 c53_1 (xg_I (pc' := 4) lf_0_102 hW g0 sh_1 (by decide) (by decide) ty_1_10 rfl rfl (fun b16221 b16222 => ?_))
  refine wp_of e53 c53_4 (rw_iconst (pc' := 5) rfl ?_)
  refine wp_of e53 c53_5 (rw_icmp_ne (p1 := 15) (p2 := 8) (by decide) rfl ⟨by omega, by omega⟩ ⟨by omega, by omega⟩ (fun c16223 => ?_) (fun c16223 => ?_))
  · refine wp_of e53 c53_15 (rw_iconst (pc' := 16) rfl ?_)
    exact wp_ireturn e53 c53_16 rfl ⟨rfl, rfl, -1, rfl, ⟨by omega, by omega⟩⟩
  · refine wp_of e53 c53_8 (rw_aload_n (pc' := 9) (v := .ref r0) rfl rfl rfl ?_)
    refine wp_of e53 c53_9 (xg_I (pc' := 12) lf_0_87 hW g0 sh_1 (by decide) (by decide) ty_1_12 rfl rfl (fun b16224 b16225 => ?_))
    refine wp_of e53 c53_12 (rw_goto (p1 := 16) (by decide) ?_)
    exact wp_ireturn e53 c53_16 rfl ⟨rfl, rfl, H r0 12, rfl, ⟨by omega, by omega⟩⟩
/-! StrikeAwake.isPerson(I)Z -/
theorem e55 : wq_en 55 = some (0, 2, false, some FieldType.boolean) := rfl
theorem cg55_0 : mc_cd 55 0 = some (.iload_n 1, 1) ∧ mc_cd 55 1 = some (.ifCond .lt 18, 3) ∧ mc_cd 55 4 = some (.iload_n 1, 1) ∧ mc_cd 55 5 = some (.aload_n 0, 1) ∧ mc_cd 55 6 = some (.getfield 51, 3) ∧ mc_cd 55 9 = some (.getfield 96, 3) ∧ mc_cd 55 12 = some (.if_icmp .ge 7, 3) ∧ mc_cd 55 15 = some (.iconst 1, 1) := by decide +kernel
theorem c55_0 : mc_cd 55 0 = some (.iload_n 1, 1) := cg55_0.1
theorem c55_1 : mc_cd 55 1 = some (.ifCond .lt 18, 3) := cg55_0.2.1
theorem c55_4 : mc_cd 55 4 = some (.iload_n 1, 1) := cg55_0.2.2.1
theorem c55_5 : mc_cd 55 5 = some (.aload_n 0, 1) := cg55_0.2.2.2.1
theorem c55_6 : mc_cd 55 6 = some (.getfield 51, 3) := cg55_0.2.2.2.2.1
theorem c55_9 : mc_cd 55 9 = some (.getfield 96, 3) := cg55_0.2.2.2.2.2.1
theorem c55_12 : mc_cd 55 12 = some (.if_icmp .ge 7, 3) := cg55_0.2.2.2.2.2.2.1
theorem c55_15 : mc_cd 55 15 = some (.iconst 1, 1) := cg55_0.2.2.2.2.2.2.2
theorem cg55_16 : mc_cd 55 16 = some (.goto 4, 3) ∧ mc_cd 55 19 = some (.iconst 0, 1) ∧ mc_cd 55 20 = some (.ireturn, 1) := by decide +kernel
theorem c55_16 : mc_cd 55 16 = some (.goto 4, 3) := cg55_16.1
theorem c55_19 : mc_cd 55 19 = some (.iconst 0, 1) := cg55_16.2.1
theorem c55_20 : mc_cd 55 20 = some (.ireturn, 1) := cg55_16.2.2
abbrev q_55 (r0 : Nat) (a1 : Int) (T : wq_T) (H : wq_H) : Option Value → wq_T → wq_H → Prop := fun r T' H' => T = T' ∧ H = H' ∧ ∃ z : Int, some (vI z) = r ∧ (0 ≤ z ∧ z ≤ 1) ∧ (z = 0 ∨ (0 ≤ a1 ∧ a1 ≤ 5))
set_option maxHeartbeats 4000000 in
theorem s_55 {kt : Nat → Option mc_E} {T : wq_T} {H : wq_H} {r0 : Nat} {a1 : Int} (hW : WT T H) (g0 : T.2.2.2 r0 = some 1) (i1 : (-2147483648) ≤ a1 ∧ a1 ≤ 2147483647) : wpc kt 1 55 [.ref r0, vI a1] T H (q_55 r0 a1 T H) := by
  refine wp_enter e55 (Nat.le_of_ble_eq_true rfl) rfl ?_
  show wp _ _ 55 0 [(0, .ref r0), (1, vI a1)] [] _ H _
  refine wp_of e55 c55_0 (rw_iload_n (pc' := 1) (z := a1) rfl rfl ?_)
  refine wp_of e55 c55_1 (rw_if_lt (p1 := 19) (p2 := 4) (by decide) rfl ⟨by omega, by omega⟩ (fun c16233 => ?_) (fun c16233 => ?_))
  · refine wp_of e55 c55_19 (rw_iconst (pc' := 20) rfl ?_)
    exact wp_zreturn e55 c55_20 rfl (by omega) ⟨rfl, rfl, 0, rfl, ⟨by omega, by omega⟩, by omega⟩
  · refine wp_of e55 c55_4 (rw_iload_n (pc' := 5) (z := a1) rfl rfl ?_)
    refine wp_of e55 c55_5 (rw_aload_n (pc' := 6) (v := .ref r0) rfl rfl rfl ?_)
    refine wp_of e55 c55_6 (xg_R (pc' := 9) lf_0_51 hW g0 sh_1 (by decide) (by decide) ty_1_6 rfl rfl (fun r16234 q16235 g16236 => ?_))
    refine wp_of e55 c55_9 (xg_I (pc' := 12) lf_0_96 hW g16236 sh_27 (by decide) (by decide) ty_27_10 rfl rfl (fun b16237 b16238 => ?_))
    refine wp_of e55 c55_12 (rw_icmp_ge (p1 := 19) (p2 := 15) (by decide) rfl ⟨by omega, by omega⟩ ⟨by omega, by omega⟩ (fun c16239 => ?_) (fun c16239 => ?_))
    · refine wp_of e55 c55_19 (rw_iconst (pc' := 20) rfl ?_)
      exact wp_zreturn e55 c55_20 rfl (by omega) ⟨rfl, rfl, 0, rfl, ⟨by omega, by omega⟩, by omega⟩
    · refine wp_of e55 c55_15 (rw_iconst (pc' := 16) rfl ?_)
      refine wp_of e55 c55_16 (rw_goto (p1 := 20) (by decide) ?_)
      exact wp_zreturn e55 c55_20 rfl (by omega) ⟨rfl, rfl, 1, rfl, ⟨by omega, by omega⟩, by omega⟩
/-! StrikeAwake.spans(I)I -/
theorem e54 : wq_en 54 = some (0, 2, false, some FieldType.int) := rfl
theorem cg54_0 : mc_cd 54 0 = some (.aload_n 0, 1) ∧ mc_cd 54 1 = some (.iload_n 1, 1) ∧ mc_cd 54 2 = some (.invokevirtual 105, 3) ∧ mc_cd 54 5 = some (.ifCond .ne 9, 3) ∧ mc_cd 54 8 = some (.aload_n 0, 1) ∧ mc_cd 54 9 = some (.iconst 1, 1) ∧ mc_cd 54 10 = some (.invokevirtual 70, 3) ∧ mc_cd 54 13 = some (.ireturn, 1) := by decide +kernel
theorem c54_0 : mc_cd 54 0 = some (.aload_n 0, 1) := cg54_0.1
theorem c54_1 : mc_cd 54 1 = some (.iload_n 1, 1) := cg54_0.2.1
theorem c54_2 : mc_cd 54 2 = some (.invokevirtual 105, 3) := cg54_0.2.2.1
theorem c54_5 : mc_cd 54 5 = some (.ifCond .ne 9, 3) := cg54_0.2.2.2.1
theorem c54_8 : mc_cd 54 8 = some (.aload_n 0, 1) := cg54_0.2.2.2.2.1
theorem c54_9 : mc_cd 54 9 = some (.iconst 1, 1) := cg54_0.2.2.2.2.2.1
theorem c54_10 : mc_cd 54 10 = some (.invokevirtual 70, 3) := cg54_0.2.2.2.2.2.2.1
theorem c54_13 : mc_cd 54 13 = some (.ireturn, 1) := cg54_0.2.2.2.2.2.2.2
theorem cg54_14 : mc_cd 54 14 = some (.aload_n 0, 1) ∧ mc_cd 54 15 = some (.aload_n 0, 1) ∧ mc_cd 54 16 = some (.getfield 51, 3) ∧ mc_cd 54 19 = some (.getfield 109, 3) ∧ mc_cd 54 22 = some (.iload_n 1, 1) ∧ mc_cd 54 23 = some (.aaload, 1) ∧ mc_cd 54 24 = some (.getfield 113, 3) ∧ mc_cd 54 27 = some (.invokevirtual 99, 3) := by decide +kernel
theorem c54_14 : mc_cd 54 14 = some (.aload_n 0, 1) := cg54_14.1
theorem c54_15 : mc_cd 54 15 = some (.aload_n 0, 1) := cg54_14.2.1
theorem c54_16 : mc_cd 54 16 = some (.getfield 51, 3) := cg54_14.2.2.1
theorem c54_19 : mc_cd 54 19 = some (.getfield 109, 3) := cg54_14.2.2.2.1
theorem c54_22 : mc_cd 54 22 = some (.iload_n 1, 1) := cg54_14.2.2.2.2.1
theorem c54_23 : mc_cd 54 23 = some (.aaload, 1) := cg54_14.2.2.2.2.2.1
theorem c54_24 : mc_cd 54 24 = some (.getfield 113, 3) := cg54_14.2.2.2.2.2.2.1
theorem c54_27 : mc_cd 54 27 = some (.invokevirtual 99, 3) := cg54_14.2.2.2.2.2.2.2
theorem c54_30 : mc_cd 54 30 = some (.ireturn, 1) := by decide +kernel
abbrev q_54 (r0 : Nat) (a1 : Int) (T : wq_T) (H : wq_H) : Option Value → wq_T → wq_H → Prop := fun r T' H' => T = T' ∧ WT T H' ∧ wfr [(1, 10)] T H H' ∧ ∃ z : Int, some (vI z) = r ∧ ((-2147483648) ≤ z ∧ z ≤ 2147483647)
set_option maxHeartbeats 4000000 in
theorem s_54 {kt : Nat → Option mc_E} {T : wq_T} {H : wq_H} {r0 : Nat} {a1 : Int} (hW : WT T H) (g0 : T.2.2.2 r0 = some 1) (i1 : (-2147483648) ≤ a1 ∧ a1 ≤ 2147483647) : wpc kt 2 54 [.ref r0, vI a1] T H (q_54 r0 a1 T H) := by
  refine wp_enter e54 (Nat.le_of_ble_eq_true rfl) rfl ?_
  have f0 : wfr [(1, 10)] T H H := wfr.rf
  show wp _ _ 54 0 [(0, .ref r0), (1, vI a1)] [] _ H _
  refine wp_of e54 c54_0 (rw_aload_n (pc' := 1) (v := .ref r0) rfl rfl rfl ?_)
  refine wp_of e54 c54_1 (rw_iload_n (pc' := 2) (z := a1) rfl rfl ?_)
  refine wp_of e54 c54_2 (xc_V (pc' := 5) (r := r0) (as := [vI a1]) (st := []) (lm_0_105) rfl rfl (Nat.le_of_ble_eq_true rfl) hW g0 sh_1 (by decide) rfl (by decide) (s_55 hW g0 ⟨by omega, by omega⟩) (fun R16284 T16285 H16286 p16287 => ?_))
  obtain ⟨e16288, e16290, z16292, e16289, b16293, p16291⟩ := p16287
  subst e16288
  subst e16289
  subst e16290
  show wp _ _ 54 5 [(0, .ref r0), (1, vI a1)] [vI z16292] _ H _
  refine wp_of e54 c54_5 (rw_if_ne (p1 := 14) (p2 := 8) (by decide) rfl ⟨by omega, by omega⟩ (fun c16294 => ?_) (fun c16294 => ?_))
  · refine wp_of e54 c54_14 (rw_aload_n (pc' := 15) (v := .ref r0) rfl rfl rfl ?_)
    refine wp_of e54 c54_15 (rw_aload_n (pc' := 16) (v := .ref r0) rfl rfl rfl ?_)
    refine wp_of e54 c54_16 (xg_R (pc' := 19) lf_0_51 hW g0 sh_1 (by decide) (by decide) ty_1_6 rfl rfl (fun r16295 q16296 g16297 => ?_))
    refine wp_of e54 c54_19 (xg_R (pc' := 22) lf_0_109 hW g16297 sh_27 (by decide) (by decide) ty_27_0 rfl rfl (fun r16298 q16299 g16300 => ?_))
    refine wp_of e54 c54_22 (rw_iload_n (pc' := 23) (z := a1) rfl rfl ?_)
    refine wp_of e54 c54_23 (xa_R (pc' := 24) (by decide) hW g16300 sh_28 (by decide) (ty_28 _) (by omega) (by omega) rfl (fun r16301 q16302 g16303 => ?_))
    refine wp_of e54 c54_24 (xg_I (pc' := 27) lf_0_113 hW g16303 sh_35 (by decide) (by decide) ty_35_15 rfl rfl (fun b16304 b16305 => ?_))
    refine wp_of e54 c54_27 (xc_V (pc' := 30) (r := r0) (as := [vI (H r16301 15)]) (st := []) (lm_0_99) rfl rfl (Nat.le_of_ble_eq_true rfl) hW g0 sh_1 (by decide) rfl (by decide) (s_51 hW g0 ⟨by omega, by omega⟩) (fun R16306 T16307 H16308 p16309 => ?_))
    obtain ⟨e16310, w16312, f16313, z16314, e16311, b16315⟩ := p16309
    subst e16310
    subst e16311
    have f16316 := f0.tr f16313 rfl
    show wp _ _ 54 30 [(0, .ref r0), (1, vI a1)] [vI z16314] _ H16308 _
    exact wp_ireturn e54 c54_30 rfl ⟨rfl, w16312, f16316, z16314, rfl, ⟨by omega, by omega⟩⟩
  · refine wp_of e54 c54_8 (rw_aload_n (pc' := 9) (v := .ref r0) rfl rfl rfl ?_)
    refine wp_of e54 c54_9 (rw_iconst (pc' := 10) rfl ?_)
    refine wp_of e54 c54_10 (xc_V (pc' := 13) (r := r0) (as := [vI 1]) (st := []) (lm_0_70) rfl rfl (Nat.le_of_ble_eq_true rfl) hW g0 sh_1 (by decide) rfl (by decide) (s_12 hW g0 ⟨by omega, by omega⟩) (fun R16317 T16318 H16319 p16320 => ?_))
    obtain ⟨e16321, w16323, f16324, z16325, e16322, b16326⟩ := p16320
    subst e16321
    subst e16322
    have f16327 := f0.tr f16324 rfl
    show wp _ _ 54 13 [(0, .ref r0), (1, vI a1)] [vI z16325] _ H16319 _
    exact wp_ireturn e54 c54_13 rfl ⟨rfl, w16323, f16327, z16325, rfl, ⟨by omega, by omega⟩⟩
/-! StrikeAwake.isSpan(II)Z -/
theorem e57 : wq_en 57 = some (0, 3, false, some FieldType.boolean) := rfl
theorem cg57_0 : mc_cd 57 0 = some (.aload_n 0, 1) ∧ mc_cd 57 1 = some (.iload_n 1, 1) ∧ mc_cd 57 2 = some (.invokevirtual 105, 3) ∧ mc_cd 57 5 = some (.ifCond .eq 27, 3) ∧ mc_cd 57 8 = some (.iload_n 2, 1) ∧ mc_cd 57 9 = some (.ifCond .lt 23, 3) ∧ mc_cd 57 12 = some (.iload_n 2, 1) ∧ mc_cd 57 13 = some (.aload_n 0, 1) := by decide +kernel
theorem c57_0 : mc_cd 57 0 = some (.aload_n 0, 1) := cg57_0.1
theorem c57_1 : mc_cd 57 1 = some (.iload_n 1, 1) := cg57_0.2.1
theorem c57_2 : mc_cd 57 2 = some (.invokevirtual 105, 3) := cg57_0.2.2.1
theorem c57_5 : mc_cd 57 5 = some (.ifCond .eq 27, 3) := cg57_0.2.2.2.1
theorem c57_8 : mc_cd 57 8 = some (.iload_n 2, 1) := cg57_0.2.2.2.2.1
theorem c57_9 : mc_cd 57 9 = some (.ifCond .lt 23, 3) := cg57_0.2.2.2.2.2.1
theorem c57_12 : mc_cd 57 12 = some (.iload_n 2, 1) := cg57_0.2.2.2.2.2.2.1
theorem c57_13 : mc_cd 57 13 = some (.aload_n 0, 1) := cg57_0.2.2.2.2.2.2.2
theorem cg57_14 : mc_cd 57 14 = some (.getfield 51, 3) ∧ mc_cd 57 17 = some (.getfield 109, 3) ∧ mc_cd 57 20 = some (.iload_n 1, 1) ∧ mc_cd 57 21 = some (.aaload, 1) ∧ mc_cd 57 22 = some (.getfield 113, 3) ∧ mc_cd 57 25 = some (.if_icmp .ge 7, 3) ∧ mc_cd 57 28 = some (.iconst 1, 1) ∧ mc_cd 57 29 = some (.goto 4, 3) := by decide +kernel
theorem c57_14 : mc_cd 57 14 = some (.getfield 51, 3) := cg57_14.1
theorem c57_17 : mc_cd 57 17 = some (.getfield 109, 3) := cg57_14.2.1
theorem c57_20 : mc_cd 57 20 = some (.iload_n 1, 1) := cg57_14.2.2.1
theorem c57_21 : mc_cd 57 21 = some (.aaload, 1) := cg57_14.2.2.2.1
theorem c57_22 : mc_cd 57 22 = some (.getfield 113, 3) := cg57_14.2.2.2.2.1
theorem c57_25 : mc_cd 57 25 = some (.if_icmp .ge 7, 3) := cg57_14.2.2.2.2.2.1
theorem c57_28 : mc_cd 57 28 = some (.iconst 1, 1) := cg57_14.2.2.2.2.2.2.1
theorem c57_29 : mc_cd 57 29 = some (.goto 4, 3) := cg57_14.2.2.2.2.2.2.2
theorem cg57_32 : mc_cd 57 32 = some (.iconst 0, 1) ∧ mc_cd 57 33 = some (.ireturn, 1) := by decide +kernel
theorem c57_32 : mc_cd 57 32 = some (.iconst 0, 1) := cg57_32.1
theorem c57_33 : mc_cd 57 33 = some (.ireturn, 1) := cg57_32.2
abbrev q_57 (r0 : Nat) (a1 : Int) (a2 : Int) (T : wq_T) (H : wq_H) : Option Value → wq_T → wq_H → Prop := fun r T' H' => T = T' ∧ H = H' ∧ ∃ z : Int, some (vI z) = r ∧ (0 ≤ z ∧ z ≤ 1) ∧ (z = 0 ∨ (0 ≤ a1 ∧ a1 ≤ 5 ∧ 0 ≤ a2 ∧ a2 ≤ 39))
set_option maxHeartbeats 4000000 in
theorem s_57 {kt : Nat → Option mc_E} {T : wq_T} {H : wq_H} {r0 : Nat} {a1 : Int} {a2 : Int} (hW : WT T H) (g0 : T.2.2.2 r0 = some 1) (i1 : (-2147483648) ≤ a1 ∧ a1 ≤ 2147483647) (i2 : (-2147483648) ≤ a2 ∧ a2 ≤ 2147483647) : wpc kt 2 57 [.ref r0, vI a1, vI a2] T H (q_57 r0 a1 a2 T H) := by
  refine wp_enter e57 (Nat.le_of_ble_eq_true rfl) rfl ?_
  show wp _ _ 57 0 [(0, .ref r0), (1, vI a1), (2, vI a2)] [] _ H _
  refine wp_of e57 c57_0 (rw_aload_n (pc' := 1) (v := .ref r0) rfl rfl rfl ?_)
  refine wp_of e57 c57_1 (rw_iload_n (pc' := 2) (z := a1) rfl rfl ?_)
  refine wp_of e57 c57_2 (xc_V (pc' := 5) (r := r0) (as := [vI a1]) (st := []) (lm_0_105) rfl rfl (Nat.le_of_ble_eq_true rfl) hW g0 sh_1 (by decide) rfl (by decide) (s_55 hW g0 ⟨by omega, by omega⟩) (fun R16352 T16353 H16354 p16355 => ?_))
  obtain ⟨e16356, e16358, z16360, e16357, b16361, p16359⟩ := p16355
  subst e16356
  subst e16357
  subst e16358
  show wp _ _ 57 5 [(0, .ref r0), (1, vI a1), (2, vI a2)] [vI z16360] _ H _
  refine wp_of e57 c57_5 (rw_if_eq (p1 := 32) (p2 := 8) (by decide) rfl ⟨by omega, by omega⟩ (fun c16362 => ?_) (fun c16362 => ?_))
  · refine wp_of e57 c57_32 (rw_iconst (pc' := 33) rfl ?_)
    exact wp_zreturn e57 c57_33 rfl (by omega) ⟨rfl, rfl, 0, rfl, ⟨by omega, by omega⟩, by omega⟩
  · refine wp_of e57 c57_8 (rw_iload_n (pc' := 9) (z := a2) rfl rfl ?_)
    refine wp_of e57 c57_9 (rw_if_lt (p1 := 32) (p2 := 12) (by decide) rfl ⟨by omega, by omega⟩ (fun c16363 => ?_) (fun c16363 => ?_))
    · refine wp_of e57 c57_32 (rw_iconst (pc' := 33) rfl ?_)
      exact wp_zreturn e57 c57_33 rfl (by omega) ⟨rfl, rfl, 0, rfl, ⟨by omega, by omega⟩, by omega⟩
    · refine wp_of e57 c57_12 (rw_iload_n (pc' := 13) (z := a2) rfl rfl ?_)
      refine wp_of e57 c57_13 (rw_aload_n (pc' := 14) (v := .ref r0) rfl rfl rfl ?_)
      refine wp_of e57 c57_14 (xg_R (pc' := 17) lf_0_51 hW g0 sh_1 (by decide) (by decide) ty_1_6 rfl rfl (fun r16364 q16365 g16366 => ?_))
      refine wp_of e57 c57_17 (xg_R (pc' := 20) lf_0_109 hW g16366 sh_27 (by decide) (by decide) ty_27_0 rfl rfl (fun r16367 q16368 g16369 => ?_))
      refine wp_of e57 c57_20 (rw_iload_n (pc' := 21) (z := a1) rfl rfl ?_)
      refine wp_of e57 c57_21 (xa_R (pc' := 22) (by decide) hW g16369 sh_28 (by decide) (ty_28 _) (by omega) (by omega) rfl (fun r16370 q16371 g16372 => ?_))
      refine wp_of e57 c57_22 (xg_I (pc' := 25) lf_0_113 hW g16372 sh_35 (by decide) (by decide) ty_35_15 rfl rfl (fun b16373 b16374 => ?_))
      refine wp_of e57 c57_25 (rw_icmp_ge (p1 := 32) (p2 := 28) (by decide) rfl ⟨by omega, by omega⟩ ⟨by omega, by omega⟩ (fun c16375 => ?_) (fun c16375 => ?_))
      · refine wp_of e57 c57_32 (rw_iconst (pc' := 33) rfl ?_)
        exact wp_zreturn e57 c57_33 rfl (by omega) ⟨rfl, rfl, 0, rfl, ⟨by omega, by omega⟩, by omega⟩
      · refine wp_of e57 c57_28 (rw_iconst (pc' := 29) rfl ?_)
        refine wp_of e57 c57_29 (rw_goto (p1 := 33) (by decide) ?_)
        exact wp_zreturn e57 c57_33 rfl (by omega) ⟨rfl, rfl, 1, rfl, ⟨by omega, by omega⟩, by omega⟩
/-! StrikeAwake$Person.weightOf(I)I -/
theorem e58 : wq_en 58 = some (8, 2, false, some FieldType.int) := rfl
theorem cg58_0 : mc_cd 58 0 = some (.aload_n 0, 1) ∧ mc_cd 58 1 = some (.getfield 35, 3) ∧ mc_cd 58 4 = some (.iconst (-1), 1) ∧ mc_cd 58 5 = some (.if_icmp .ne 5, 3) ∧ mc_cd 58 8 = some (.iconst 1, 1) ∧ mc_cd 58 9 = some (.ireturn, 1) ∧ mc_cd 58 10 = some (.iconst 1, 1) ∧ mc_cd 58 11 = some (.bipush 10, 2) := by decide +kernel
theorem c58_0 : mc_cd 58 0 = some (.aload_n 0, 1) := cg58_0.1
theorem c58_1 : mc_cd 58 1 = some (.getfield 35, 3) := cg58_0.2.1
theorem c58_4 : mc_cd 58 4 = some (.iconst (-1), 1) := cg58_0.2.2.1
theorem c58_5 : mc_cd 58 5 = some (.if_icmp .ne 5, 3) := cg58_0.2.2.2.1
theorem c58_8 : mc_cd 58 8 = some (.iconst 1, 1) := cg58_0.2.2.2.2.1
theorem c58_9 : mc_cd 58 9 = some (.ireturn, 1) := cg58_0.2.2.2.2.2.1
theorem c58_10 : mc_cd 58 10 = some (.iconst 1, 1) := cg58_0.2.2.2.2.2.2.1
theorem c58_11 : mc_cd 58 11 = some (.bipush 10, 2) := cg58_0.2.2.2.2.2.2.2
theorem cg58_13 : mc_cd 58 13 = some (.aload_n 0, 1) ∧ mc_cd 58 14 = some (.getfield 9, 3) ∧ mc_cd 58 17 = some (.iload_n 1, 1) ∧ mc_cd 58 18 = some (.iaload, 1) ∧ mc_cd 58 19 = some (.aload_n 0, 1) ∧ mc_cd 58 20 = some (.getfield 35, 3) ∧ mc_cd 58 23 = some (.isub, 1) ∧ mc_cd 58 24 = some (.invokestatic 84, 3) := by decide +kernel
theorem c58_13 : mc_cd 58 13 = some (.aload_n 0, 1) := cg58_13.1
theorem c58_14 : mc_cd 58 14 = some (.getfield 9, 3) := cg58_13.2.1
theorem c58_17 : mc_cd 58 17 = some (.iload_n 1, 1) := cg58_13.2.2.1
theorem c58_18 : mc_cd 58 18 = some (.iaload, 1) := cg58_13.2.2.2.1
theorem c58_19 : mc_cd 58 19 = some (.aload_n 0, 1) := cg58_13.2.2.2.2.1
theorem c58_20 : mc_cd 58 20 = some (.getfield 35, 3) := cg58_13.2.2.2.2.2.1
theorem c58_23 : mc_cd 58 23 = some (.isub, 1) := cg58_13.2.2.2.2.2.2.1
theorem c58_24 : mc_cd 58 24 = some (.invokestatic 84, 3) := cg58_13.2.2.2.2.2.2.2
theorem cg58_27 : mc_cd 58 27 = some (.isub, 1) ∧ mc_cd 58 28 = some (.invokestatic 90, 3) ∧ mc_cd 58 31 = some (.ireturn, 1) := by decide +kernel
theorem c58_27 : mc_cd 58 27 = some (.isub, 1) := cg58_27.1
theorem c58_28 : mc_cd 58 28 = some (.invokestatic 90, 3) := cg58_27.2.1
theorem c58_31 : mc_cd 58 31 = some (.ireturn, 1) := cg58_27.2.2
abbrev q_58 (r0 : Nat) (a1 : Int) (T : wq_T) (H : wq_H) : Option Value → wq_T → wq_H → Prop := fun r T' H' => T = T' ∧ H = H' ∧ ∃ z : Int, some (vI z) = r ∧ (1 ≤ z ∧ z ≤ 10)
set_option maxHeartbeats 4000000 in
theorem s_58 {kt : Nat → Option mc_E} {T : wq_T} {H : wq_H} {r0 : Nat} {a1 : Int} (hW : WT T H) (g0 : T.2.2.2 r0 = some 35) (i1 : 0 ≤ a1 ∧ a1 ≤ 39) : wpc kt 1 58 [.ref r0, vI a1] T H (q_58 r0 a1 T H) := by
  refine wp_enter e58 (Nat.le_of_ble_eq_true rfl) rfl ?_
  show wp _ _ 58 0 [(0, .ref r0), (1, vI a1)] [] _ H _
  refine wp_of e58 c58_0 (rw_aload_n (pc' := 1) (v := .ref r0) rfl rfl rfl ?_)
  refine wp_of e58 c58_1 (xg_I (pc' := 4) lf_8_35 hW g0 sh_35 (by decide) (by decide) ty_35_11 rfl rfl (fun b16390 b16391 => ?_))
  refine wp_of e58 c58_4 (rw_iconst (pc' := 5) rfl ?_)
  refine wp_of e58 c58_5 (rw_icmp_ne (p1 := 10) (p2 := 8) (by decide) rfl ⟨by omega, by omega⟩ ⟨by omega, by omega⟩ (fun c16392 => ?_) (fun c16392 => ?_))
  · refine wp_of e58 c58_10 (rw_iconst (pc' := 11) rfl ?_)
    refine wp_of e58 c58_11 (rw_bipush (pc' := 13) (z := 10) rfl (by decide) ?_)
    refine wp_of e58 c58_13 (rw_aload_n (pc' := 14) (v := .ref r0) rfl rfl rfl ?_)
    refine wp_of e58 c58_14 (xg_R (pc' := 17) lf_8_9 hW g0 sh_35 (by decide) (by decide) ty_35_0 rfl rfl (fun r16393 q16394 g16395 => ?_))
    refine wp_of e58 c58_17 (rw_iload_n (pc' := 18) (z := a1) rfl rfl ?_)
    refine wp_of e58 c58_18 (xa_I (so := 0) (pc' := 19) hW g16395 sh_36 (by decide) (ty_36 _) (by omega) (by omega) rfl (fun b16396 b16397 => ?_))
    refine wp_of e58 c58_19 (rw_aload_n (pc' := 20) (v := .ref r0) rfl rfl rfl ?_)
    refine wp_of e58 c58_20 (xg_I (pc' := 23) lf_8_35 hW g0 sh_35 (by decide) (by decide) ty_35_11 rfl rfl (fun b16398 b16399 => ?_))
    refine wp_of e58 c58_23 (rw_isub (pc' := 24) rfl ?_)
    refine wp_of e58 c58_24 (rw_abs (pc' := 27) rfl rfl ⟨by omega, by omega⟩ rfl (Nat.le_of_ble_eq_true rfl) rfl ?_)
    obtain ⟨v16400, e16401⟩ : ∃ x : Int, x = if 0 ≤ ((H r16393 (a1.toNat)) - (H r0 11)) then ((H r16393 (a1.toNat)) - (H r0 11)) else 0 - ((H r16393 (a1.toNat)) - (H r0 11)) := ⟨_, rfl⟩
    rw [← e16401]
    have b16402 : (v16400 = ((H r16393 (a1.toNat)) - (H r0 11)) ∨ v16400 = 0 - ((H r16393 (a1.toNat)) - (H r0 11))) ∧ 0 ≤ v16400 := by
      rw [e16401]
      split <;> omega
    refine wp_of e58 c58_27 (rw_isub (pc' := 28) rfl ?_)
    refine wp_of e58 c58_28 (rw_math2 (pc' := 31) (z := max 1 (10 - v16400)) rfl rfl ⟨by omega, by omega⟩ ⟨by omega, by omega⟩ (Or.inr ⟨rfl, rfl⟩) (Nat.le_of_ble_eq_true rfl) rfl ?_)
    obtain ⟨v16403, e16404⟩ : ∃ x : Int, x = max 1 (10 - v16400) := ⟨_, rfl⟩
    rw [← e16404]
    have b16405 : v16403 = 1 ∨ v16403 = (10 - v16400) := by
      rw [e16404]
      omega
    have b16406 : 1 ≤ v16403 ∧ (10 - v16400) ≤ v16403 := by
      rw [e16404]
      omega
    exact wp_ireturn e58 c58_31 rfl ⟨rfl, rfl, v16403, rfl, ⟨by omega, by omega⟩⟩
  · refine wp_of e58 c58_8 (rw_iconst (pc' := 9) rfl ?_)
    exact wp_ireturn e58 c58_9 rfl ⟨rfl, rfl, 1, rfl, ⟨by omega, by omega⟩⟩
/-! StrikeAwake.span(III)I -/
theorem e56 : wq_en 56 = some (0, 5, false, some FieldType.int) := rfl
theorem cg56_0 : mc_cd 56 0 = some (.aload_n 0, 1) ∧ mc_cd 56 1 = some (.iload_n 1, 1) ∧ mc_cd 56 2 = some (.iload_n 2, 1) ∧ mc_cd 56 3 = some (.invokevirtual 118, 3) ∧ mc_cd 56 6 = some (.ifCond .eq 12, 3) ∧ mc_cd 56 9 = some (.iload_n 3, 1) ∧ mc_cd 56 10 = some (.ifCond .lt 8, 3) ∧ mc_cd 56 13 = some (.iload_n 3, 1) := by decide +kernel
theorem c56_0 : mc_cd 56 0 = some (.aload_n 0, 1) := cg56_0.1
theorem c56_1 : mc_cd 56 1 = some (.iload_n 1, 1) := cg56_0.2.1
theorem c56_2 : mc_cd 56 2 = some (.iload_n 2, 1) := cg56_0.2.2.1
theorem c56_3 : mc_cd 56 3 = some (.invokevirtual 118, 3) := cg56_0.2.2.2.1
theorem c56_6 : mc_cd 56 6 = some (.ifCond .eq 12, 3) := cg56_0.2.2.2.2.1
theorem c56_9 : mc_cd 56 9 = some (.iload_n 3, 1) := cg56_0.2.2.2.2.2.1
theorem c56_10 : mc_cd 56 10 = some (.ifCond .lt 8, 3) := cg56_0.2.2.2.2.2.2.1
theorem c56_13 : mc_cd 56 13 = some (.iload_n 3, 1) := cg56_0.2.2.2.2.2.2.2
theorem cg56_14 : mc_cd 56 14 = some (.iconst 2, 1) ∧ mc_cd 56 15 = some (.if_icmp .le 9, 3) ∧ mc_cd 56 18 = some (.aload_n 0, 1) ∧ mc_cd 56 19 = some (.iconst 1, 1) ∧ mc_cd 56 20 = some (.invokevirtual 70, 3) ∧ mc_cd 56 23 = some (.ireturn, 1) ∧ mc_cd 56 24 = some (.aload_n 0, 1) ∧ mc_cd 56 25 = some (.getfield 51, 3) := by decide +kernel
theorem c56_14 : mc_cd 56 14 = some (.iconst 2, 1) := cg56_14.1
theorem c56_15 : mc_cd 56 15 = some (.if_icmp .le 9, 3) := cg56_14.2.1
theorem c56_18 : mc_cd 56 18 = some (.aload_n 0, 1) := cg56_14.2.2.1
theorem c56_19 : mc_cd 56 19 = some (.iconst 1, 1) := cg56_14.2.2.2.1
theorem c56_20 : mc_cd 56 20 = some (.invokevirtual 70, 3) := cg56_14.2.2.2.2.1
theorem c56_23 : mc_cd 56 23 = some (.ireturn, 1) := cg56_14.2.2.2.2.2.1
theorem c56_24 : mc_cd 56 24 = some (.aload_n 0, 1) := cg56_14.2.2.2.2.2.2.1
theorem c56_25 : mc_cd 56 25 = some (.getfield 51, 3) := cg56_14.2.2.2.2.2.2.2
theorem cg56_28 : mc_cd 56 28 = some (.getfield 109, 3) ∧ mc_cd 56 31 = some (.iload_n 1, 1) ∧ mc_cd 56 32 = some (.aaload, 1) ∧ mc_cd 56 33 = some (.astore 4, 2) ∧ mc_cd 56 35 = some (.iload_n 3, 1) ∧ mc_cd 56 36 = some (.iconst 2, 1) ∧ mc_cd 56 37 = some (.if_icmp .ne 14, 3) ∧ mc_cd 56 40 = some (.aload_n 0, 1) := by decide +kernel
theorem c56_28 : mc_cd 56 28 = some (.getfield 109, 3) := cg56_28.1
theorem c56_31 : mc_cd 56 31 = some (.iload_n 1, 1) := cg56_28.2.1
theorem c56_32 : mc_cd 56 32 = some (.aaload, 1) := cg56_28.2.2.1
theorem c56_33 : mc_cd 56 33 = some (.astore 4, 2) := cg56_28.2.2.2.1
theorem c56_35 : mc_cd 56 35 = some (.iload_n 3, 1) := cg56_28.2.2.2.2.1
theorem c56_36 : mc_cd 56 36 = some (.iconst 2, 1) := cg56_28.2.2.2.2.2.1
theorem c56_37 : mc_cd 56 37 = some (.if_icmp .ne 14, 3) := cg56_28.2.2.2.2.2.2.1
theorem c56_40 : mc_cd 56 40 = some (.aload_n 0, 1) := cg56_28.2.2.2.2.2.2.2
theorem cg56_41 : mc_cd 56 41 = some (.aload 4, 2) ∧ mc_cd 56 43 = some (.iload_n 2, 1) ∧ mc_cd 56 44 = some (.invokevirtual 122, 3) ∧ mc_cd 56 47 = some (.invokevirtual 99, 3) ∧ mc_cd 56 50 = some (.ireturn, 1) ∧ mc_cd 56 51 = some (.aload_n 0, 1) ∧ mc_cd 56 52 = some (.iload_n 3, 1) ∧ mc_cd 56 53 = some (.ifCond .ne 13, 3) := by decide +kernel
theorem c56_41 : mc_cd 56 41 = some (.aload 4, 2) := cg56_41.1
theorem c56_43 : mc_cd 56 43 = some (.iload_n 2, 1) := cg56_41.2.1
theorem c56_44 : mc_cd 56 44 = some (.invokevirtual 122, 3) := cg56_41.2.2.1
theorem c56_47 : mc_cd 56 47 = some (.invokevirtual 99, 3) := cg56_41.2.2.2.1
theorem c56_50 : mc_cd 56 50 = some (.ireturn, 1) := cg56_41.2.2.2.2.1
theorem c56_51 : mc_cd 56 51 = some (.aload_n 0, 1) := cg56_41.2.2.2.2.2.1
theorem c56_52 : mc_cd 56 52 = some (.iload_n 3, 1) := cg56_41.2.2.2.2.2.2.1
theorem c56_53 : mc_cd 56 53 = some (.ifCond .ne 13, 3) := cg56_41.2.2.2.2.2.2.2
theorem cg56_56 : mc_cd 56 56 = some (.aload 4, 2) ∧ mc_cd 56 58 = some (.getfield 125, 3) ∧ mc_cd 56 61 = some (.iload_n 2, 1) ∧ mc_cd 56 62 = some (.iaload, 1) ∧ mc_cd 56 63 = some (.goto 10, 3) ∧ mc_cd 56 66 = some (.aload 4, 2) ∧ mc_cd 56 68 = some (.getfield 129, 3) ∧ mc_cd 56 71 = some (.iload_n 2, 1) := by decide +kernel
theorem c56_56 : mc_cd 56 56 = some (.aload 4, 2) := cg56_56.1
theorem c56_58 : mc_cd 56 58 = some (.getfield 125, 3) := cg56_56.2.1
theorem c56_61 : mc_cd 56 61 = some (.iload_n 2, 1) := cg56_56.2.2.1
theorem c56_62 : mc_cd 56 62 = some (.iaload, 1) := cg56_56.2.2.2.1
theorem c56_63 : mc_cd 56 63 = some (.goto 10, 3) := cg56_56.2.2.2.2.1
theorem c56_66 : mc_cd 56 66 = some (.aload 4, 2) := cg56_56.2.2.2.2.2.1
theorem c56_68 : mc_cd 56 68 = some (.getfield 129, 3) := cg56_56.2.2.2.2.2.2.1
theorem c56_71 : mc_cd 56 71 = some (.iload_n 2, 1) := cg56_56.2.2.2.2.2.2.2
theorem cg56_72 : mc_cd 56 72 = some (.iaload, 1) ∧ mc_cd 56 73 = some (.invokevirtual 99, 3) ∧ mc_cd 56 76 = some (.ireturn, 1) := by decide +kernel
theorem c56_72 : mc_cd 56 72 = some (.iaload, 1) := cg56_72.1
theorem c56_73 : mc_cd 56 73 = some (.invokevirtual 99, 3) := cg56_72.2.1
theorem c56_76 : mc_cd 56 76 = some (.ireturn, 1) := cg56_72.2.2
abbrev q_56 (r0 : Nat) (a1 : Int) (a2 : Int) (a3 : Int) (T : wq_T) (H : wq_H) : Option Value → wq_T → wq_H → Prop := fun r T' H' => T = T' ∧ WT T H' ∧ wfr [(1, 10)] T H H' ∧ ∃ z : Int, some (vI z) = r ∧ ((-2147483648) ≤ z ∧ z ≤ 2147483647)
set_option maxHeartbeats 4000000 in
theorem s_56 {kt : Nat → Option mc_E} {T : wq_T} {H : wq_H} {r0 : Nat} {a1 : Int} {a2 : Int} {a3 : Int} (hW : WT T H) (g0 : T.2.2.2 r0 = some 1) (i1 : (-2147483648) ≤ a1 ∧ a1 ≤ 2147483647) (i2 : (-2147483648) ≤ a2 ∧ a2 ≤ 2147483647) (i3 : (-2147483648) ≤ a3 ∧ a3 ≤ 2147483647) : wpc kt 3 56 [.ref r0, vI a1, vI a2, vI a3] T H (q_56 r0 a1 a2 a3 T H) := by
  refine wp_enter e56 (Nat.le_of_ble_eq_true rfl) rfl ?_
  have f0 : wfr [(1, 10)] T H H := wfr.rf
  show wp _ _ 56 0 [(0, .ref r0), (1, vI a1), (2, vI a2), (3, vI a3)] [] _ H _
  refine wp_of e56 c56_0 (rw_aload_n (pc' := 1) (v := .ref r0) rfl rfl rfl ?_)
  refine wp_of e56 c56_1 (rw_iload_n (pc' := 2) (z := a1) rfl rfl ?_)
  refine wp_of e56 c56_2 (rw_iload_n (pc' := 3) (z := a2) rfl rfl ?_)
  refine wp_of e56 c56_3 (xc_V (pc' := 6) (r := r0) (as := [vI a1, vI a2]) (st := []) (lm_0_118) rfl rfl (Nat.le_of_ble_eq_true rfl) hW g0 sh_1 (by decide) rfl (by decide) (s_57 hW g0 ⟨by omega, by omega⟩ ⟨by omega, by omega⟩) (fun R16516 T16517 H16518 p16519 => ?_))
  obtain ⟨e16520, e16522, z16524, e16521, b16525, p16523⟩ := p16519
  subst e16520
  subst e16521
  subst e16522
  show wp _ _ 56 6 [(0, .ref r0), (1, vI a1), (2, vI a2), (3, vI a3)] [vI z16524] _ H _
  refine wp_of e56 c56_6 (rw_if_eq (p1 := 18) (p2 := 9) (by decide) rfl ⟨by omega, by omega⟩ (fun c16526 => ?_) (fun c16526 => ?_))
  · refine wp_of e56 c56_18 (rw_aload_n (pc' := 19) (v := .ref r0) rfl rfl rfl ?_)
    refine wp_of e56 c56_19 (rw_iconst (pc' := 20) rfl ?_)
    refine wp_of e56 c56_20 (xc_V (pc' := 23) (r := r0) (as := [vI 1]) (st := []) (lm_0_70) rfl rfl (Nat.le_of_ble_eq_true rfl) hW g0 sh_1 (by decide) rfl (by decide) (s_12 hW g0 ⟨by omega, by omega⟩) (fun R16527 T16528 H16529 p16530 => ?_))
    obtain ⟨e16531, w16533, f16534, z16535, e16532, b16536⟩ := p16530
    subst e16531
    subst e16532
    have f16537 := f0.tr f16534 rfl
    show wp _ _ 56 23 [(0, .ref r0), (1, vI a1), (2, vI a2), (3, vI a3)] [vI z16535] _ H16529 _
    exact wp_ireturn e56 c56_23 rfl ⟨rfl, w16533, f16537, z16535, rfl, ⟨by omega, by omega⟩⟩
  · refine wp_of e56 c56_9 (rw_iload_n (pc' := 10) (z := a3) rfl rfl ?_)
    refine wp_of e56 c56_10 (rw_if_lt (p1 := 18) (p2 := 13) (by decide) rfl ⟨by omega, by omega⟩ (fun c16538 => ?_) (fun c16538 => ?_))
    · refine wp_of e56 c56_18 (rw_aload_n (pc' := 19) (v := .ref r0) rfl rfl rfl ?_)
      refine wp_of e56 c56_19 (rw_iconst (pc' := 20) rfl ?_)
      refine wp_of e56 c56_20 (xc_V (pc' := 23) (r := r0) (as := [vI 1]) (st := []) (lm_0_70) rfl rfl (Nat.le_of_ble_eq_true rfl) hW g0 sh_1 (by decide) rfl (by decide) (s_12 hW g0 ⟨by omega, by omega⟩) (fun R16539 T16540 H16541 p16542 => ?_))
      obtain ⟨e16543, w16545, f16546, z16547, e16544, b16548⟩ := p16542
      subst e16543
      subst e16544
      have f16549 := f0.tr f16546 rfl
      show wp _ _ 56 23 [(0, .ref r0), (1, vI a1), (2, vI a2), (3, vI a3)] [vI z16547] _ H16541 _
      exact wp_ireturn e56 c56_23 rfl ⟨rfl, w16545, f16549, z16547, rfl, ⟨by omega, by omega⟩⟩
    · refine wp_of e56 c56_13 (rw_iload_n (pc' := 14) (z := a3) rfl rfl ?_)
      refine wp_of e56 c56_14 (rw_iconst (pc' := 15) rfl ?_)
      refine wp_of e56 c56_15 (rw_icmp_le (p1 := 24) (p2 := 18) (by decide) rfl ⟨by omega, by omega⟩ ⟨by omega, by omega⟩ (fun c16550 => ?_) (fun c16550 => ?_))
      · refine wp_of e56 c56_24 (rw_aload_n (pc' := 25) (v := .ref r0) rfl rfl rfl ?_)
        refine wp_of e56 c56_25 (xg_R (pc' := 28) lf_0_51 hW g0 sh_1 (by decide) (by decide) ty_1_6 rfl rfl (fun r16551 q16552 g16553 => ?_))
        refine wp_of e56 c56_28 (xg_R (pc' := 31) lf_0_109 hW g16553 sh_27 (by decide) (by decide) ty_27_0 rfl rfl (fun r16554 q16555 g16556 => ?_))
        refine wp_of e56 c56_31 (rw_iload_n (pc' := 32) (z := a1) rfl rfl ?_)
        refine wp_of e56 c56_32 (xa_R (pc' := 33) (by decide) hW g16556 sh_28 (by decide) (ty_28 _) (by omega) (by omega) rfl (fun r16557 q16558 g16559 => ?_))
        refine wp_of e56 c56_33 (rw_astore (pc' := 35) (v := .ref r16557) (L' := [(4, .ref r16557), (0, .ref r0), (1, vI a1), (2, vI a2), (3, vI a3)]) rfl rfl rfl rfl ?_)
        refine wp_of e56 c56_35 (rw_iload_n (pc' := 36) (z := a3) rfl rfl ?_)
        refine wp_of e56 c56_36 (rw_iconst (pc' := 37) rfl ?_)
        refine wp_of e56 c56_37 (rw_icmp_ne (p1 := 51) (p2 := 40) (by decide) rfl ⟨by omega, by omega⟩ ⟨by omega, by omega⟩ (fun c16560 => ?_) (fun c16560 => ?_))
        · refine wp_of e56 c56_51 (rw_aload_n (pc' := 52) (v := .ref r0) rfl rfl rfl ?_)
          refine wp_of e56 c56_52 (rw_iload_n (pc' := 53) (z := a3) rfl rfl ?_)
          refine wp_of e56 c56_53 (rw_if_ne (p1 := 66) (p2 := 56) (by decide) rfl ⟨by omega, by omega⟩ (fun c16561 => ?_) (fun c16561 => ?_))
          · refine wp_of e56 c56_66 (rw_aload (pc' := 68) (v := .ref r16557) rfl rfl rfl ?_)
            refine wp_of e56 c56_68 (xg_R (pc' := 71) lf_0_129 hW g16559 sh_35 (by decide) (by decide) ty_35_1 rfl rfl (fun r16562 q16563 g16564 => ?_))
            refine wp_of e56 c56_71 (rw_iload_n (pc' := 72) (z := a2) rfl rfl ?_)
            refine wp_of e56 c56_72 (xa_I (so := 0) (pc' := 73) hW g16564 sh_37 (by decide) (ty_37 _) (by omega) (by omega) rfl (fun b16565 b16566 => ?_))
            refine wp_of e56 c56_73 (xc_V (pc' := 76) (r := r0) (as := [vI (H r16562 (a2.toNat))]) (st := []) (lm_0_99) rfl rfl (Nat.le_of_ble_eq_true rfl) hW g0 sh_1 (by decide) rfl (by decide) (s_51 hW g0 ⟨by omega, by omega⟩) (fun R16567 T16568 H16569 p16570 => ?_))
            obtain ⟨e16571, w16573, f16574, z16575, e16572, b16576⟩ := p16570
            subst e16571
            subst e16572
            have f16577 := f0.tr f16574 rfl
            show wp _ _ 56 76 [(4, .ref r16557), (0, .ref r0), (1, vI a1), (2, vI a2), (3, vI a3)] [vI z16575] _ H16569 _
            exact wp_ireturn e56 c56_76 rfl ⟨rfl, w16573, f16577, z16575, rfl, ⟨by omega, by omega⟩⟩
          · refine wp_of e56 c56_56 (rw_aload (pc' := 58) (v := .ref r16557) rfl rfl rfl ?_)
            refine wp_of e56 c56_58 (xg_R (pc' := 61) lf_0_125 hW g16559 sh_35 (by decide) (by decide) ty_35_0 rfl rfl (fun r16578 q16579 g16580 => ?_))
            refine wp_of e56 c56_61 (rw_iload_n (pc' := 62) (z := a2) rfl rfl ?_)
            refine wp_of e56 c56_62 (xa_I (so := 0) (pc' := 63) hW g16580 sh_36 (by decide) (ty_36 _) (by omega) (by omega) rfl (fun b16581 b16582 => ?_))
            refine wp_of e56 c56_63 (rw_goto (p1 := 73) (by decide) ?_)
            refine wp_of e56 c56_73 (xc_V (pc' := 76) (r := r0) (as := [vI (H r16578 (a2.toNat))]) (st := []) (lm_0_99) rfl rfl (Nat.le_of_ble_eq_true rfl) hW g0 sh_1 (by decide) rfl (by decide) (s_51 hW g0 ⟨by omega, by omega⟩) (fun R16583 T16584 H16585 p16586 => ?_))
            obtain ⟨e16587, w16589, f16590, z16591, e16588, b16592⟩ := p16586
            subst e16587
            subst e16588
            have f16593 := f0.tr f16590 rfl
            show wp _ _ 56 76 [(4, .ref r16557), (0, .ref r0), (1, vI a1), (2, vI a2), (3, vI a3)] [vI z16591] _ H16585 _
            exact wp_ireturn e56 c56_76 rfl ⟨rfl, w16589, f16593, z16591, rfl, ⟨by omega, by omega⟩⟩
        · refine wp_of e56 c56_40 (rw_aload_n (pc' := 41) (v := .ref r0) rfl rfl rfl ?_)
          refine wp_of e56 c56_41 (rw_aload (pc' := 43) (v := .ref r16557) rfl rfl rfl ?_)
          refine wp_of e56 c56_43 (rw_iload_n (pc' := 44) (z := a2) rfl rfl ?_)
          refine wp_of e56 c56_44 (xc_V (pc' := 47) (r := r16557) (as := [vI a2]) (st := [.ref r0]) (lm_0_122) rfl rfl (Nat.le_of_ble_eq_true rfl) hW g16559 sh_35 (by decide) rfl (by decide) (s_58 hW g16559 ⟨by omega, by omega⟩) (fun R16594 T16595 H16596 p16597 => ?_))
          obtain ⟨e16598, e16600, z16601, e16599, b16602⟩ := p16597
          subst e16598
          subst e16599
          subst e16600
          show wp _ _ 56 47 [(4, .ref r16557), (0, .ref r0), (1, vI a1), (2, vI a2), (3, vI a3)] [vI z16601, .ref r0] _ H _
          refine wp_of e56 c56_47 (xc_V (pc' := 50) (r := r0) (as := [vI z16601]) (st := []) (lm_0_99) rfl rfl (Nat.le_of_ble_eq_true rfl) hW g0 sh_1 (by decide) rfl (by decide) (s_51 hW g0 ⟨by omega, by omega⟩) (fun R16603 T16604 H16605 p16606 => ?_))
          obtain ⟨e16607, w16609, f16610, z16611, e16608, b16612⟩ := p16606
          subst e16607
          subst e16608
          have f16613 := f0.tr f16610 rfl
          show wp _ _ 56 50 [(4, .ref r16557), (0, .ref r0), (1, vI a1), (2, vI a2), (3, vI a3)] [vI z16611] _ H16605 _
          exact wp_ireturn e56 c56_50 rfl ⟨rfl, w16609, f16613, z16611, rfl, ⟨by omega, by omega⟩⟩
      · refine wp_of e56 c56_18 (rw_aload_n (pc' := 19) (v := .ref r0) rfl rfl rfl ?_)
        refine wp_of e56 c56_19 (rw_iconst (pc' := 20) rfl ?_)
        refine wp_of e56 c56_20 (xc_V (pc' := 23) (r := r0) (as := [vI 1]) (st := []) (lm_0_70) rfl rfl (Nat.le_of_ble_eq_true rfl) hW g0 sh_1 (by decide) rfl (by decide) (s_12 hW g0 ⟨by omega, by omega⟩) (fun R16614 T16615 H16616 p16617 => ?_))
        obtain ⟨e16618, w16620, f16621, z16622, e16619, b16623⟩ := p16617
        subst e16618
        subst e16619
        have f16624 := f0.tr f16621 rfl
        show wp _ _ 56 23 [(0, .ref r0), (1, vI a1), (2, vI a2), (3, vI a3)] [vI z16622] _ H16616 _
        exact wp_ireturn e56 c56_23 rfl ⟨rfl, w16620, f16624, z16622, rfl, ⟨by omega, by omega⟩⟩
