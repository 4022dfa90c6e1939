/-! methods (own work, written by wip/gen2/sx.py) -/
/-! StrikeAwake.having(II)I -/
theorem e98 : wq_en 98 = some (0, 4, false, some FieldType.int) := rfl
theorem cg98_0 : mc_cd 98 0 = some (.aload_n 0, 1) ∧ mc_cd 98 1 = some (.aload_n 0, 1) ∧ mc_cd 98 2 = some (.iload_n 1, 1) ∧ mc_cd 98 3 = some (.iload_n 2, 1) ∧ mc_cd 98 4 = some (.invokevirtual 118, 3) ∧ mc_cd 98 7 = some (.invokevirtual 174, 3) ∧ mc_cd 98 10 = some (.istore_n 3, 1) ∧ mc_cd 98 11 = some (.iload_n 3, 1) := by decide +kernel
theorem c98_0 : mc_cd 98 0 = some (.aload_n 0, 1) := cg98_0.1
theorem c98_1 : mc_cd 98 1 = some (.aload_n 0, 1) := cg98_0.2.1
theorem c98_2 : mc_cd 98 2 = some (.iload_n 1, 1) := cg98_0.2.2.1
theorem c98_3 : mc_cd 98 3 = some (.iload_n 2, 1) := cg98_0.2.2.2.1
theorem c98_4 : mc_cd 98 4 = some (.invokevirtual 118, 3) := cg98_0.2.2.2.2.1
theorem c98_7 : mc_cd 98 7 = some (.invokevirtual 174, 3) := cg98_0.2.2.2.2.2.1
theorem c98_10 : mc_cd 98 10 = some (.istore_n 3, 1) := cg98_0.2.2.2.2.2.2.1
theorem c98_11 : mc_cd 98 11 = some (.iload_n 3, 1) := cg98_0.2.2.2.2.2.2.2
theorem cg98_12 : mc_cd 98 12 = some (.ifCond .eq 9, 3) ∧ mc_cd 98 15 = some (.aload_n 0, 1) ∧ mc_cd 98 16 = some (.iload_n 3, 1) ∧ mc_cd 98 17 = some (.invokevirtual 70, 3) ∧ mc_cd 98 20 = some (.ireturn, 1) ∧ mc_cd 98 21 = some (.aload_n 0, 1) ∧ mc_cd 98 22 = some (.aload_n 0, 1) ∧ mc_cd 98 23 = some (.getfield 30, 3) := by decide +kernel
theorem c98_12 : mc_cd 98 12 = some (.ifCond .eq 9, 3) := cg98_12.1
theorem c98_15 : mc_cd 98 15 = some (.aload_n 0, 1) := cg98_12.2.1
theorem c98_16 : mc_cd 98 16 = some (.iload_n 3, 1) := cg98_12.2.2.1
theorem c98_17 : mc_cd 98 17 = some (.invokevirtual 70, 3) := cg98_12.2.2.2.1
theorem c98_20 : mc_cd 98 20 = some (.ireturn, 1) := cg98_12.2.2.2.2.1
theorem c98_21 : mc_cd 98 21 = some (.aload_n 0, 1) := cg98_12.2.2.2.2.2.1
theorem c98_22 : mc_cd 98 22 = some (.aload_n 0, 1) := cg98_12.2.2.2.2.2.2.1
theorem c98_23 : mc_cd 98 23 = some (.getfield 30, 3) := cg98_12.2.2.2.2.2.2.2
theorem cg98_26 : mc_cd 98 26 = some (.getfield 190, 3) ∧ mc_cd 98 29 = some (.iload_n 1, 1) ∧ mc_cd 98 30 = some (.aaload, 1) ∧ mc_cd 98 31 = some (.iload_n 2, 1) ∧ mc_cd 98 32 = some (.iaload, 1) ∧ mc_cd 98 33 = some (.invokevirtual 99, 3) ∧ mc_cd 98 36 = some (.ireturn, 1) := by decide +kernel
theorem c98_26 : mc_cd 98 26 = some (.getfield 190, 3) := cg98_26.1
theorem c98_29 : mc_cd 98 29 = some (.iload_n 1, 1) := cg98_26.2.1
theorem c98_30 : mc_cd 98 30 = some (.aaload, 1) := cg98_26.2.2.1
theorem c98_31 : mc_cd 98 31 = some (.iload_n 2, 1) := cg98_26.2.2.2.1
theorem c98_32 : mc_cd 98 32 = some (.iaload, 1) := cg98_26.2.2.2.2.1
theorem c98_33 : mc_cd 98 33 = some (.invokevirtual 99, 3) := cg98_26.2.2.2.2.2.1
theorem c98_36 : mc_cd 98 36 = some (.ireturn, 1) := cg98_26.2.2.2.2.2.2
/-! StrikeAwake$Census.countAwake(LStrikeAwake$Parish;II)I -/
theorem e100 : wq_en 100 = some (4, 7, false, some FieldType.int) := rfl
theorem cg100_0 : mc_cd 100 0 = some (.aload_n 1, 1) ∧ mc_cd 100 1 = some (.getfield 78, 3) ∧ mc_cd 100 4 = some (.iload_n 2, 1) ∧ mc_cd 100 5 = some (.aaload, 1) ∧ mc_cd 100 6 = some (.astore 4, 2) ∧ mc_cd 100 8 = some (.iconst 0, 1) ∧ mc_cd 100 9 = some (.istore 5, 2) ∧ mc_cd 100 11 = some (.iconst 0, 1) := by decide +kernel
theorem c100_0 : mc_cd 100 0 = some (.aload_n 1, 1) := cg100_0.1
theorem c100_1 : mc_cd 100 1 = some (.getfield 78, 3) := cg100_0.2.1
theorem c100_4 : mc_cd 100 4 = some (.iload_n 2, 1) := cg100_0.2.2.1
theorem c100_5 : mc_cd 100 5 = some (.aaload, 1) := cg100_0.2.2.2.1
theorem c100_6 : mc_cd 100 6 = some (.astore 4, 2) := cg100_0.2.2.2.2.1
theorem c100_8 : mc_cd 100 8 = some (.iconst 0, 1) := cg100_0.2.2.2.2.2.1
theorem c100_9 : mc_cd 100 9 = some (.istore 5, 2) := cg100_0.2.2.2.2.2.2.1
theorem c100_11 : mc_cd 100 11 = some (.iconst 0, 1) := cg100_0.2.2.2.2.2.2.2
theorem cg100_12 : mc_cd 100 12 = some (.istore 6, 2) ∧ mc_cd 100 14 = some (.iload 6, 2) ∧ mc_cd 100 16 = some (.aload 4, 2) ∧ mc_cd 100 18 = some (.getfield 116, 3) ∧ mc_cd 100 21 = some (.if_icmp .ge 38, 3) ∧ mc_cd 100 24 = some (.aload 4, 2) ∧ mc_cd 100 26 = some (.getfield 119, 3) ∧ mc_cd 100 29 = some (.iload 6, 2) := by decide +kernel
theorem c100_12 : mc_cd 100 12 = some (.istore 6, 2) := cg100_12.1
theorem c100_14 : mc_cd 100 14 = some (.iload 6, 2) := cg100_12.2.1
theorem c100_16 : mc_cd 100 16 = some (.aload 4, 2) := cg100_12.2.2.1
theorem c100_18 : mc_cd 100 18 = some (.getfield 116, 3) := cg100_12.2.2.2.1
theorem c100_21 : mc_cd 100 21 = some (.if_icmp .ge 38, 3) := cg100_12.2.2.2.2.1
theorem c100_24 : mc_cd 100 24 = some (.aload 4, 2) := cg100_12.2.2.2.2.2.1
theorem c100_26 : mc_cd 100 26 = some (.getfield 119, 3) := cg100_12.2.2.2.2.2.2.1
theorem c100_29 : mc_cd 100 29 = some (.iload 6, 2) := cg100_12.2.2.2.2.2.2.2
theorem cg100_31 : mc_cd 100 31 = some (.iaload, 1) ∧ mc_cd 100 32 = some (.iload_n 3, 1) ∧ mc_cd 100 33 = some (.invokestatic 122, 3) ∧ mc_cd 100 36 = some (.ifCond .eq 17, 3) ∧ mc_cd 100 39 = some (.iload 5, 2) ∧ mc_cd 100 41 = some (.aload_n 0, 1) ∧ mc_cd 100 42 = some (.getfield 17, 3) ∧ mc_cd 100 45 = some (.iload_n 2, 1) := by decide +kernel
theorem c100_31 : mc_cd 100 31 = some (.iaload, 1) := cg100_31.1
theorem c100_32 : mc_cd 100 32 = some (.iload_n 3, 1) := cg100_31.2.1
theorem c100_33 : mc_cd 100 33 = some (.invokestatic 122, 3) := cg100_31.2.2.1
theorem c100_36 : mc_cd 100 36 = some (.ifCond .eq 17, 3) := cg100_31.2.2.2.1
theorem c100_39 : mc_cd 100 39 = some (.iload 5, 2) := cg100_31.2.2.2.2.1
theorem c100_41 : mc_cd 100 41 = some (.aload_n 0, 1) := cg100_31.2.2.2.2.2.1
theorem c100_42 : mc_cd 100 42 = some (.getfield 17, 3) := cg100_31.2.2.2.2.2.2.1
theorem c100_45 : mc_cd 100 45 = some (.iload_n 2, 1) := cg100_31.2.2.2.2.2.2.2
theorem cg100_46 : mc_cd 100 46 = some (.aaload, 1) ∧ mc_cd 100 47 = some (.iload 6, 2) ∧ mc_cd 100 49 = some (.iaload, 1) ∧ mc_cd 100 50 = some (.iadd, 1) ∧ mc_cd 100 51 = some (.istore 5, 2) ∧ mc_cd 100 53 = some (.iinc 6 1, 3) ∧ mc_cd 100 56 = some (.goto (-42), 3) ∧ mc_cd 100 59 = some (.iload 5, 2) := by decide +kernel
theorem c100_46 : mc_cd 100 46 = some (.aaload, 1) := cg100_46.1
theorem c100_47 : mc_cd 100 47 = some (.iload 6, 2) := cg100_46.2.1
theorem c100_49 : mc_cd 100 49 = some (.iaload, 1) := cg100_46.2.2.1
theorem c100_50 : mc_cd 100 50 = some (.iadd, 1) := cg100_46.2.2.2.1
theorem c100_51 : mc_cd 100 51 = some (.istore 5, 2) := cg100_46.2.2.2.2.1
theorem c100_53 : mc_cd 100 53 = some (.iinc 6 1, 3) := cg100_46.2.2.2.2.2.1
theorem c100_56 : mc_cd 100 56 = some (.goto (-42), 3) := cg100_46.2.2.2.2.2.2.1
theorem c100_59 : mc_cd 100 59 = some (.iload 5, 2) := cg100_46.2.2.2.2.2.2.2
theorem c100_61 : mc_cd 100 61 = some (.ireturn, 1) := by decide +kernel
abbrev q_100 (r0 : Nat) (r1 : Nat) (a2 : Int) (a3 : Int) (T : wq_T) (H : wq_H) : Option Value → wq_T → wq_H → Prop := fun r T' H' => T = T' ∧ H = H' ∧ ∃ z : Int, some (vI z) = r ∧ ((-2147483648) ≤ z ∧ z ≤ 2147483647)
set_option maxHeartbeats 4000000 in
theorem s_100 {kt : Nat → Option mc_E} {T : wq_T} {H : wq_H} {r0 : Nat} {r1 : Nat} {a2 : Int} {a3 : Int} (hW : WT T H) (g0 : T.2.2.2 r0 = some 12) (g1 : T.2.2.2 r1 = some 27) (i2 : 0 ≤ a2 ∧ a2 ≤ 5) (i3 : (-2147483648) ≤ a3 ∧ a3 ≤ 2147483647) : wpc kt 2 100 [.ref r0, .ref r1, vI a2, vI a3] T H (q_100 r0 r1 a2 a3 T H) := by
  refine wp_enter e100 (Nat.le_of_ble_eq_true rfl) rfl ?_
  show wp _ _ 100 0 [(0, .ref r0), (1, .ref r1), (2, vI a2), (3, vI a3)] [] _ H _
  refine wp_of e100 c100_0 (rw_aload_n (pc' := 1) (v := .ref r1) rfl rfl rfl ?_)
  refine wp_of e100 c100_1 (xg_R (pc' := 4) lf_4_78 hW g1 sh_27 (by decide) (by decide) ty_27_0 rfl rfl (fun r28509 q28510 g28511 => ?_))
  refine wp_of e100 c100_4 (rw_iload_n (pc' := 5) (z := a2) rfl rfl ?_)
  refine wp_of e100 c100_5 (xa_R (pc' := 6) (by decide) hW g28511 sh_28 (by decide) (ty_28 _) (by omega) (by omega) rfl (fun r28512 q28513 g28514 => ?_))
  refine wp_of e100 c100_6 (rw_astore (pc' := 8) (v := .ref r28512) (L' := [(4, .ref r28512), (0, .ref r0), (1, .ref r1), (2, vI a2), (3, vI a3)]) rfl rfl rfl rfl ?_)
  refine wp_of e100 c100_8 (rw_iconst (pc' := 9) rfl ?_)
  refine wp_of e100 c100_9 (rw_istore (pc' := 11) (z := 0) (L' := [(5, vI 0), (4, .ref r28512), (0, .ref r0), (1, .ref r1), (2, vI a2), (3, vI a3)]) rfl rfl rfl ?_)
  refine wp_of e100 c100_11 (rw_iconst (pc' := 12) rfl ?_)
  refine wp_of e100 c100_12 (rw_istore (pc' := 14) (z := 0) (L' := [(6, vI 0), (5, vI 0), (4, .ref r28512), (0, .ref r0), (1, .ref r1), (2, vI a2), (3, vI a3)]) rfl rfl rfl ?_)
  have lp28737 : ∀ (n28738 : Nat) (v28740 : Int) (v28741 : Int), (0 ≤ v28740 ∧ v28740 ≤ 40) → ((-2147483648) ≤ v28741 ∧ v28741 ≤ 2147483647) → (40 - v28740).toNat = n28738 → wp kt 1 100 14 [(6, vI v28740), (5, vI v28741), (4, .ref r28512), (0, .ref r0), (2, vI a2), (3, vI a3)] [] T H (q_100 r0 r1 a2 a3 T H) := by
    intro n28738
    induction n28738 using Nat.strongRecOn with
    | _ n28738 ih28739 =>
      intro v28740 v28741 b28744 b28745 m28746
      refine wp_of e100 c100_14 (rw_iload (pc' := 16) (z := v28740) rfl rfl ?_)
      refine wp_of e100 c100_16 (rw_aload (pc' := 18) (v := .ref r28512) rfl rfl rfl ?_)
      refine wp_of e100 c100_18 (xg_I (pc' := 21) lf_4_116 hW g28514 sh_35 (by decide) (by decide) ty_35_15 rfl rfl (fun b28747 b28748 => ?_))
      refine wp_of e100 c100_21 (rw_icmp_ge (p1 := 59) (p2 := 24) (by decide) rfl ⟨by omega, by omega⟩ ⟨by omega, by omega⟩ (fun c28749 => ?_) (fun c28749 => ?_))
      · refine wp_of e100 c100_59 (rw_iload (pc' := 61) (z := v28741) rfl rfl ?_)
        exact wp_ireturn e100 c100_61 rfl ⟨rfl, rfl, v28741, rfl, ⟨by omega, by omega⟩⟩
      · refine wp_of e100 c100_24 (rw_aload (pc' := 26) (v := .ref r28512) rfl rfl rfl ?_)
        refine wp_of e100 c100_26 (xg_R (pc' := 29) lf_4_119 hW g28514 sh_35 (by decide) (by decide) ty_35_3 rfl rfl (fun r28750 q28751 g28752 => ?_))
        refine wp_of e100 c100_29 (rw_iload (pc' := 31) (z := v28740) rfl rfl ?_)
        refine wp_of e100 c100_31 (xa_I (so := 0) (pc' := 32) hW g28752 sh_39 (by decide) (ty_39 _) (by omega) (by omega) rfl (fun b28753 b28754 => ?_))
        refine wp_of e100 c100_32 (rw_iload_n (pc' := 33) (z := a3) rfl rfl ?_)
        refine wp_of e100 c100_33 (xc_S (pc' := 36) (as := [vI (H r28750 (v28740.toNat)), vI a3]) (st := []) (lm_4_122) rfl rfl (Nat.le_of_ble_eq_true rfl) rfl (by decide) (s_36 hW ⟨by omega, by omega⟩ ⟨by omega, by omega⟩) (fun R28755 T28756 H28757 p28758 => ?_))
        obtain ⟨e28759, e28761, z28762, e28760, b28763⟩ := p28758
        subst e28759
        subst e28760
        subst e28761
        show wp _ _ 100 36 [(6, vI v28740), (5, vI v28741), (4, .ref r28512), (0, .ref r0), (2, vI a2), (3, vI a3)] [vI z28762] _ H _
        refine wp_of e100 c100_36 (rw_if_eq (p1 := 53) (p2 := 39) (by decide) rfl ⟨by omega, by omega⟩ (fun c28764 => ?_) (fun c28764 => ?_))
        · refine wp_of e100 c100_53 (rw_iinc (pc' := 56) (z := v28740) (L' := [(6, vI (v28740 + 1)), (5, vI v28741), (4, .ref r28512), (0, .ref r0), (2, vI a2), (3, vI a3)]) rfl rfl rfl rfl ?_)
          refine wp_of e100 c100_56 (rw_goto (p1 := 14) (by decide) ?_)
          exact wp_lc (ks := [6, 5, 4, 0, 2, 3]) (wl_c rfl (wl_c rfl (wl_c rfl (wl_c rfl (wl_c rfl (wl_c rfl wl_n)))))) rfl (by decide) (ih28739 _ (by omega) (v28740 + 1) v28741 ⟨by omega, by omega⟩ ⟨by omega, by omega⟩ rfl)
        · refine wp_of e100 c100_39 (rw_iload (pc' := 41) (z := v28741) rfl rfl ?_)
          refine wp_of e100 c100_41 (rw_aload_n (pc' := 42) (v := .ref r0) rfl rfl rfl ?_)
          refine wp_of e100 c100_42 (xg_R (pc' := 45) lf_4_17 hW g0 sh_12 (by decide) (by decide) ty_12_1 rfl rfl (fun r28765 q28766 g28767 => ?_))
          refine wp_of e100 c100_45 (rw_iload_n (pc' := 46) (z := a2) rfl rfl ?_)
          refine wp_of e100 c100_46 (xa_R (pc' := 47) (by decide) hW g28767 sh_14 (by decide) (ty_14 _) (by omega) (by omega) rfl (fun r28768 q28769 g28770 => ?_))
          refine wp_of e100 c100_47 (rw_iload (pc' := 49) (z := v28740) rfl rfl ?_)
          refine wp_of e100 c100_49 (xa_I (so := 0) (pc' := 50) hW g28770 sh_15 (by decide) (ty_15 _) (by omega) (by omega) rfl (fun b28771 b28772 => ?_))
          refine wp_of e100 c100_50 (rw_iaddw (pc' := 51) rfl ?_)
          obtain ⟨v28773, e28774⟩ : ∃ x : Int, x = wq_w (v28741 + (H r28768 (v28740.toNat))) := ⟨_, rfl⟩
          rw [← e28774]
          have b28775 : -2147483648 ≤ v28773 ∧ v28773 ≤ 2147483647 := by
            rw [e28774]
            exact wI_w _
          refine wp_of e100 c100_51 (rw_istore (pc' := 53) (z := v28773) (L' := [(5, vI v28773), (6, vI v28740), (4, .ref r28512), (0, .ref r0), (2, vI a2), (3, vI a3)]) rfl rfl rfl ?_)
          refine wp_of e100 c100_53 (rw_iinc (pc' := 56) (z := v28740) (L' := [(6, vI (v28740 + 1)), (5, vI v28773), (4, .ref r28512), (0, .ref r0), (2, vI a2), (3, vI a3)]) rfl rfl rfl rfl ?_)
          refine wp_of e100 c100_56 (rw_goto (p1 := 14) (by decide) ?_)
          exact wp_lc (ks := [6, 5, 4, 0, 2, 3]) (wl_c rfl (wl_c rfl (wl_c rfl (wl_c rfl (wl_c rfl (wl_c rfl wl_n)))))) rfl (by decide) (ih28739 _ (by omega) (v28740 + 1) v28773 ⟨by omega, by omega⟩ ⟨by omega, by omega⟩ rfl)
  exact wp_lc (ks := [6, 5, 4, 0, 1, 2, 3]) (wl_c rfl (wl_c rfl (wl_c rfl (wl_c rfl (wl_c rfl (wl_c rfl wl_n)))))) rfl (by decide) (lp28737 _ 0 0 ⟨by omega, by omega⟩ ⟨by omega, by omega⟩ rfl)
/-! StrikeAwake.times(II)I -/
theorem e99 : wq_en 99 = some (0, 4, false, some FieldType.int) := rfl
theorem cg99_0 : mc_cd 99 0 = some (.aload_n 0, 1) ∧ mc_cd 99 1 = some (.aload_n 0, 1) ∧ mc_cd 99 2 = some (.iload_n 1, 1) ∧ mc_cd 99 3 = some (.invokevirtual 105, 3) ∧ mc_cd 99 6 = some (.ifCond .eq 15, 3) ∧ mc_cd 99 9 = some (.aload_n 0, 1) ∧ mc_cd 99 10 = some (.iload_n 2, 1) ∧ mc_cd 99 11 = some (.invokevirtual 132, 3) := by decide +kernel
theorem c99_0 : mc_cd 99 0 = some (.aload_n 0, 1) := cg99_0.1
theorem c99_1 : mc_cd 99 1 = some (.aload_n 0, 1) := cg99_0.2.1
theorem c99_2 : mc_cd 99 2 = some (.iload_n 1, 1) := cg99_0.2.2.1
theorem c99_3 : mc_cd 99 3 = some (.invokevirtual 105, 3) := cg99_0.2.2.2.1
theorem c99_6 : mc_cd 99 6 = some (.ifCond .eq 15, 3) := cg99_0.2.2.2.2.1
theorem c99_9 : mc_cd 99 9 = some (.aload_n 0, 1) := cg99_0.2.2.2.2.2.1
theorem c99_10 : mc_cd 99 10 = some (.iload_n 2, 1) := cg99_0.2.2.2.2.2.2.1
theorem c99_11 : mc_cd 99 11 = some (.invokevirtual 132, 3) := cg99_0.2.2.2.2.2.2.2
theorem cg99_14 : mc_cd 99 14 = some (.ifCond .eq 7, 3) ∧ mc_cd 99 17 = some (.iconst 1, 1) ∧ mc_cd 99 18 = some (.goto 4, 3) ∧ mc_cd 99 21 = some (.iconst 0, 1) ∧ mc_cd 99 22 = some (.invokevirtual 174, 3) ∧ mc_cd 99 25 = some (.istore_n 3, 1) ∧ mc_cd 99 26 = some (.iload_n 3, 1) ∧ mc_cd 99 27 = some (.ifCond .eq 9, 3) := by decide +kernel
theorem c99_14 : mc_cd 99 14 = some (.ifCond .eq 7, 3) := cg99_14.1
theorem c99_17 : mc_cd 99 17 = some (.iconst 1, 1) := cg99_14.2.1
theorem c99_18 : mc_cd 99 18 = some (.goto 4, 3) := cg99_14.2.2.1
theorem c99_21 : mc_cd 99 21 = some (.iconst 0, 1) := cg99_14.2.2.2.1
theorem c99_22 : mc_cd 99 22 = some (.invokevirtual 174, 3) := cg99_14.2.2.2.2.1
theorem c99_25 : mc_cd 99 25 = some (.istore_n 3, 1) := cg99_14.2.2.2.2.2.1
theorem c99_26 : mc_cd 99 26 = some (.iload_n 3, 1) := cg99_14.2.2.2.2.2.2.1
theorem c99_27 : mc_cd 99 27 = some (.ifCond .eq 9, 3) := cg99_14.2.2.2.2.2.2.2
theorem cg99_30 : mc_cd 99 30 = some (.aload_n 0, 1) ∧ mc_cd 99 31 = some (.iload_n 3, 1) ∧ mc_cd 99 32 = some (.invokevirtual 70, 3) ∧ mc_cd 99 35 = some (.ireturn, 1) ∧ mc_cd 99 36 = some (.aload_n 0, 1) ∧ mc_cd 99 37 = some (.aload_n 0, 1) ∧ mc_cd 99 38 = some (.getfield 30, 3) ∧ mc_cd 99 41 = some (.aload_n 0, 1) := by decide +kernel
theorem c99_30 : mc_cd 99 30 = some (.aload_n 0, 1) := cg99_30.1
theorem c99_31 : mc_cd 99 31 = some (.iload_n 3, 1) := cg99_30.2.1
theorem c99_32 : mc_cd 99 32 = some (.invokevirtual 70, 3) := cg99_30.2.2.1
theorem c99_35 : mc_cd 99 35 = some (.ireturn, 1) := cg99_30.2.2.2.1
theorem c99_36 : mc_cd 99 36 = some (.aload_n 0, 1) := cg99_30.2.2.2.2.1
theorem c99_37 : mc_cd 99 37 = some (.aload_n 0, 1) := cg99_30.2.2.2.2.2.1
theorem c99_38 : mc_cd 99 38 = some (.getfield 30, 3) := cg99_30.2.2.2.2.2.2.1
theorem c99_41 : mc_cd 99 41 = some (.aload_n 0, 1) := cg99_30.2.2.2.2.2.2.2
theorem cg99_42 : mc_cd 99 42 = some (.getfield 51, 3) ∧ mc_cd 99 45 = some (.iload_n 1, 1) ∧ mc_cd 99 46 = some (.iload_n 2, 1) ∧ mc_cd 99 47 = some (.invokevirtual 194, 3) ∧ mc_cd 99 50 = some (.invokevirtual 99, 3) ∧ mc_cd 99 53 = some (.ireturn, 1) := by decide +kernel
theorem c99_42 : mc_cd 99 42 = some (.getfield 51, 3) := cg99_42.1
theorem c99_45 : mc_cd 99 45 = some (.iload_n 1, 1) := cg99_42.2.1
theorem c99_46 : mc_cd 99 46 = some (.iload_n 2, 1) := cg99_42.2.2.1
theorem c99_47 : mc_cd 99 47 = some (.invokevirtual 194, 3) := cg99_42.2.2.2.1
theorem c99_50 : mc_cd 99 50 = some (.invokevirtual 99, 3) := cg99_42.2.2.2.2.1
theorem c99_53 : mc_cd 99 53 = some (.ireturn, 1) := cg99_42.2.2.2.2.2
/-! StrikeAwake.barOfSome(Z)I -/
theorem e102 : wq_en 102 = some (0, 3, false, some FieldType.int) := rfl
theorem cg102_0 : mc_cd 102 0 = some (.aload_n 0, 1) ∧ mc_cd 102 1 = some (.iload_n 1, 1) ∧ mc_cd 102 2 = some (.invokevirtual 174, 3) ∧ mc_cd 102 5 = some (.istore_n 2, 1) ∧ mc_cd 102 6 = some (.iload_n 2, 1) ∧ mc_cd 102 7 = some (.ifCond .ne 18, 3) ∧ mc_cd 102 10 = some (.aload_n 0, 1) ∧ mc_cd 102 11 = some (.getfield 30, 3) := by decide +kernel
theorem c102_0 : mc_cd 102 0 = some (.aload_n 0, 1) := cg102_0.1
theorem c102_1 : mc_cd 102 1 = some (.iload_n 1, 1) := cg102_0.2.1
theorem c102_2 : mc_cd 102 2 = some (.invokevirtual 174, 3) := cg102_0.2.2.1
theorem c102_5 : mc_cd 102 5 = some (.istore_n 2, 1) := cg102_0.2.2.2.1
theorem c102_6 : mc_cd 102 6 = some (.iload_n 2, 1) := cg102_0.2.2.2.2.1
theorem c102_7 : mc_cd 102 7 = some (.ifCond .ne 18, 3) := cg102_0.2.2.2.2.2.1
theorem c102_10 : mc_cd 102 10 = some (.aload_n 0, 1) := cg102_0.2.2.2.2.2.2.1
theorem c102_11 : mc_cd 102 11 = some (.getfield 30, 3) := cg102_0.2.2.2.2.2.2.2
theorem cg102_14 : mc_cd 102 14 = some (.getfield 177, 3) ∧ mc_cd 102 17 = some (.ifCond .ne 8, 3) ∧ mc_cd 102 20 = some (.bipush 6, 2) ∧ mc_cd 102 22 = some (.goto 4, 3) ∧ mc_cd 102 25 = some (.iload_n 2, 1) ∧ mc_cd 102 26 = some (.ireturn, 1) := by decide +kernel
theorem c102_14 : mc_cd 102 14 = some (.getfield 177, 3) := cg102_14.1
theorem c102_17 : mc_cd 102 17 = some (.ifCond .ne 8, 3) := cg102_14.2.1
theorem c102_20 : mc_cd 102 20 = some (.bipush 6, 2) := cg102_14.2.2.1
theorem c102_22 : mc_cd 102 22 = some (.goto 4, 3) := cg102_14.2.2.2.1
theorem c102_25 : mc_cd 102 25 = some (.iload_n 2, 1) := cg102_14.2.2.2.2.1
theorem c102_26 : mc_cd 102 26 = some (.ireturn, 1) := cg102_14.2.2.2.2.2
/-! StrikeAwake$Census.sureness(LStrikeAwake$Parish;II)I -/
theorem e103 : wq_en 103 = some (4, 5, false, some FieldType.int) := rfl
theorem cg103_0 : mc_cd 103 0 = some (.aload_n 0, 1) ∧ mc_cd 103 1 = some (.aload_n 1, 1) ∧ mc_cd 103 2 = some (.iload_n 2, 1) ∧ mc_cd 103 3 = some (.iload_n 3, 1) ∧ mc_cd 103 4 = some (.invokevirtual 126, 3) ∧ mc_cd 103 7 = some (.istore 4, 2) ∧ mc_cd 103 9 = some (.iload 4, 2) ∧ mc_cd 103 11 = some (.ifCond .ne 5, 3) := by decide +kernel
theorem c103_0 : mc_cd 103 0 = some (.aload_n 0, 1) := cg103_0.1
theorem c103_1 : mc_cd 103 1 = some (.aload_n 1, 1) := cg103_0.2.1
theorem c103_2 : mc_cd 103 2 = some (.iload_n 2, 1) := cg103_0.2.2.1
theorem c103_3 : mc_cd 103 3 = some (.iload_n 3, 1) := cg103_0.2.2.2.1
theorem c103_4 : mc_cd 103 4 = some (.invokevirtual 126, 3) := cg103_0.2.2.2.2.1
theorem c103_7 : mc_cd 103 7 = some (.istore 4, 2) := cg103_0.2.2.2.2.2.1
theorem c103_9 : mc_cd 103 9 = some (.iload 4, 2) := cg103_0.2.2.2.2.2.2.1
theorem c103_11 : mc_cd 103 11 = some (.ifCond .ne 5, 3) := cg103_0.2.2.2.2.2.2.2
theorem cg103_14 : mc_cd 103 14 = some (.iconst 0, 1) ∧ mc_cd 103 15 = some (.ireturn, 1) ∧ mc_cd 103 16 = some (.iload 4, 2) ∧ mc_cd 103 18 = some (.aload_n 0, 1) ∧ mc_cd 103 19 = some (.getfield 62, 3) ∧ mc_cd 103 22 = some (.if_icmp .ne 7, 3) ∧ mc_cd 103 25 = some (.iconst 2, 1) ∧ mc_cd 103 26 = some (.goto 4, 3) := by decide +kernel
theorem c103_14 : mc_cd 103 14 = some (.iconst 0, 1) := cg103_14.1
theorem c103_15 : mc_cd 103 15 = some (.ireturn, 1) := cg103_14.2.1
theorem c103_16 : mc_cd 103 16 = some (.iload 4, 2) := cg103_14.2.2.1
theorem c103_18 : mc_cd 103 18 = some (.aload_n 0, 1) := cg103_14.2.2.2.1
theorem c103_19 : mc_cd 103 19 = some (.getfield 62, 3) := cg103_14.2.2.2.2.1
theorem c103_22 : mc_cd 103 22 = some (.if_icmp .ne 7, 3) := cg103_14.2.2.2.2.2.1
theorem c103_25 : mc_cd 103 25 = some (.iconst 2, 1) := cg103_14.2.2.2.2.2.2.1
theorem c103_26 : mc_cd 103 26 = some (.goto 4, 3) := cg103_14.2.2.2.2.2.2.2
theorem cg103_29 : mc_cd 103 29 = some (.iconst 1, 1) ∧ mc_cd 103 30 = some (.ireturn, 1) := by decide +kernel
theorem c103_29 : mc_cd 103 29 = some (.iconst 1, 1) := cg103_29.1
theorem c103_30 : mc_cd 103 30 = some (.ireturn, 1) := cg103_29.2
abbrev q_103 (r0 : Nat) (r1 : Nat) (a2 : Int) (a3 : Int) (T : wq_T) (H : wq_H) : Option Value → wq_T → wq_H → Prop := fun r T' H' => T = T' ∧ H = H' ∧ ∃ z : Int, some (vI z) = r ∧ (0 ≤ z ∧ z ≤ 2)
set_option maxHeartbeats 4000000 in
theorem s_103 {kt : Nat → Option mc_E} {T : wq_T} {H : wq_H} {r0 : Nat} {r1 : Nat} {a2 : Int} {a3 : Int} (hW : WT T H) (g0 : T.2.2.2 r0 = some 12) (g1 : T.2.2.2 r1 = some 27) (i2 : 0 ≤ a2 ∧ a2 ≤ 5) (i3 : (-2147483648) ≤ a3 ∧ a3 ≤ 2147483647) : wpc kt 3 103 [.ref r0, .ref r1, vI a2, vI a3] T H (q_103 r0 r1 a2 a3 T H) := by
  refine wp_enter e103 (Nat.le_of_ble_eq_true rfl) rfl ?_
  show wp _ _ 103 0 [(0, .ref r0), (1, .ref r1), (2, vI a2), (3, vI a3)] [] _ H _
  refine wp_of e103 c103_0 (rw_aload_n (pc' := 1) (v := .ref r0) rfl rfl rfl ?_)
  refine wp_of e103 c103_1 (rw_aload_n (pc' := 2) (v := .ref r1) rfl rfl rfl ?_)
  refine wp_of e103 c103_2 (rw_iload_n (pc' := 3) (z := a2) rfl rfl ?_)
  refine wp_of e103 c103_3 (rw_iload_n (pc' := 4) (z := a3) rfl rfl ?_)
  refine wp_of e103 c103_4 (xc_V (pc' := 7) (r := r0) (as := [.ref r1, vI a2, vI a3]) (st := []) (lm_4_126) rfl rfl (Nat.le_of_ble_eq_true rfl) hW g0 sh_12 (by decide) rfl (by decide) (s_100 hW g0 g1 ⟨by omega, by omega⟩ ⟨by omega, by omega⟩) (fun R29067 T29068 H29069 p29070 => ?_))
  obtain ⟨e29071, e29073, z29074, e29072, b29075⟩ := p29070
  subst e29071
  subst e29072
  subst e29073
  show wp _ _ 103 7 [(0, .ref r0), (1, .ref r1), (2, vI a2), (3, vI a3)] [vI z29074] _ H _
  refine wp_of e103 c103_7 (rw_istore (pc' := 9) (z := z29074) (L' := [(4, vI z29074), (0, .ref r0), (1, .ref r1), (2, vI a2), (3, vI a3)]) rfl rfl rfl ?_)
  refine wp_of e103 c103_9 (rw_iload (pc' := 11) (z := z29074) rfl rfl ?_)
  refine wp_of e103 c103_11 (rw_if_ne (p1 := 16) (p2 := 14) (by decide) rfl ⟨by omega, by omega⟩ (fun c29076 => ?_) (fun c29076 => ?_))
  · refine wp_of e103 c103_16 (rw_iload (pc' := 18) (z := z29074) rfl rfl ?_)
    refine wp_of e103 c103_18 (rw_aload_n (pc' := 19) (v := .ref r0) rfl rfl rfl ?_)
    refine wp_of e103 c103_19 (xg_I (pc' := 22) lf_4_62 hW g0 sh_12 (by decide) (by decide) ty_12_5 rfl rfl (fun b29077 b29078 => ?_))
    refine wp_of e103 c103_22 (rw_icmp_ne (p1 := 29) (p2 := 25) (by decide) rfl ⟨by omega, by omega⟩ ⟨by omega, by omega⟩ (fun c29079 => ?_) (fun c29079 => ?_))
    · refine wp_of e103 c103_29 (rw_iconst (pc' := 30) rfl ?_)
      exact wp_ireturn e103 c103_30 rfl ⟨rfl, rfl, 1, rfl, ⟨by omega, by omega⟩⟩
    · refine wp_of e103 c103_25 (rw_iconst (pc' := 26) rfl ?_)
      refine wp_of e103 c103_26 (rw_goto (p1 := 30) (by decide) ?_)
      exact wp_ireturn e103 c103_30 rfl ⟨rfl, rfl, 2, rfl, ⟨by omega, by omega⟩⟩
  · refine wp_of e103 c103_14 (rw_iconst (pc' := 15) rfl ?_)
    exact wp_ireturn e103 c103_15 rfl ⟨rfl, rfl, 0, rfl, ⟨by omega, by omega⟩⟩
/-! StrikeAwake.sure(II)I -/
theorem e101 : wq_en 101 = some (0, 4, false, some FieldType.int) := rfl
theorem cg101_0 : mc_cd 101 0 = some (.aload_n 0, 1) ∧ mc_cd 101 1 = some (.aload_n 0, 1) ∧ mc_cd 101 2 = some (.iload_n 1, 1) ∧ mc_cd 101 3 = some (.invokevirtual 105, 3) ∧ mc_cd 101 6 = some (.ifCond .eq 15, 3) ∧ mc_cd 101 9 = some (.aload_n 0, 1) ∧ mc_cd 101 10 = some (.iload_n 2, 1) ∧ mc_cd 101 11 = some (.invokevirtual 132, 3) := by decide +kernel
theorem c101_0 : mc_cd 101 0 = some (.aload_n 0, 1) := cg101_0.1
theorem c101_1 : mc_cd 101 1 = some (.aload_n 0, 1) := cg101_0.2.1
theorem c101_2 : mc_cd 101 2 = some (.iload_n 1, 1) := cg101_0.2.2.1
theorem c101_3 : mc_cd 101 3 = some (.invokevirtual 105, 3) := cg101_0.2.2.2.1
theorem c101_6 : mc_cd 101 6 = some (.ifCond .eq 15, 3) := cg101_0.2.2.2.2.1
theorem c101_9 : mc_cd 101 9 = some (.aload_n 0, 1) := cg101_0.2.2.2.2.2.1
theorem c101_10 : mc_cd 101 10 = some (.iload_n 2, 1) := cg101_0.2.2.2.2.2.2.1
theorem c101_11 : mc_cd 101 11 = some (.invokevirtual 132, 3) := cg101_0.2.2.2.2.2.2.2
theorem cg101_14 : mc_cd 101 14 = some (.ifCond .eq 7, 3) ∧ mc_cd 101 17 = some (.iconst 1, 1) ∧ mc_cd 101 18 = some (.goto 4, 3) ∧ mc_cd 101 21 = some (.iconst 0, 1) ∧ mc_cd 101 22 = some (.invokevirtual 198, 3) ∧ mc_cd 101 25 = some (.istore_n 3, 1) ∧ mc_cd 101 26 = some (.iload_n 3, 1) ∧ mc_cd 101 27 = some (.ifCond .eq 9, 3) := by decide +kernel
theorem c101_14 : mc_cd 101 14 = some (.ifCond .eq 7, 3) := cg101_14.1
theorem c101_17 : mc_cd 101 17 = some (.iconst 1, 1) := cg101_14.2.1
theorem c101_18 : mc_cd 101 18 = some (.goto 4, 3) := cg101_14.2.2.1
theorem c101_21 : mc_cd 101 21 = some (.iconst 0, 1) := cg101_14.2.2.2.1
theorem c101_22 : mc_cd 101 22 = some (.invokevirtual 198, 3) := cg101_14.2.2.2.2.1
theorem c101_25 : mc_cd 101 25 = some (.istore_n 3, 1) := cg101_14.2.2.2.2.2.1
theorem c101_26 : mc_cd 101 26 = some (.iload_n 3, 1) := cg101_14.2.2.2.2.2.2.1
theorem c101_27 : mc_cd 101 27 = some (.ifCond .eq 9, 3) := cg101_14.2.2.2.2.2.2.2
theorem cg101_30 : mc_cd 101 30 = some (.aload_n 0, 1) ∧ mc_cd 101 31 = some (.iload_n 3, 1) ∧ mc_cd 101 32 = some (.invokevirtual 70, 3) ∧ mc_cd 101 35 = some (.ireturn, 1) ∧ mc_cd 101 36 = some (.aload_n 0, 1) ∧ mc_cd 101 37 = some (.aload_n 0, 1) ∧ mc_cd 101 38 = some (.getfield 30, 3) ∧ mc_cd 101 41 = some (.aload_n 0, 1) := by decide +kernel
theorem c101_30 : mc_cd 101 30 = some (.aload_n 0, 1) := cg101_30.1
theorem c101_31 : mc_cd 101 31 = some (.iload_n 3, 1) := cg101_30.2.1
theorem c101_32 : mc_cd 101 32 = some (.invokevirtual 70, 3) := cg101_30.2.2.1
theorem c101_35 : mc_cd 101 35 = some (.ireturn, 1) := cg101_30.2.2.2.1
theorem c101_36 : mc_cd 101 36 = some (.aload_n 0, 1) := cg101_30.2.2.2.2.1
theorem c101_37 : mc_cd 101 37 = some (.aload_n 0, 1) := cg101_30.2.2.2.2.2.1
theorem c101_38 : mc_cd 101 38 = some (.getfield 30, 3) := cg101_30.2.2.2.2.2.2.1
theorem c101_41 : mc_cd 101 41 = some (.aload_n 0, 1) := cg101_30.2.2.2.2.2.2.2
theorem cg101_42 : mc_cd 101 42 = some (.getfield 51, 3) ∧ mc_cd 101 45 = some (.iload_n 1, 1) ∧ mc_cd 101 46 = some (.iload_n 2, 1) ∧ mc_cd 101 47 = some (.invokevirtual 201, 3) ∧ mc_cd 101 50 = some (.invokevirtual 99, 3) ∧ mc_cd 101 53 = some (.ireturn, 1) := by decide +kernel
theorem c101_42 : mc_cd 101 42 = some (.getfield 51, 3) := cg101_42.1
theorem c101_45 : mc_cd 101 45 = some (.iload_n 1, 1) := cg101_42.2.1
theorem c101_46 : mc_cd 101 46 = some (.iload_n 2, 1) := cg101_42.2.2.1
theorem c101_47 : mc_cd 101 47 = some (.invokevirtual 201, 3) := cg101_42.2.2.2.1
theorem c101_50 : mc_cd 101 50 = some (.invokevirtual 99, 3) := cg101_42.2.2.2.2.1
theorem c101_53 : mc_cd 101 53 = some (.ireturn, 1) := cg101_42.2.2.2.2.2
/-! StrikeAwake.surely(IZ)I -/
theorem e104 : wq_en 104 = some (0, 7, false, some FieldType.int) := rfl
theorem cg104_0 : mc_cd 104 0 = some (.aload_n 0, 1) ∧ mc_cd 104 1 = some (.aload_n 0, 1) ∧ mc_cd 104 2 = some (.iload_n 1, 1) ∧ mc_cd 104 3 = some (.invokevirtual 132, 3) ∧ mc_cd 104 6 = some (.invokevirtual 198, 3) ∧ mc_cd 104 9 = some (.istore_n 3, 1) ∧ mc_cd 104 10 = some (.iload_n 3, 1) ∧ mc_cd 104 11 = some (.ifCond .eq 9, 3) := by decide +kernel
theorem c104_0 : mc_cd 104 0 = some (.aload_n 0, 1) := cg104_0.1
theorem c104_1 : mc_cd 104 1 = some (.aload_n 0, 1) := cg104_0.2.1
theorem c104_2 : mc_cd 104 2 = some (.iload_n 1, 1) := cg104_0.2.2.1
theorem c104_3 : mc_cd 104 3 = some (.invokevirtual 132, 3) := cg104_0.2.2.2.1
theorem c104_6 : mc_cd 104 6 = some (.invokevirtual 198, 3) := cg104_0.2.2.2.2.1
theorem c104_9 : mc_cd 104 9 = some (.istore_n 3, 1) := cg104_0.2.2.2.2.2.1
theorem c104_10 : mc_cd 104 10 = some (.iload_n 3, 1) := cg104_0.2.2.2.2.2.2.1
theorem c104_11 : mc_cd 104 11 = some (.ifCond .eq 9, 3) := cg104_0.2.2.2.2.2.2.2
theorem cg104_14 : mc_cd 104 14 = some (.aload_n 0, 1) ∧ mc_cd 104 15 = some (.iload_n 3, 1) ∧ mc_cd 104 16 = some (.invokevirtual 70, 3) ∧ mc_cd 104 19 = some (.ireturn, 1) ∧ mc_cd 104 20 = some (.iload_n 2, 1) ∧ mc_cd 104 21 = some (.ifCond .eq 7, 3) ∧ mc_cd 104 24 = some (.iconst 2, 1) ∧ mc_cd 104 25 = some (.goto 4, 3) := by decide +kernel
theorem c104_14 : mc_cd 104 14 = some (.aload_n 0, 1) := cg104_14.1
theorem c104_15 : mc_cd 104 15 = some (.iload_n 3, 1) := cg104_14.2.1
theorem c104_16 : mc_cd 104 16 = some (.invokevirtual 70, 3) := cg104_14.2.2.1
theorem c104_19 : mc_cd 104 19 = some (.ireturn, 1) := cg104_14.2.2.2.1
theorem c104_20 : mc_cd 104 20 = some (.iload_n 2, 1) := cg104_14.2.2.2.2.1
theorem c104_21 : mc_cd 104 21 = some (.ifCond .eq 7, 3) := cg104_14.2.2.2.2.2.1
theorem c104_24 : mc_cd 104 24 = some (.iconst 2, 1) := cg104_14.2.2.2.2.2.2.1
theorem c104_25 : mc_cd 104 25 = some (.goto 4, 3) := cg104_14.2.2.2.2.2.2.2
theorem cg104_28 : mc_cd 104 28 = some (.iconst 0, 1) ∧ mc_cd 104 29 = some (.istore 4, 2) ∧ mc_cd 104 31 = some (.iconst 0, 1) ∧ mc_cd 104 32 = some (.istore 5, 2) ∧ mc_cd 104 34 = some (.iconst 0, 1) ∧ mc_cd 104 35 = some (.istore 6, 2) ∧ mc_cd 104 37 = some (.iload 6, 2) ∧ mc_cd 104 39 = some (.aload_n 0, 1) := by decide +kernel
theorem c104_28 : mc_cd 104 28 = some (.iconst 0, 1) := cg104_28.1
theorem c104_29 : mc_cd 104 29 = some (.istore 4, 2) := cg104_28.2.1
theorem c104_31 : mc_cd 104 31 = some (.iconst 0, 1) := cg104_28.2.2.1
theorem c104_32 : mc_cd 104 32 = some (.istore 5, 2) := cg104_28.2.2.2.1
theorem c104_34 : mc_cd 104 34 = some (.iconst 0, 1) := cg104_28.2.2.2.2.1
theorem c104_35 : mc_cd 104 35 = some (.istore 6, 2) := cg104_28.2.2.2.2.2.1
theorem c104_37 : mc_cd 104 37 = some (.iload 6, 2) := cg104_28.2.2.2.2.2.2.1
theorem c104_39 : mc_cd 104 39 = some (.aload_n 0, 1) := cg104_28.2.2.2.2.2.2.2
theorem cg104_40 : mc_cd 104 40 = some (.getfield 51, 3) ∧ mc_cd 104 43 = some (.getfield 96, 3) ∧ mc_cd 104 46 = some (.if_icmp .ge 37, 3) ∧ mc_cd 104 49 = some (.aload_n 0, 1) ∧ mc_cd 104 50 = some (.getfield 30, 3) ∧ mc_cd 104 53 = some (.aload_n 0, 1) ∧ mc_cd 104 54 = some (.getfield 51, 3) ∧ mc_cd 104 57 = some (.iload 6, 2) := by decide +kernel
theorem c104_40 : mc_cd 104 40 = some (.getfield 51, 3) := cg104_40.1
theorem c104_43 : mc_cd 104 43 = some (.getfield 96, 3) := cg104_40.2.1
theorem c104_46 : mc_cd 104 46 = some (.if_icmp .ge 37, 3) := cg104_40.2.2.1
theorem c104_49 : mc_cd 104 49 = some (.aload_n 0, 1) := cg104_40.2.2.2.1
theorem c104_50 : mc_cd 104 50 = some (.getfield 30, 3) := cg104_40.2.2.2.2.1
theorem c104_53 : mc_cd 104 53 = some (.aload_n 0, 1) := cg104_40.2.2.2.2.2.1
theorem c104_54 : mc_cd 104 54 = some (.getfield 51, 3) := cg104_40.2.2.2.2.2.2.1
theorem c104_57 : mc_cd 104 57 = some (.iload 6, 2) := cg104_40.2.2.2.2.2.2.2
theorem cg104_59 : mc_cd 104 59 = some (.iload_n 1, 1) ∧ mc_cd 104 60 = some (.invokevirtual 201, 3) ∧ mc_cd 104 63 = some (.iload 4, 2) ∧ mc_cd 104 65 = some (.if_icmp .ne 12, 3) ∧ mc_cd 104 68 = some (.iload 5, 2) ∧ mc_cd 104 70 = some (.iconst 1, 1) ∧ mc_cd 104 71 = some (.iload 6, 2) ∧ mc_cd 104 73 = some (.ishl, 1) := by decide +kernel
theorem c104_59 : mc_cd 104 59 = some (.iload_n 1, 1) := cg104_59.1
theorem c104_60 : mc_cd 104 60 = some (.invokevirtual 201, 3) := cg104_59.2.1
theorem c104_63 : mc_cd 104 63 = some (.iload 4, 2) := cg104_59.2.2.1
theorem c104_65 : mc_cd 104 65 = some (.if_icmp .ne 12, 3) := cg104_59.2.2.2.1
theorem c104_68 : mc_cd 104 68 = some (.iload 5, 2) := cg104_59.2.2.2.2.1
theorem c104_70 : mc_cd 104 70 = some (.iconst 1, 1) := cg104_59.2.2.2.2.2.1
theorem c104_71 : mc_cd 104 71 = some (.iload 6, 2) := cg104_59.2.2.2.2.2.2.1
theorem c104_73 : mc_cd 104 73 = some (.ishl, 1) := cg104_59.2.2.2.2.2.2.2
theorem cg104_74 : mc_cd 104 74 = some (.ior, 1) ∧ mc_cd 104 75 = some (.istore 5, 2) ∧ mc_cd 104 77 = some (.iinc 6 1, 3) ∧ mc_cd 104 80 = some (.goto (-43), 3) ∧ mc_cd 104 83 = some (.aload_n 0, 1) ∧ mc_cd 104 84 = some (.iload 5, 2) ∧ mc_cd 104 86 = some (.invokevirtual 99, 3) ∧ mc_cd 104 89 = some (.ireturn, 1) := by decide +kernel
theorem c104_74 : mc_cd 104 74 = some (.ior, 1) := cg104_74.1
theorem c104_75 : mc_cd 104 75 = some (.istore 5, 2) := cg104_74.2.1
theorem c104_77 : mc_cd 104 77 = some (.iinc 6 1, 3) := cg104_74.2.2.1
theorem c104_80 : mc_cd 104 80 = some (.goto (-43), 3) := cg104_74.2.2.2.1
theorem c104_83 : mc_cd 104 83 = some (.aload_n 0, 1) := cg104_74.2.2.2.2.1
theorem c104_84 : mc_cd 104 84 = some (.iload 5, 2) := cg104_74.2.2.2.2.2.1
theorem c104_86 : mc_cd 104 86 = some (.invokevirtual 99, 3) := cg104_74.2.2.2.2.2.2.1
theorem c104_89 : mc_cd 104 89 = some (.ireturn, 1) := cg104_74.2.2.2.2.2.2.2
/-! StrikeAwake$Census.hundredthsAwake(LStrikeAwake$Parish;II)I -/
theorem e106 : wq_en 106 = some (4, 8, false, some FieldType.int) := rfl
theorem cg106_0 : mc_cd 106 0 = some (.aload_n 1, 1) ∧ mc_cd 106 1 = some (.getfield 78, 3) ∧ mc_cd 106 4 = some (.iload_n 2, 1) ∧ mc_cd 106 5 = some (.aaload, 1) ∧ mc_cd 106 6 = some (.astore 4, 2) ∧ mc_cd 106 8 = some (.lconst 0, 1) ∧ mc_cd 106 9 = some (.lstore 5, 2) ∧ mc_cd 106 11 = some (.iconst 0, 1) := by decide +kernel
theorem c106_0 : mc_cd 106 0 = some (.aload_n 1, 1) := cg106_0.1
theorem c106_1 : mc_cd 106 1 = some (.getfield 78, 3) := cg106_0.2.1
theorem c106_4 : mc_cd 106 4 = some (.iload_n 2, 1) := cg106_0.2.2.1
theorem c106_5 : mc_cd 106 5 = some (.aaload, 1) := cg106_0.2.2.2.1
theorem c106_6 : mc_cd 106 6 = some (.astore 4, 2) := cg106_0.2.2.2.2.1
theorem c106_8 : mc_cd 106 8 = some (.lconst 0, 1) := cg106_0.2.2.2.2.2.1
theorem c106_9 : mc_cd 106 9 = some (.lstore 5, 2) := cg106_0.2.2.2.2.2.2.1
theorem c106_11 : mc_cd 106 11 = some (.iconst 0, 1) := cg106_0.2.2.2.2.2.2.2
theorem cg106_12 : mc_cd 106 12 = some (.istore 7, 2) ∧ mc_cd 106 14 = some (.iload 7, 2) ∧ mc_cd 106 16 = some (.aload 4, 2) ∧ mc_cd 106 18 = some (.getfield 116, 3) ∧ mc_cd 106 21 = some (.if_icmp .ge 38, 3) ∧ mc_cd 106 24 = some (.aload 4, 2) ∧ mc_cd 106 26 = some (.getfield 119, 3) ∧ mc_cd 106 29 = some (.iload 7, 2) := by decide +kernel
theorem c106_12 : mc_cd 106 12 = some (.istore 7, 2) := cg106_12.1
theorem c106_14 : mc_cd 106 14 = some (.iload 7, 2) := cg106_12.2.1
theorem c106_16 : mc_cd 106 16 = some (.aload 4, 2) := cg106_12.2.2.1
theorem c106_18 : mc_cd 106 18 = some (.getfield 116, 3) := cg106_12.2.2.2.1
theorem c106_21 : mc_cd 106 21 = some (.if_icmp .ge 38, 3) := cg106_12.2.2.2.2.1
theorem c106_24 : mc_cd 106 24 = some (.aload 4, 2) := cg106_12.2.2.2.2.2.1
theorem c106_26 : mc_cd 106 26 = some (.getfield 119, 3) := cg106_12.2.2.2.2.2.2.1
theorem c106_29 : mc_cd 106 29 = some (.iload 7, 2) := cg106_12.2.2.2.2.2.2.2
theorem cg106_31 : mc_cd 106 31 = some (.iaload, 1) ∧ mc_cd 106 32 = some (.iload_n 3, 1) ∧ mc_cd 106 33 = some (.invokestatic 122, 3) ∧ mc_cd 106 36 = some (.ifCond .eq 17, 3) ∧ mc_cd 106 39 = some (.lload 5, 2) ∧ mc_cd 106 41 = some (.aload_n 0, 1) ∧ mc_cd 106 42 = some (.getfield 22, 3) ∧ mc_cd 106 45 = some (.iload_n 2, 1) := by decide +kernel
theorem c106_31 : mc_cd 106 31 = some (.iaload, 1) := cg106_31.1
theorem c106_32 : mc_cd 106 32 = some (.iload_n 3, 1) := cg106_31.2.1
theorem c106_33 : mc_cd 106 33 = some (.invokestatic 122, 3) := cg106_31.2.2.1
theorem c106_36 : mc_cd 106 36 = some (.ifCond .eq 17, 3) := cg106_31.2.2.2.1
theorem c106_39 : mc_cd 106 39 = some (.lload 5, 2) := cg106_31.2.2.2.2.1
theorem c106_41 : mc_cd 106 41 = some (.aload_n 0, 1) := cg106_31.2.2.2.2.2.1
theorem c106_42 : mc_cd 106 42 = some (.getfield 22, 3) := cg106_31.2.2.2.2.2.2.1
theorem c106_45 : mc_cd 106 45 = some (.iload_n 2, 1) := cg106_31.2.2.2.2.2.2.2
theorem cg106_46 : mc_cd 106 46 = some (.aaload, 1) ∧ mc_cd 106 47 = some (.iload 7, 2) ∧ mc_cd 106 49 = some (.laload, 1) ∧ mc_cd 106 50 = some (.ladd, 1) ∧ mc_cd 106 51 = some (.lstore 5, 2) ∧ mc_cd 106 53 = some (.iinc 7 1, 3) ∧ mc_cd 106 56 = some (.goto (-42), 3) ∧ mc_cd 106 59 = some (.aload_n 0, 1) := by decide +kernel
theorem c106_46 : mc_cd 106 46 = some (.aaload, 1) := cg106_46.1
theorem c106_47 : mc_cd 106 47 = some (.iload 7, 2) := cg106_46.2.1
theorem c106_49 : mc_cd 106 49 = some (.laload, 1) := cg106_46.2.2.1
theorem c106_50 : mc_cd 106 50 = some (.ladd, 1) := cg106_46.2.2.2.1
theorem c106_51 : mc_cd 106 51 = some (.lstore 5, 2) := cg106_46.2.2.2.2.1
theorem c106_53 : mc_cd 106 53 = some (.iinc 7 1, 3) := cg106_46.2.2.2.2.2.1
theorem c106_56 : mc_cd 106 56 = some (.goto (-42), 3) := cg106_46.2.2.2.2.2.2.1
theorem c106_59 : mc_cd 106 59 = some (.aload_n 0, 1) := cg106_46.2.2.2.2.2.2.2
theorem cg106_60 : mc_cd 106 60 = some (.getfield 66, 3) ∧ mc_cd 106 63 = some (.lconst 0, 1) ∧ mc_cd 106 64 = some (.lcmp, 1) ∧ mc_cd 106 65 = some (.ifCond .le 18, 3) ∧ mc_cd 106 68 = some (.lload 5, 2) ∧ mc_cd 106 70 = some (.ldc2_w 130, 3) ∧ mc_cd 106 73 = some (.lmul, 1) ∧ mc_cd 106 74 = some (.aload_n 0, 1) := by decide +kernel
theorem c106_60 : mc_cd 106 60 = some (.getfield 66, 3) := cg106_60.1
theorem c106_63 : mc_cd 106 63 = some (.lconst 0, 1) := cg106_60.2.1
theorem c106_64 : mc_cd 106 64 = some (.lcmp, 1) := cg106_60.2.2.1
theorem c106_65 : mc_cd 106 65 = some (.ifCond .le 18, 3) := cg106_60.2.2.2.1
theorem c106_68 : mc_cd 106 68 = some (.lload 5, 2) := cg106_60.2.2.2.2.1
theorem c106_70 : mc_cd 106 70 = some (.ldc2_w 130, 3) := cg106_60.2.2.2.2.2.1
theorem c106_73 : mc_cd 106 73 = some (.lmul, 1) := cg106_60.2.2.2.2.2.2.1
theorem c106_74 : mc_cd 106 74 = some (.aload_n 0, 1) := cg106_60.2.2.2.2.2.2.2
theorem cg106_75 : mc_cd 106 75 = some (.getfield 66, 3) ∧ mc_cd 106 78 = some (.ldiv, 1) ∧ mc_cd 106 79 = some (.l2i, 1) ∧ mc_cd 106 80 = some (.goto 4, 3) ∧ mc_cd 106 83 = some (.iconst 0, 1) ∧ mc_cd 106 84 = some (.ireturn, 1) := by decide +kernel
theorem c106_75 : mc_cd 106 75 = some (.getfield 66, 3) := cg106_75.1
theorem c106_78 : mc_cd 106 78 = some (.ldiv, 1) := cg106_75.2.1
theorem c106_79 : mc_cd 106 79 = some (.l2i, 1) := cg106_75.2.2.1
theorem c106_80 : mc_cd 106 80 = some (.goto 4, 3) := cg106_75.2.2.2.1
theorem c106_83 : mc_cd 106 83 = some (.iconst 0, 1) := cg106_75.2.2.2.2.1
theorem c106_84 : mc_cd 106 84 = some (.ireturn, 1) := cg106_75.2.2.2.2.2
abbrev q_106 (r0 : Nat) (r1 : Nat) (a2 : Int) (a3 : Int) (T : wq_T) (H : wq_H) : Option Value → wq_T → wq_H → Prop := fun r T' H' => T = T' ∧ H = H' ∧ ∃ z : Int, some (vI z) = r ∧ ((-2147483648) ≤ z ∧ z ≤ 2147483647)
set_option maxHeartbeats 4000000 in
theorem s_106 {kt : Nat → Option mc_E} {T : wq_T} {H : wq_H} {r0 : Nat} {r1 : Nat} {a2 : Int} {a3 : Int} (hW : WT T H) (g0 : T.2.2.2 r0 = some 12) (g1 : T.2.2.2 r1 = some 27) (i2 : 0 ≤ a2 ∧ a2 ≤ 5) (i3 : (-2147483648) ≤ a3 ∧ a3 ≤ 2147483647) : wpc kt 2 106 [.ref r0, .ref r1, vI a2, vI a3] T H (q_106 r0 r1 a2 a3 T H) := by
  refine wp_enter e106 (Nat.le_of_ble_eq_true rfl) rfl ?_
  show wp _ _ 106 0 [(0, .ref r0), (1, .ref r1), (2, vI a2), (3, vI a3)] [] _ H _
  refine wp_of e106 c106_0 (rw_aload_n (pc' := 1) (v := .ref r1) rfl rfl rfl ?_)
  refine wp_of e106 c106_1 (xg_R (pc' := 4) lf_4_78 hW g1 sh_27 (by decide) (by decide) ty_27_0 rfl rfl (fun r30465 q30466 g30467 => ?_))
  refine wp_of e106 c106_4 (rw_iload_n (pc' := 5) (z := a2) rfl rfl ?_)
  refine wp_of e106 c106_5 (xa_R (pc' := 6) (by decide) hW g30467 sh_28 (by decide) (ty_28 _) (by omega) (by omega) rfl (fun r30468 q30469 g30470 => ?_))
  refine wp_of e106 c106_6 (rw_astore (pc' := 8) (v := .ref r30468) (L' := [(4, .ref r30468), (0, .ref r0), (1, .ref r1), (2, vI a2), (3, vI a3)]) rfl rfl rfl rfl ?_)
  refine wp_of e106 c106_8 (rw_lconst (pc' := 9) (z := 0) rfl rfl ?_)
  refine wp_of e106 c106_9 (rw_lstore (pc' := 11) (z := 0) (L' := [(5, vL 0), (4, .ref r30468), (0, .ref r0), (1, .ref r1), (2, vI a2), (3, vI a3)]) rfl rfl rfl ?_)
  refine wp_of e106 c106_11 (rw_iconst (pc' := 12) rfl ?_)
  refine wp_of e106 c106_12 (rw_istore (pc' := 14) (z := 0) (L' := [(7, vI 0), (5, vL 0), (4, .ref r30468), (0, .ref r0), (1, .ref r1), (2, vI a2), (3, vI a3)]) rfl rfl rfl ?_)
  have lp30693 : ∀ (n30694 : Nat) (v30696 : Int) (v30697 : Int), (0 ≤ v30696 ∧ v30696 ≤ 40) → ((-9223372036854775808) ≤ v30697 ∧ v30697 ≤ 9223372036854775807) → (40 - v30696).toNat = n30694 → wp kt 1 106 14 [(7, vI v30696), (5, vL v30697), (4, .ref r30468), (0, .ref r0), (2, vI a2), (3, vI a3)] [] T H (q_106 r0 r1 a2 a3 T H) := by
    intro n30694
    induction n30694 using Nat.strongRecOn with
    | _ n30694 ih30695 =>
      intro v30696 v30697 b30700 b30701 m30702
      refine wp_of e106 c106_14 (rw_iload (pc' := 16) (z := v30696) rfl rfl ?_)
      refine wp_of e106 c106_16 (rw_aload (pc' := 18) (v := .ref r30468) rfl rfl rfl ?_)
      refine wp_of e106 c106_18 (xg_I (pc' := 21) lf_4_116 hW g30470 sh_35 (by decide) (by decide) ty_35_15 rfl rfl (fun b30703 b30704 => ?_))
      refine wp_of e106 c106_21 (rw_icmp_ge (p1 := 59) (p2 := 24) (by decide) rfl ⟨by omega, by omega⟩ ⟨by omega, by omega⟩ (fun c30705 => ?_) (fun c30705 => ?_))
      · refine wp_of e106 c106_59 (rw_aload_n (pc' := 60) (v := .ref r0) rfl rfl rfl ?_)
        refine wp_of e106 c106_60 (xg_L (pc' := 63) lf_4_66 hW g0 sh_12 (by decide) (by decide) ty_12_6 rfl rfl (fun b30706 b30707 => ?_))
        refine wp_of e106 c106_63 (rw_lconst (pc' := 64) (z := 0) rfl rfl ?_)
        refine wp_of e106 c106_64 (rw_lcmp (pc' := 65) rfl ⟨by omega, by omega⟩ ⟨by omega, by omega⟩ ?_)
        have b30708 := wq_cmp_b (H r0 6) 0
        refine wp_of e106 c106_65 (rw_if_le (p1 := 83) (p2 := 68) (by decide) rfl ⟨by omega, by omega⟩ (fun c30709 => ?_) (fun c30709 => ?_))
        · refine wp_of e106 c106_83 (rw_iconst (pc' := 84) rfl ?_)
          exact wp_ireturn e106 c106_84 rfl ⟨rfl, rfl, 0, rfl, ⟨by omega, by omega⟩⟩
        · refine wp_of e106 c106_68 (rw_lload (pc' := 70) (z := v30697) rfl rfl ?_)
          refine wp_of e106 c106_70 (rw_ldc2 (pc' := 73) (z := 100) rfl rfl rfl ?_)
          refine wp_of e106 c106_73 (rw_lmulw (pc' := 74) rfl ?_)
          obtain ⟨v30710, e30711⟩ : ∃ x : Int, x = wl_w (v30697 * 100) := ⟨_, rfl⟩
          rw [← e30711]
          have b30712 : -9223372036854775808 ≤ v30710 ∧ v30710 ≤ 9223372036854775807 := by
            rw [e30711]
            exact wL_w _
          refine wp_of e106 c106_74 (rw_aload_n (pc' := 75) (v := .ref r0) rfl rfl rfl ?_)
          refine wp_of e106 c106_75 (xg_L (pc' := 78) lf_4_66 hW g0 sh_12 (by decide) (by decide) ty_12_6 rfl rfl (fun b30713 b30714 => ?_))
          refine wp_of e106 c106_78 (rw_ldiv (pc' := 79) rfl ⟨by omega, by omega⟩ (by omega) ?_)
          obtain ⟨v30715, e30716⟩ : ∃ x : Int, x = wl_div v30710 (H r0 6) := ⟨_, rfl⟩
          rw [← e30716]
          have b30717 : -9223372036854775808 ≤ v30715 ∧ v30715 ≤ 9223372036854775807 := by
            rw [e30716]
            exact wL_div _ _
          refine wp_of e106 c106_79 (rw_l2i (pc' := 80) rfl ?_)
          obtain ⟨v30718, e30719⟩ : ∃ x : Int, x = wq_w v30715 := ⟨_, rfl⟩
          rw [← e30719]
          have b30720 : -2147483648 ≤ v30718 ∧ v30718 ≤ 2147483647 := by
            rw [e30719]
            exact wI_w _
          have b30721 : (-2147483648 ≤ v30715 ∧ v30715 ≤ 2147483647) → v30718 = v30715 := by
            rw [e30719]
            exact fun h => wq_w_id h
          refine wp_of e106 c106_80 (rw_goto (p1 := 84) (by decide) ?_)
          exact wp_ireturn e106 c106_84 rfl ⟨rfl, rfl, v30718, rfl, ⟨by omega, by omega⟩⟩
      · refine wp_of e106 c106_24 (rw_aload (pc' := 26) (v := .ref r30468) rfl rfl rfl ?_)
        refine wp_of e106 c106_26 (xg_R (pc' := 29) lf_4_119 hW g30470 sh_35 (by decide) (by decide) ty_35_3 rfl rfl (fun r30722 q30723 g30724 => ?_))
        refine wp_of e106 c106_29 (rw_iload (pc' := 31) (z := v30696) rfl rfl ?_)
        refine wp_of e106 c106_31 (xa_I (so := 0) (pc' := 32) hW g30724 sh_39 (by decide) (ty_39 _) (by omega) (by omega) rfl (fun b30725 b30726 => ?_))
        refine wp_of e106 c106_32 (rw_iload_n (pc' := 33) (z := a3) rfl rfl ?_)
        refine wp_of e106 c106_33 (xc_S (pc' := 36) (as := [vI (H r30722 (v30696.toNat)), vI a3]) (st := []) (lm_4_122) rfl rfl (Nat.le_of_ble_eq_true rfl) rfl (by decide) (s_36 hW ⟨by omega, by omega⟩ ⟨by omega, by omega⟩) (fun R30727 T30728 H30729 p30730 => ?_))
        obtain ⟨e30731, e30733, z30734, e30732, b30735⟩ := p30730
        subst e30731
        subst e30732
        subst e30733
        show wp _ _ 106 36 [(7, vI v30696), (5, vL v30697), (4, .ref r30468), (0, .ref r0), (2, vI a2), (3, vI a3)] [vI z30734] _ H _
        refine wp_of e106 c106_36 (rw_if_eq (p1 := 53) (p2 := 39) (by decide) rfl ⟨by omega, by omega⟩ (fun c30736 => ?_) (fun c30736 => ?_))
        · refine wp_of e106 c106_53 (rw_iinc (pc' := 56) (z := v30696) (L' := [(7, vI (v30696 + 1)), (5, vL v30697), (4, .ref r30468), (0, .ref r0), (2, vI a2), (3, vI a3)]) rfl rfl rfl rfl ?_)
          refine wp_of e106 c106_56 (rw_goto (p1 := 14) (by decide) ?_)
          exact wp_lc (ks := [7, 5, 4, 0, 2, 3]) (wl_c rfl (wl_c rfl (wl_c rfl (wl_c rfl (wl_c rfl (wl_c rfl wl_n)))))) rfl (by decide) (ih30695 _ (by omega) (v30696 + 1) v30697 ⟨by omega, by omega⟩ ⟨by omega, by omega⟩ rfl)
        · refine wp_of e106 c106_39 (rw_lload (pc' := 41) (z := v30697) rfl rfl ?_)
          refine wp_of e106 c106_41 (rw_aload_n (pc' := 42) (v := .ref r0) rfl rfl rfl ?_)
          refine wp_of e106 c106_42 (xg_R (pc' := 45) lf_4_22 hW g0 sh_12 (by decide) (by decide) ty_12_2 rfl rfl (fun r30737 q30738 g30739 => ?_))
          refine wp_of e106 c106_45 (rw_iload_n (pc' := 46) (z := a2) rfl rfl ?_)
          refine wp_of e106 c106_46 (xa_R (pc' := 47) (by decide) hW g30739 sh_16 (by decide) (ty_16 _) (by omega) (by omega) rfl (fun r30740 q30741 g30742 => ?_))
          refine wp_of e106 c106_47 (rw_iload (pc' := 49) (z := v30696) rfl rfl ?_)
          refine wp_of e106 c106_49 (xa_L (pc' := 50) hW g30742 sh_17 (by decide) (ty_17 _) (by omega) (by omega) rfl (fun b30743 b30744 => ?_))
          refine wp_of e106 c106_50 (rw_laddw (pc' := 51) rfl ?_)
          obtain ⟨v30745, e30746⟩ : ∃ x : Int, x = wl_w (v30697 + (H r30740 (v30696.toNat))) := ⟨_, rfl⟩
          rw [← e30746]
          have b30747 : -9223372036854775808 ≤ v30745 ∧ v30745 ≤ 9223372036854775807 := by
            rw [e30746]
            exact wL_w _
          refine wp_of e106 c106_51 (rw_lstore (pc' := 53) (z := v30745) (L' := [(5, vL v30745), (7, vI v30696), (4, .ref r30468), (0, .ref r0), (2, vI a2), (3, vI a3)]) rfl rfl rfl ?_)
          refine wp_of e106 c106_53 (rw_iinc (pc' := 56) (z := v30696) (L' := [(7, vI (v30696 + 1)), (5, vL v30745), (4, .ref r30468), (0, .ref r0), (2, vI a2), (3, vI a3)]) rfl rfl rfl rfl ?_)
          refine wp_of e106 c106_56 (rw_goto (p1 := 14) (by decide) ?_)
          exact wp_lc (ks := [7, 5, 4, 0, 2, 3]) (wl_c rfl (wl_c rfl (wl_c rfl (wl_c rfl (wl_c rfl (wl_c rfl wl_n)))))) rfl (by decide) (ih30695 _ (by omega) (v30696 + 1) v30745 ⟨by omega, by omega⟩ ⟨by omega, by omega⟩ rfl)
  exact wp_lc (ks := [7, 5, 4, 0, 1, 2, 3]) (wl_c rfl (wl_c rfl (wl_c rfl (wl_c rfl (wl_c rfl (wl_c rfl wl_n)))))) rfl (by decide) (lp30693 _ 0 0 ⟨by omega, by omega⟩ ⟨by omega, by omega⟩ rfl)
/-! StrikeAwake.chance(II)I -/
theorem e105 : wq_en 105 = some (0, 4, false, some FieldType.int) := rfl
theorem cg105_0 : mc_cd 105 0 = some (.aload_n 0, 1) ∧ mc_cd 105 1 = some (.aload_n 0, 1) ∧ mc_cd 105 2 = some (.iload_n 1, 1) ∧ mc_cd 105 3 = some (.invokevirtual 105, 3) ∧ mc_cd 105 6 = some (.ifCond .eq 15, 3) ∧ mc_cd 105 9 = some (.aload_n 0, 1) ∧ mc_cd 105 10 = some (.iload_n 2, 1) ∧ mc_cd 105 11 = some (.invokevirtual 132, 3) := by decide +kernel
theorem c105_0 : mc_cd 105 0 = some (.aload_n 0, 1) := cg105_0.1
theorem c105_1 : mc_cd 105 1 = some (.aload_n 0, 1) := cg105_0.2.1
theorem c105_2 : mc_cd 105 2 = some (.iload_n 1, 1) := cg105_0.2.2.1
theorem c105_3 : mc_cd 105 3 = some (.invokevirtual 105, 3) := cg105_0.2.2.2.1
theorem c105_6 : mc_cd 105 6 = some (.ifCond .eq 15, 3) := cg105_0.2.2.2.2.1
theorem c105_9 : mc_cd 105 9 = some (.aload_n 0, 1) := cg105_0.2.2.2.2.2.1
theorem c105_10 : mc_cd 105 10 = some (.iload_n 2, 1) := cg105_0.2.2.2.2.2.2.1
theorem c105_11 : mc_cd 105 11 = some (.invokevirtual 132, 3) := cg105_0.2.2.2.2.2.2.2
theorem cg105_14 : mc_cd 105 14 = some (.ifCond .eq 7, 3) ∧ mc_cd 105 17 = some (.iconst 1, 1) ∧ mc_cd 105 18 = some (.goto 4, 3) ∧ mc_cd 105 21 = some (.iconst 0, 1) ∧ mc_cd 105 22 = some (.invokevirtual 198, 3) ∧ mc_cd 105 25 = some (.istore_n 3, 1) ∧ mc_cd 105 26 = some (.iload_n 3, 1) ∧ mc_cd 105 27 = some (.ifCond .eq 9, 3) := by decide +kernel
theorem c105_14 : mc_cd 105 14 = some (.ifCond .eq 7, 3) := cg105_14.1
theorem c105_17 : mc_cd 105 17 = some (.iconst 1, 1) := cg105_14.2.1
theorem c105_18 : mc_cd 105 18 = some (.goto 4, 3) := cg105_14.2.2.1
theorem c105_21 : mc_cd 105 21 = some (.iconst 0, 1) := cg105_14.2.2.2.1
theorem c105_22 : mc_cd 105 22 = some (.invokevirtual 198, 3) := cg105_14.2.2.2.2.1
theorem c105_25 : mc_cd 105 25 = some (.istore_n 3, 1) := cg105_14.2.2.2.2.2.1
theorem c105_26 : mc_cd 105 26 = some (.iload_n 3, 1) := cg105_14.2.2.2.2.2.2.1
theorem c105_27 : mc_cd 105 27 = some (.ifCond .eq 9, 3) := cg105_14.2.2.2.2.2.2.2
theorem cg105_30 : mc_cd 105 30 = some (.aload_n 0, 1) ∧ mc_cd 105 31 = some (.iload_n 3, 1) ∧ mc_cd 105 32 = some (.invokevirtual 70, 3) ∧ mc_cd 105 35 = some (.ireturn, 1) ∧ mc_cd 105 36 = some (.aload_n 0, 1) ∧ mc_cd 105 37 = some (.aload_n 0, 1) ∧ mc_cd 105 38 = some (.getfield 30, 3) ∧ mc_cd 105 41 = some (.aload_n 0, 1) := by decide +kernel
theorem c105_30 : mc_cd 105 30 = some (.aload_n 0, 1) := cg105_30.1
theorem c105_31 : mc_cd 105 31 = some (.iload_n 3, 1) := cg105_30.2.1
theorem c105_32 : mc_cd 105 32 = some (.invokevirtual 70, 3) := cg105_30.2.2.1
theorem c105_35 : mc_cd 105 35 = some (.ireturn, 1) := cg105_30.2.2.2.1
theorem c105_36 : mc_cd 105 36 = some (.aload_n 0, 1) := cg105_30.2.2.2.2.1
theorem c105_37 : mc_cd 105 37 = some (.aload_n 0, 1) := cg105_30.2.2.2.2.2.1
theorem c105_38 : mc_cd 105 38 = some (.getfield 30, 3) := cg105_30.2.2.2.2.2.2.1
theorem c105_41 : mc_cd 105 41 = some (.aload_n 0, 1) := cg105_30.2.2.2.2.2.2.2
theorem cg105_42 : mc_cd 105 42 = some (.getfield 51, 3) ∧ mc_cd 105 45 = some (.iload_n 1, 1) ∧ mc_cd 105 46 = some (.iload_n 2, 1) ∧ mc_cd 105 47 = some (.invokevirtual 204, 3) ∧ mc_cd 105 50 = some (.invokevirtual 99, 3) ∧ mc_cd 105 53 = some (.ireturn, 1) := by decide +kernel
theorem c105_42 : mc_cd 105 42 = some (.getfield 51, 3) := cg105_42.1
theorem c105_45 : mc_cd 105 45 = some (.iload_n 1, 1) := cg105_42.2.1
theorem c105_46 : mc_cd 105 46 = some (.iload_n 2, 1) := cg105_42.2.2.1
theorem c105_47 : mc_cd 105 47 = some (.invokevirtual 204, 3) := cg105_42.2.2.2.1
theorem c105_50 : mc_cd 105 50 = some (.invokevirtual 99, 3) := cg105_42.2.2.2.2.1
theorem c105_53 : mc_cd 105 53 = some (.ireturn, 1) := cg105_42.2.2.2.2.2
/-! StrikeAwake.likeliest(I)I -/
theorem e107 : wq_en 107 = some (0, 3, false, some FieldType.int) := rfl
theorem cg107_0 : mc_cd 107 0 = some (.aload_n 0, 1) ∧ mc_cd 107 1 = some (.aload_n 0, 1) ∧ mc_cd 107 2 = some (.iload_n 1, 1) ∧ mc_cd 107 3 = some (.invokevirtual 105, 3) ∧ mc_cd 107 6 = some (.invokevirtual 198, 3) ∧ mc_cd 107 9 = some (.istore_n 2, 1) ∧ mc_cd 107 10 = some (.iload_n 2, 1) ∧ mc_cd 107 11 = some (.ifCond .eq 9, 3) := by decide +kernel
theorem c107_0 : mc_cd 107 0 = some (.aload_n 0, 1) := cg107_0.1
theorem c107_1 : mc_cd 107 1 = some (.aload_n 0, 1) := cg107_0.2.1
theorem c107_2 : mc_cd 107 2 = some (.iload_n 1, 1) := cg107_0.2.2.1
theorem c107_3 : mc_cd 107 3 = some (.invokevirtual 105, 3) := cg107_0.2.2.2.1
theorem c107_6 : mc_cd 107 6 = some (.invokevirtual 198, 3) := cg107_0.2.2.2.2.1
theorem c107_9 : mc_cd 107 9 = some (.istore_n 2, 1) := cg107_0.2.2.2.2.2.1
theorem c107_10 : mc_cd 107 10 = some (.iload_n 2, 1) := cg107_0.2.2.2.2.2.2.1
theorem c107_11 : mc_cd 107 11 = some (.ifCond .eq 9, 3) := cg107_0.2.2.2.2.2.2.2
theorem cg107_14 : mc_cd 107 14 = some (.aload_n 0, 1) ∧ mc_cd 107 15 = some (.iload_n 2, 1) ∧ mc_cd 107 16 = some (.invokevirtual 70, 3) ∧ mc_cd 107 19 = some (.ireturn, 1) ∧ mc_cd 107 20 = some (.aload_n 0, 1) ∧ mc_cd 107 21 = some (.aload_n 0, 1) ∧ mc_cd 107 22 = some (.getfield 51, 3) ∧ mc_cd 107 25 = some (.aload_n 0, 1) := by decide +kernel
theorem c107_14 : mc_cd 107 14 = some (.aload_n 0, 1) := cg107_14.1
theorem c107_15 : mc_cd 107 15 = some (.iload_n 2, 1) := cg107_14.2.1
theorem c107_16 : mc_cd 107 16 = some (.invokevirtual 70, 3) := cg107_14.2.2.1
theorem c107_19 : mc_cd 107 19 = some (.ireturn, 1) := cg107_14.2.2.2.1
theorem c107_20 : mc_cd 107 20 = some (.aload_n 0, 1) := cg107_14.2.2.2.2.1
theorem c107_21 : mc_cd 107 21 = some (.aload_n 0, 1) := cg107_14.2.2.2.2.2.1
theorem c107_22 : mc_cd 107 22 = some (.getfield 51, 3) := cg107_14.2.2.2.2.2.2.1
theorem c107_25 : mc_cd 107 25 = some (.aload_n 0, 1) := cg107_14.2.2.2.2.2.2.2
theorem cg107_26 : mc_cd 107 26 = some (.getfield 30, 3) ∧ mc_cd 107 29 = some (.getfield 207, 3) ∧ mc_cd 107 32 = some (.iload_n 1, 1) ∧ mc_cd 107 33 = some (.invokevirtual 183, 3) ∧ mc_cd 107 36 = some (.invokevirtual 99, 3) ∧ mc_cd 107 39 = some (.ireturn, 1) := by decide +kernel
theorem c107_26 : mc_cd 107 26 = some (.getfield 30, 3) := cg107_26.1
theorem c107_29 : mc_cd 107 29 = some (.getfield 207, 3) := cg107_26.2.1
theorem c107_32 : mc_cd 107 32 = some (.iload_n 1, 1) := cg107_26.2.2.1
theorem c107_33 : mc_cd 107 33 = some (.invokevirtual 183, 3) := cg107_26.2.2.2.1
theorem c107_36 : mc_cd 107 36 = some (.invokevirtual 99, 3) := cg107_26.2.2.2.2.1
theorem c107_39 : mc_cd 107 39 = some (.ireturn, 1) := cg107_26.2.2.2.2.2
/-! StrikeAwake.greatest()J -/
theorem e108 : wq_en 108 = some (0, 2, false, some FieldType.long) := rfl
theorem cg108_0 : mc_cd 108 0 = some (.aload_n 0, 1) ∧ mc_cd 108 1 = some (.aload_n 0, 1) ∧ mc_cd 108 2 = some (.getfield 58, 3) ∧ mc_cd 108 5 = some (.invokevirtual 198, 3) ∧ mc_cd 108 8 = some (.istore_n 1, 1) ∧ mc_cd 108 9 = some (.iload_n 1, 1) ∧ mc_cd 108 10 = some (.ifCond .eq 10, 3) ∧ mc_cd 108 13 = some (.aload_n 0, 1) := by decide +kernel
theorem c108_0 : mc_cd 108 0 = some (.aload_n 0, 1) := cg108_0.1
theorem c108_1 : mc_cd 108 1 = some (.aload_n 0, 1) := cg108_0.2.1
theorem c108_2 : mc_cd 108 2 = some (.getfield 58, 3) := cg108_0.2.2.1
theorem c108_5 : mc_cd 108 5 = some (.invokevirtual 198, 3) := cg108_0.2.2.2.1
theorem c108_8 : mc_cd 108 8 = some (.istore_n 1, 1) := cg108_0.2.2.2.2.1
theorem c108_9 : mc_cd 108 9 = some (.iload_n 1, 1) := cg108_0.2.2.2.2.2.1
theorem c108_10 : mc_cd 108 10 = some (.ifCond .eq 10, 3) := cg108_0.2.2.2.2.2.2.1
theorem c108_13 : mc_cd 108 13 = some (.aload_n 0, 1) := cg108_0.2.2.2.2.2.2.2
theorem cg108_14 : mc_cd 108 14 = some (.iload_n 1, 1) ∧ mc_cd 108 15 = some (.invokevirtual 70, 3) ∧ mc_cd 108 18 = some (.i2l, 1) ∧ mc_cd 108 19 = some (.lreturn, 1) ∧ mc_cd 108 20 = some (.aload_n 0, 1) ∧ mc_cd 108 21 = some (.iconst 0, 1) ∧ mc_cd 108 22 = some (.putfield 102, 3) ∧ mc_cd 108 25 = some (.aload_n 0, 1) := by decide +kernel
theorem c108_14 : mc_cd 108 14 = some (.iload_n 1, 1) := cg108_14.1
theorem c108_15 : mc_cd 108 15 = some (.invokevirtual 70, 3) := cg108_14.2.1
theorem c108_18 : mc_cd 108 18 = some (.i2l, 1) := cg108_14.2.2.1
theorem c108_19 : mc_cd 108 19 = some (.lreturn, 1) := cg108_14.2.2.2.1
theorem c108_20 : mc_cd 108 20 = some (.aload_n 0, 1) := cg108_14.2.2.2.2.1
theorem c108_21 : mc_cd 108 21 = some (.iconst 0, 1) := cg108_14.2.2.2.2.2.1
theorem c108_22 : mc_cd 108 22 = some (.putfield 102, 3) := cg108_14.2.2.2.2.2.2.1
theorem c108_25 : mc_cd 108 25 = some (.aload_n 0, 1) := cg108_14.2.2.2.2.2.2.2
theorem cg108_26 : mc_cd 108 26 = some (.getfield 30, 3) ∧ mc_cd 108 29 = some (.getfield 210, 3) ∧ mc_cd 108 32 = some (.lreturn, 1) := by decide +kernel
theorem c108_26 : mc_cd 108 26 = some (.getfield 30, 3) := cg108_26.1
theorem c108_29 : mc_cd 108 29 = some (.getfield 210, 3) := cg108_26.2.1
theorem c108_32 : mc_cd 108 32 = some (.lreturn, 1) := cg108_26.2.2
/-! StrikeAwake$Census.awakeHours(LStrikeAwake$Parish;II)I -/
theorem e111 : wq_en 111 = some (4, 4, false, some FieldType.int) := rfl
theorem cg111_0 : mc_cd 111 0 = some (.aload_n 0, 1) ∧ mc_cd 111 1 = some (.iload_n 1, 1) ∧ mc_cd 111 2 = some (.iload_n 2, 1) ∧ mc_cd 111 3 = some (.invokevirtual 135, 3) ∧ mc_cd 111 6 = some (.istore_n 3, 1) ∧ mc_cd 111 7 = some (.iload_n 3, 1) ∧ mc_cd 111 8 = some (.ifCond .ge 7, 3) ∧ mc_cd 111 11 = some (.iconst 0, 1) := by decide +kernel
theorem c111_0 : mc_cd 111 0 = some (.aload_n 0, 1) := cg111_0.1
theorem c111_1 : mc_cd 111 1 = some (.iload_n 1, 1) := cg111_0.2.1
theorem c111_2 : mc_cd 111 2 = some (.iload_n 2, 1) := cg111_0.2.2.1
theorem c111_3 : mc_cd 111 3 = some (.invokevirtual 135, 3) := cg111_0.2.2.2.1
theorem c111_6 : mc_cd 111 6 = some (.istore_n 3, 1) := cg111_0.2.2.2.2.1
theorem c111_7 : mc_cd 111 7 = some (.iload_n 3, 1) := cg111_0.2.2.2.2.2.1
theorem c111_8 : mc_cd 111 8 = some (.ifCond .ge 7, 3) := cg111_0.2.2.2.2.2.2.1
theorem c111_11 : mc_cd 111 11 = some (.iconst 0, 1) := cg111_0.2.2.2.2.2.2.2
theorem cg111_12 : mc_cd 111 12 = some (.goto 14, 3) ∧ mc_cd 111 15 = some (.aload_n 0, 1) ∧ mc_cd 111 16 = some (.getfield 78, 3) ∧ mc_cd 111 19 = some (.iload_n 2, 1) ∧ mc_cd 111 20 = some (.aaload, 1) ∧ mc_cd 111 21 = some (.getfield 119, 3) ∧ mc_cd 111 24 = some (.iload_n 3, 1) ∧ mc_cd 111 25 = some (.iaload, 1) := by decide +kernel
theorem c111_12 : mc_cd 111 12 = some (.goto 14, 3) := cg111_12.1
theorem c111_15 : mc_cd 111 15 = some (.aload_n 0, 1) := cg111_12.2.1
theorem c111_16 : mc_cd 111 16 = some (.getfield 78, 3) := cg111_12.2.2.1
theorem c111_19 : mc_cd 111 19 = some (.iload_n 2, 1) := cg111_12.2.2.2.1
theorem c111_20 : mc_cd 111 20 = some (.aaload, 1) := cg111_12.2.2.2.2.1
theorem c111_21 : mc_cd 111 21 = some (.getfield 119, 3) := cg111_12.2.2.2.2.2.1
theorem c111_24 : mc_cd 111 24 = some (.iload_n 3, 1) := cg111_12.2.2.2.2.2.2.1
theorem c111_25 : mc_cd 111 25 = some (.iaload, 1) := cg111_12.2.2.2.2.2.2.2
theorem c111_26 : mc_cd 111 26 = some (.ireturn, 1) := by decide +kernel
abbrev q_111 (r0 : Nat) (a1 : Int) (a2 : Int) (T : wq_T) (H : wq_H) : Option Value → wq_T → wq_H → Prop := fun r T' H' => T = T' ∧ H = H' ∧ ∃ z : Int, some (vI z) = r ∧ ((-2147483648) ≤ z ∧ z ≤ 2147483647)
set_option maxHeartbeats 4000000 in
theorem s_111 {kt : Nat → Option mc_E} {T : wq_T} {H : wq_H} {r0 : Nat} {a1 : Int} {a2 : Int} (hW : WT T H) (g0 : T.2.2.2 r0 = some 27) (i1 : 0 ≤ a1 ∧ a1 ≤ 19999) (i2 : 0 ≤ a2 ∧ a2 ≤ 5) : wpc kt 2 111 [.ref r0, vI a1, vI a2] T H (q_111 r0 a1 a2 T H) := by
  refine wp_enter e111 (Nat.le_of_ble_eq_true rfl) rfl ?_
  show wp _ _ 111 0 [(0, .ref r0), (1, vI a1), (2, vI a2)] [] _ H _
  refine wp_of e111 c111_0 (rw_aload_n (pc' := 1) (v := .ref r0) rfl rfl rfl ?_)
  refine wp_of e111 c111_1 (rw_iload_n (pc' := 2) (z := a1) rfl rfl ?_)
  refine wp_of e111 c111_2 (rw_iload_n (pc' := 3) (z := a2) rfl rfl ?_)
  refine wp_of e111 c111_3 (xc_V (pc' := 6) (r := r0) (as := [vI a1, vI a2]) (st := []) (lm_4_135) rfl rfl (Nat.le_of_ble_eq_true rfl) hW g0 sh_27 (by decide) rfl (by decide) (s_96 hW g0 ⟨by omega, by omega⟩ ⟨by omega, by omega⟩) (fun R31205 T31206 H31207 p31208 => ?_))
  obtain ⟨e31209, e31211, z31212, e31210, b31213⟩ := p31208
  subst e31209
  subst e31210
  subst e31211
  show wp _ _ 111 6 [(0, .ref r0), (1, vI a1), (2, vI a2)] [vI z31212] _ H _
  refine wp_of e111 c111_6 (rw_istore_n (pc' := 7) (z := z31212) (L' := [(3, vI z31212), (0, .ref r0), (1, vI a1), (2, vI a2)]) rfl rfl rfl ?_)
  refine wp_of e111 c111_7 (rw_iload_n (pc' := 8) (z := z31212) rfl rfl ?_)
  refine wp_of e111 c111_8 (rw_if_ge (p1 := 15) (p2 := 11) (by decide) rfl ⟨by omega, by omega⟩ (fun c31214 => ?_) (fun c31214 => ?_))
  · refine wp_of e111 c111_15 (rw_aload_n (pc' := 16) (v := .ref r0) rfl rfl rfl ?_)
    refine wp_of e111 c111_16 (xg_R (pc' := 19) lf_4_78 hW g0 sh_27 (by decide) (by decide) ty_27_0 rfl rfl (fun r31215 q31216 g31217 => ?_))
    refine wp_of e111 c111_19 (rw_iload_n (pc' := 20) (z := a2) rfl rfl ?_)
    refine wp_of e111 c111_20 (xa_R (pc' := 21) (by decide) hW g31217 sh_28 (by decide) (ty_28 _) (by omega) (by omega) rfl (fun r31218 q31219 g31220 => ?_))
    refine wp_of e111 c111_21 (xg_R (pc' := 24) lf_4_119 hW g31220 sh_35 (by decide) (by decide) ty_35_3 rfl rfl (fun r31221 q31222 g31223 => ?_))
    refine wp_of e111 c111_24 (rw_iload_n (pc' := 25) (z := z31212) rfl rfl ?_)
    refine wp_of e111 c111_25 (xa_I (so := 0) (pc' := 26) hW g31223 sh_39 (by decide) (ty_39 _) (by omega) (by omega) rfl (fun b31224 b31225 => ?_))
    exact wp_ireturn e111 c111_26 rfl ⟨rfl, rfl, H r31221 (z31212.toNat), rfl, ⟨by omega, by omega⟩⟩
  · refine wp_of e111 c111_11 (rw_iconst (pc' := 12) rfl ?_)
    refine wp_of e111 c111_12 (rw_goto (p1 := 26) (by decide) ?_)
    exact wp_ireturn e111 c111_26 rfl ⟨rfl, rfl, 0, rfl, ⟨by omega, by omega⟩⟩
/-! StrikeAwake$Census.bothAwake(LStrikeAwake$Parish;II)I -/
theorem e110 : wq_en 110 = some (4, 6, false, some FieldType.int) := rfl
theorem cg110_0 : mc_cd 110 0 = some (.iconst 0, 1) ∧ mc_cd 110 1 = some (.istore 4, 2) ∧ mc_cd 110 3 = some (.iconst 0, 1) ∧ mc_cd 110 4 = some (.istore 5, 2) ∧ mc_cd 110 6 = some (.iload 5, 2) ∧ mc_cd 110 8 = some (.i2l, 1) ∧ mc_cd 110 9 = some (.aload_n 1, 1) ∧ mc_cd 110 10 = some (.getfield 45, 3) := by decide +kernel
theorem c110_0 : mc_cd 110 0 = some (.iconst 0, 1) := cg110_0.1
theorem c110_1 : mc_cd 110 1 = some (.istore 4, 2) := cg110_0.2.1
theorem c110_3 : mc_cd 110 3 = some (.iconst 0, 1) := cg110_0.2.2.1
theorem c110_4 : mc_cd 110 4 = some (.istore 5, 2) := cg110_0.2.2.2.1
theorem c110_6 : mc_cd 110 6 = some (.iload 5, 2) := cg110_0.2.2.2.2.1
theorem c110_8 : mc_cd 110 8 = some (.i2l, 1) := cg110_0.2.2.2.2.2.1
theorem c110_9 : mc_cd 110 9 = some (.aload_n 1, 1) := cg110_0.2.2.2.2.2.2.1
theorem c110_10 : mc_cd 110 10 = some (.getfield 45, 3) := cg110_0.2.2.2.2.2.2.2
theorem cg110_13 : mc_cd 110 13 = some (.lcmp, 1) ∧ mc_cd 110 14 = some (.ifCond .ge 46, 3) ∧ mc_cd 110 17 = some (.iload 5, 2) ∧ mc_cd 110 19 = some (.sipush 20000, 3) ∧ mc_cd 110 22 = some (.if_icmp .ge 38, 3) ∧ mc_cd 110 25 = some (.aload_n 0, 1) ∧ mc_cd 110 26 = some (.iload 5, 2) ∧ mc_cd 110 28 = some (.invokevirtual 113, 3) := by decide +kernel
theorem c110_13 : mc_cd 110 13 = some (.lcmp, 1) := cg110_13.1
theorem c110_14 : mc_cd 110 14 = some (.ifCond .ge 46, 3) := cg110_13.2.1
theorem c110_17 : mc_cd 110 17 = some (.iload 5, 2) := cg110_13.2.2.1
theorem c110_19 : mc_cd 110 19 = some (.sipush 20000, 3) := cg110_13.2.2.2.1
theorem c110_22 : mc_cd 110 22 = some (.if_icmp .ge 38, 3) := cg110_13.2.2.2.2.1
theorem c110_25 : mc_cd 110 25 = some (.aload_n 0, 1) := cg110_13.2.2.2.2.2.1
theorem c110_26 : mc_cd 110 26 = some (.iload 5, 2) := cg110_13.2.2.2.2.2.2.1
theorem c110_28 : mc_cd 110 28 = some (.invokevirtual 113, 3) := cg110_13.2.2.2.2.2.2.2
theorem cg110_31 : mc_cd 110 31 = some (.ifCond .eq 23, 3) ∧ mc_cd 110 34 = some (.iload 4, 2) ∧ mc_cd 110 36 = some (.aload_n 1, 1) ∧ mc_cd 110 37 = some (.iload 5, 2) ∧ mc_cd 110 39 = some (.iload_n 2, 1) ∧ mc_cd 110 40 = some (.invokestatic 132, 3) ∧ mc_cd 110 43 = some (.aload_n 1, 1) ∧ mc_cd 110 44 = some (.iload 5, 2) := by decide +kernel
theorem c110_31 : mc_cd 110 31 = some (.ifCond .eq 23, 3) := cg110_31.1
theorem c110_34 : mc_cd 110 34 = some (.iload 4, 2) := cg110_31.2.1
theorem c110_36 : mc_cd 110 36 = some (.aload_n 1, 1) := cg110_31.2.2.1
theorem c110_37 : mc_cd 110 37 = some (.iload 5, 2) := cg110_31.2.2.2.1
theorem c110_39 : mc_cd 110 39 = some (.iload_n 2, 1) := cg110_31.2.2.2.2.1
theorem c110_40 : mc_cd 110 40 = some (.invokestatic 132, 3) := cg110_31.2.2.2.2.2.1
theorem c110_43 : mc_cd 110 43 = some (.aload_n 1, 1) := cg110_31.2.2.2.2.2.2.1
theorem c110_44 : mc_cd 110 44 = some (.iload 5, 2) := cg110_31.2.2.2.2.2.2.2
theorem cg110_46 : mc_cd 110 46 = some (.iload_n 3, 1) ∧ mc_cd 110 47 = some (.invokestatic 132, 3) ∧ mc_cd 110 50 = some (.iand, 1) ∧ mc_cd 110 51 = some (.ior, 1) ∧ mc_cd 110 52 = some (.istore 4, 2) ∧ mc_cd 110 54 = some (.iinc 5 1, 3) ∧ mc_cd 110 57 = some (.goto (-51), 3) ∧ mc_cd 110 60 = some (.iload 4, 2) := by decide +kernel
theorem c110_46 : mc_cd 110 46 = some (.iload_n 3, 1) := cg110_46.1
theorem c110_47 : mc_cd 110 47 = some (.invokestatic 132, 3) := cg110_46.2.1
theorem c110_50 : mc_cd 110 50 = some (.iand, 1) := cg110_46.2.2.1
theorem c110_51 : mc_cd 110 51 = some (.ior, 1) := cg110_46.2.2.2.1
theorem c110_52 : mc_cd 110 52 = some (.istore 4, 2) := cg110_46.2.2.2.2.1
theorem c110_54 : mc_cd 110 54 = some (.iinc 5 1, 3) := cg110_46.2.2.2.2.2.1
theorem c110_57 : mc_cd 110 57 = some (.goto (-51), 3) := cg110_46.2.2.2.2.2.2.1
theorem c110_60 : mc_cd 110 60 = some (.iload 4, 2) := cg110_46.2.2.2.2.2.2.2
theorem c110_62 : mc_cd 110 62 = some (.ireturn, 1) := by decide +kernel
abbrev q_110 (r0 : Nat) (r1 : Nat) (a2 : Int) (a3 : Int) (T : wq_T) (H : wq_H) : Option Value → wq_T → wq_H → Prop := fun r T' H' => T = T' ∧ H = H' ∧ ∃ z : Int, some (vI z) = r ∧ ((-2147483648) ≤ z ∧ z ≤ 2147483647)
set_option maxHeartbeats 4000000 in
theorem s_110 {kt : Nat → Option mc_E} {T : wq_T} {H : wq_H} {r0 : Nat} {r1 : Nat} {a2 : Int} {a3 : Int} (hW : WT T H) (g0 : T.2.2.2 r0 = some 12) (g1 : T.2.2.2 r1 = some 27) (i2 : 0 ≤ a2 ∧ a2 ≤ 5) (i3 : 0 ≤ a3 ∧ a3 ≤ 5) : wpc kt 3 110 [.ref r0, .ref r1, vI a2, vI a3] T H (q_110 r0 r1 a2 a3 T H) := by
  refine wp_enter e110 (Nat.le_of_ble_eq_true rfl) rfl ?_
  show wp _ _ 110 0 [(0, .ref r0), (1, .ref r1), (2, vI a2), (3, vI a3)] [] _ H _
  refine wp_of e110 c110_0 (rw_iconst (pc' := 1) rfl ?_)
  refine wp_of e110 c110_1 (rw_istore (pc' := 3) (z := 0) (L' := [(4, vI 0), (0, .ref r0), (1, .ref r1), (2, vI a2), (3, vI a3)]) rfl rfl rfl ?_)
  refine wp_of e110 c110_3 (rw_iconst (pc' := 4) rfl ?_)
  refine wp_of e110 c110_4 (rw_istore (pc' := 6) (z := 0) (L' := [(5, vI 0), (4, vI 0), (0, .ref r0), (1, .ref r1), (2, vI a2), (3, vI a3)]) rfl rfl rfl ?_)
  have lp31856 : ∀ (n31857 : Nat) (v31859 : Int) (v31860 : Int), (0 ≤ v31859 ∧ v31859 ≤ 20000) → ((-2147483648) ≤ v31860 ∧ v31860 ≤ 2147483647) → (20000 - v31859).toNat = n31857 → wp kt 2 110 6 [(5, vI v31859), (4, vI v31860), (0, .ref r0), (1, .ref r1), (2, vI a2), (3, vI a3)] [] T H (q_110 r0 r1 a2 a3 T H) := by
    intro n31857
    induction n31857 using Nat.strongRecOn with
    | _ n31857 ih31858 =>
      intro v31859 v31860 b31863 b31864 m31865
      refine wp_of e110 c110_6 (rw_iload (pc' := 8) (z := v31859) rfl rfl ?_)
      refine wp_of e110 c110_8 (rw_i2l (pc' := 9) rfl ⟨by omega, by omega⟩ ?_)
      refine wp_of e110 c110_9 (rw_aload_n (pc' := 10) (v := .ref r1) rfl rfl rfl ?_)
      refine wp_of e110 c110_10 (xg_L (pc' := 13) lf_4_45 hW g1 sh_27 (by decide) (by decide) ty_27_18 rfl rfl (fun b31866 b31867 => ?_))
      refine wp_of e110 c110_13 (rw_lcmp (pc' := 14) rfl ⟨by omega, by omega⟩ ⟨by omega, by omega⟩ ?_)
      have b31868 := wq_cmp_b v31859 (H r1 18)
      refine wp_of e110 c110_14 (rw_if_ge (p1 := 60) (p2 := 17) (by decide) rfl ⟨by omega, by omega⟩ (fun c31869 => ?_) (fun c31869 => ?_))
      · refine wp_of e110 c110_60 (rw_iload (pc' := 62) (z := v31860) rfl rfl ?_)
        exact wp_ireturn e110 c110_62 rfl ⟨rfl, rfl, v31860, rfl, ⟨by omega, by omega⟩⟩
      · refine wp_of e110 c110_17 (rw_iload (pc' := 19) (z := v31859) rfl rfl ?_)
        refine wp_of e110 c110_19 (rw_sipush (pc' := 22) (z := 20000) rfl (by decide) ?_)
        refine wp_of e110 c110_22 (rw_icmp_ge (p1 := 60) (p2 := 25) (by decide) rfl ⟨by omega, by omega⟩ ⟨by omega, by omega⟩ (fun c31870 => ?_) (fun c31870 => ?_))
        · refine wp_of e110 c110_60 (rw_iload (pc' := 62) (z := v31860) rfl rfl ?_)
          exact wp_ireturn e110 c110_62 rfl ⟨rfl, rfl, v31860, rfl, ⟨by omega, by omega⟩⟩
        · refine wp_of e110 c110_25 (rw_aload_n (pc' := 26) (v := .ref r0) rfl rfl rfl ?_)
          refine wp_of e110 c110_26 (rw_iload (pc' := 28) (z := v31859) rfl rfl ?_)
          refine wp_of e110 c110_28 (xc_V (pc' := 31) (r := r0) (as := [vI v31859]) (st := []) (lm_4_113) rfl rfl (Nat.le_of_ble_eq_true rfl) hW g0 sh_12 (by decide) rfl (by decide) (s_95 hW g0 ⟨by omega, by omega⟩) (fun R31871 T31872 H31873 p31874 => ?_))
          obtain ⟨e31875, e31877, z31878, e31876, b31879⟩ := p31874
          subst e31875
          subst e31876
          subst e31877
          show wp _ _ 110 31 [(5, vI v31859), (4, vI v31860), (0, .ref r0), (1, .ref r1), (2, vI a2), (3, vI a3)] [vI z31878] _ H _
          refine wp_of e110 c110_31 (rw_if_eq (p1 := 54) (p2 := 34) (by decide) rfl ⟨by omega, by omega⟩ (fun c31880 => ?_) (fun c31880 => ?_))
          · refine wp_of e110 c110_54 (rw_iinc (pc' := 57) (z := v31859) (L' := [(5, vI (v31859 + 1)), (4, vI v31860), (0, .ref r0), (1, .ref r1), (2, vI a2), (3, vI a3)]) rfl rfl rfl rfl ?_)
            refine wp_of e110 c110_57 (rw_goto (p1 := 6) (by decide) ?_)
            exact wp_lc (ks := [5, 4, 0, 1, 2, 3]) (wl_c rfl (wl_c rfl (wl_c rfl (wl_c rfl (wl_c rfl (wl_c rfl wl_n)))))) rfl (by decide) (ih31858 _ (by omega) (v31859 + 1) v31860 ⟨by omega, by omega⟩ ⟨by omega, by omega⟩ rfl)
          · refine wp_of e110 c110_34 (rw_iload (pc' := 36) (z := v31860) rfl rfl ?_)
            refine wp_of e110 c110_36 (rw_aload_n (pc' := 37) (v := .ref r1) rfl rfl rfl ?_)
            refine wp_of e110 c110_37 (rw_iload (pc' := 39) (z := v31859) rfl rfl ?_)
            refine wp_of e110 c110_39 (rw_iload_n (pc' := 40) (z := a2) rfl rfl ?_)
            refine wp_of e110 c110_40 (xc_S (pc' := 43) (as := [.ref r1, vI v31859, vI a2]) (st := [vI v31860]) (lm_4_132) rfl rfl (Nat.le_of_ble_eq_true rfl) rfl (by decide) (s_111 hW g1 ⟨by omega, by omega⟩ ⟨by omega, by omega⟩) (fun R31881 T31882 H31883 p31884 => ?_))
            obtain ⟨e31885, e31887, z31888, e31886, b31889⟩ := p31884
            subst e31885
            subst e31886
            subst e31887
            show wp _ _ 110 43 [(5, vI v31859), (4, vI v31860), (0, .ref r0), (1, .ref r1), (2, vI a2), (3, vI a3)] [vI z31888, vI v31860] _ H _
            refine wp_of e110 c110_43 (rw_aload_n (pc' := 44) (v := .ref r1) rfl rfl rfl ?_)
            refine wp_of e110 c110_44 (rw_iload (pc' := 46) (z := v31859) rfl rfl ?_)
            refine wp_of e110 c110_46 (rw_iload_n (pc' := 47) (z := a3) rfl rfl ?_)
            refine wp_of e110 c110_47 (xc_S (pc' := 50) (as := [.ref r1, vI v31859, vI a3]) (st := [vI z31888, vI v31860]) (lm_4_132) rfl rfl (Nat.le_of_ble_eq_true rfl) rfl (by decide) (s_111 hW g1 ⟨by omega, by omega⟩ ⟨by omega, by omega⟩) (fun R31890 T31891 H31892 p31893 => ?_))
            obtain ⟨e31894, e31896, z31897, e31895, b31898⟩ := p31893
            subst e31894
            subst e31895
            subst e31896
            show wp _ _ 110 50 [(5, vI v31859), (4, vI v31860), (0, .ref r0), (1, .ref r1), (2, vI a2), (3, vI a3)] [vI z31897, vI z31888, vI v31860] _ H _
            refine wp_of e110 c110_50 (rw_iand (pc' := 51) rfl ?_)
            obtain ⟨v31899, e31900⟩ : ∃ x : Int, x = wq_and z31888 z31897 := ⟨_, rfl⟩
            rw [← e31900]
            have b31901 : -2147483648 ≤ v31899 ∧ v31899 ≤ 2147483647 := by
              rw [e31900]
              exact wI_and _ _
            refine wp_of e110 c110_51 (rw_ior (pc' := 52) rfl ?_)
            obtain ⟨v31902, e31903⟩ : ∃ x : Int, x = wq_or v31860 v31899 := ⟨_, rfl⟩
            rw [← e31903]
            have b31904 : -2147483648 ≤ v31902 ∧ v31902 ≤ 2147483647 := by
              rw [e31903]
              exact wI_or _ _
            refine wp_of e110 c110_52 (rw_istore (pc' := 54) (z := v31902) (L' := [(4, vI v31902), (5, vI v31859), (0, .ref r0), (1, .ref r1), (2, vI a2), (3, vI a3)]) rfl rfl rfl ?_)
            refine wp_of e110 c110_54 (rw_iinc (pc' := 57) (z := v31859) (L' := [(5, vI (v31859 + 1)), (4, vI v31902), (0, .ref r0), (1, .ref r1), (2, vI a2), (3, vI a3)]) rfl rfl rfl rfl ?_)
            refine wp_of e110 c110_57 (rw_goto (p1 := 6) (by decide) ?_)
            exact wp_lc (ks := [5, 4, 0, 1, 2, 3]) (wl_c rfl (wl_c rfl (wl_c rfl (wl_c rfl (wl_c rfl (wl_c rfl wl_n)))))) rfl (by decide) (ih31858 _ (by omega) (v31859 + 1) v31902 ⟨by omega, by omega⟩ ⟨by omega, by omega⟩ rfl)
  exact wp_lc (ks := [5, 4, 0, 1, 2, 3]) (wl_c rfl (wl_c rfl (wl_c rfl (wl_c rfl (wl_c rfl (wl_c rfl wl_n)))))) rfl (by decide) (lp31856 _ 0 0 ⟨by omega, by omega⟩ ⟨by omega, by omega⟩ rfl)
/-! StrikeAwake.together(II)I -/
theorem e109 : wq_en 109 = some (0, 4, false, some FieldType.int) := rfl
theorem cg109_0 : mc_cd 109 0 = some (.aload_n 0, 1) ∧ mc_cd 109 1 = some (.aload_n 0, 1) ∧ mc_cd 109 2 = some (.iload_n 1, 1) ∧ mc_cd 109 3 = some (.invokevirtual 105, 3) ∧ mc_cd 109 6 = some (.ifCond .eq 20, 3) ∧ mc_cd 109 9 = some (.aload_n 0, 1) ∧ mc_cd 109 10 = some (.iload_n 2, 1) ∧ mc_cd 109 11 = some (.invokevirtual 105, 3) := by decide +kernel
theorem c109_0 : mc_cd 109 0 = some (.aload_n 0, 1) := cg109_0.1
theorem c109_1 : mc_cd 109 1 = some (.aload_n 0, 1) := cg109_0.2.1
theorem c109_2 : mc_cd 109 2 = some (.iload_n 1, 1) := cg109_0.2.2.1
theorem c109_3 : mc_cd 109 3 = some (.invokevirtual 105, 3) := cg109_0.2.2.2.1
theorem c109_6 : mc_cd 109 6 = some (.ifCond .eq 20, 3) := cg109_0.2.2.2.2.1
theorem c109_9 : mc_cd 109 9 = some (.aload_n 0, 1) := cg109_0.2.2.2.2.2.1
theorem c109_10 : mc_cd 109 10 = some (.iload_n 2, 1) := cg109_0.2.2.2.2.2.2.1
theorem c109_11 : mc_cd 109 11 = some (.invokevirtual 105, 3) := cg109_0.2.2.2.2.2.2.2
theorem cg109_14 : mc_cd 109 14 = some (.ifCond .eq 12, 3) ∧ mc_cd 109 17 = some (.iload_n 1, 1) ∧ mc_cd 109 18 = some (.iload_n 2, 1) ∧ mc_cd 109 19 = some (.if_icmp .eq 7, 3) ∧ mc_cd 109 22 = some (.iconst 1, 1) ∧ mc_cd 109 23 = some (.goto 4, 3) ∧ mc_cd 109 26 = some (.iconst 0, 1) ∧ mc_cd 109 27 = some (.invokevirtual 174, 3) := by decide +kernel
theorem c109_14 : mc_cd 109 14 = some (.ifCond .eq 12, 3) := cg109_14.1
theorem c109_17 : mc_cd 109 17 = some (.iload_n 1, 1) := cg109_14.2.1
theorem c109_18 : mc_cd 109 18 = some (.iload_n 2, 1) := cg109_14.2.2.1
theorem c109_19 : mc_cd 109 19 = some (.if_icmp .eq 7, 3) := cg109_14.2.2.2.1
theorem c109_22 : mc_cd 109 22 = some (.iconst 1, 1) := cg109_14.2.2.2.2.1
theorem c109_23 : mc_cd 109 23 = some (.goto 4, 3) := cg109_14.2.2.2.2.2.1
theorem c109_26 : mc_cd 109 26 = some (.iconst 0, 1) := cg109_14.2.2.2.2.2.2.1
theorem c109_27 : mc_cd 109 27 = some (.invokevirtual 174, 3) := cg109_14.2.2.2.2.2.2.2
theorem cg109_30 : mc_cd 109 30 = some (.istore_n 3, 1) ∧ mc_cd 109 31 = some (.iload_n 3, 1) ∧ mc_cd 109 32 = some (.ifCond .eq 9, 3) ∧ mc_cd 109 35 = some (.aload_n 0, 1) ∧ mc_cd 109 36 = some (.iload_n 3, 1) ∧ mc_cd 109 37 = some (.invokevirtual 70, 3) ∧ mc_cd 109 40 = some (.ireturn, 1) ∧ mc_cd 109 41 = some (.aload_n 0, 1) := by decide +kernel
theorem c109_30 : mc_cd 109 30 = some (.istore_n 3, 1) := cg109_30.1
theorem c109_31 : mc_cd 109 31 = some (.iload_n 3, 1) := cg109_30.2.1
theorem c109_32 : mc_cd 109 32 = some (.ifCond .eq 9, 3) := cg109_30.2.2.1
theorem c109_35 : mc_cd 109 35 = some (.aload_n 0, 1) := cg109_30.2.2.2.1
theorem c109_36 : mc_cd 109 36 = some (.iload_n 3, 1) := cg109_30.2.2.2.2.1
theorem c109_37 : mc_cd 109 37 = some (.invokevirtual 70, 3) := cg109_30.2.2.2.2.2.1
theorem c109_40 : mc_cd 109 40 = some (.ireturn, 1) := cg109_30.2.2.2.2.2.2.1
theorem c109_41 : mc_cd 109 41 = some (.aload_n 0, 1) := cg109_30.2.2.2.2.2.2.2
theorem cg109_42 : mc_cd 109 42 = some (.aload_n 0, 1) ∧ mc_cd 109 43 = some (.getfield 30, 3) ∧ mc_cd 109 46 = some (.aload_n 0, 1) ∧ mc_cd 109 47 = some (.getfield 51, 3) ∧ mc_cd 109 50 = some (.iload_n 1, 1) ∧ mc_cd 109 51 = some (.iload_n 2, 1) ∧ mc_cd 109 52 = some (.invokevirtual 213, 3) ∧ mc_cd 109 55 = some (.invokevirtual 99, 3) := by decide +kernel
theorem c109_42 : mc_cd 109 42 = some (.aload_n 0, 1) := cg109_42.1
theorem c109_43 : mc_cd 109 43 = some (.getfield 30, 3) := cg109_42.2.1
theorem c109_46 : mc_cd 109 46 = some (.aload_n 0, 1) := cg109_42.2.2.1
theorem c109_47 : mc_cd 109 47 = some (.getfield 51, 3) := cg109_42.2.2.2.1
theorem c109_50 : mc_cd 109 50 = some (.iload_n 1, 1) := cg109_42.2.2.2.2.1
theorem c109_51 : mc_cd 109 51 = some (.iload_n 2, 1) := cg109_42.2.2.2.2.2.1
theorem c109_52 : mc_cd 109 52 = some (.invokevirtual 213, 3) := cg109_42.2.2.2.2.2.2.1
theorem c109_55 : mc_cd 109 55 = some (.invokevirtual 99, 3) := cg109_42.2.2.2.2.2.2.2
theorem c109_58 : mc_cd 109 58 = some (.ireturn, 1) := by decide +kernel
/-! StrikeAwake$Census.spansHeld(LStrikeAwake$Parish;I)J -/
theorem e113 : wq_en 113 = some (4, 6, false, some FieldType.long) := rfl
theorem cg113_0 : mc_cd 113 0 = some (.lconst 0, 1) ∧ mc_cd 113 1 = some (.lstore_n 3, 1) ∧ mc_cd 113 2 = some (.iconst 0, 1) ∧ mc_cd 113 3 = some (.istore 5, 2) ∧ mc_cd 113 5 = some (.iload 5, 2) ∧ mc_cd 113 7 = some (.aload_n 1, 1) ∧ mc_cd 113 8 = some (.getfield 78, 3) ∧ mc_cd 113 11 = some (.iload_n 2, 1) := by decide +kernel
theorem c113_0 : mc_cd 113 0 = some (.lconst 0, 1) := cg113_0.1
theorem c113_1 : mc_cd 113 1 = some (.lstore_n 3, 1) := cg113_0.2.1
theorem c113_2 : mc_cd 113 2 = some (.iconst 0, 1) := cg113_0.2.2.1
theorem c113_3 : mc_cd 113 3 = some (.istore 5, 2) := cg113_0.2.2.2.1
theorem c113_5 : mc_cd 113 5 = some (.iload 5, 2) := cg113_0.2.2.2.2.1
theorem c113_7 : mc_cd 113 7 = some (.aload_n 1, 1) := cg113_0.2.2.2.2.2.1
theorem c113_8 : mc_cd 113 8 = some (.getfield 78, 3) := cg113_0.2.2.2.2.2.2.1
theorem c113_11 : mc_cd 113 11 = some (.iload_n 2, 1) := cg113_0.2.2.2.2.2.2.2
theorem cg113_12 : mc_cd 113 12 = some (.aaload, 1) ∧ mc_cd 113 13 = some (.getfield 116, 3) ∧ mc_cd 113 16 = some (.if_icmp .ge 28, 3) ∧ mc_cd 113 19 = some (.aload_n 0, 1) ∧ mc_cd 113 20 = some (.getfield 17, 3) ∧ mc_cd 113 23 = some (.iload_n 2, 1) ∧ mc_cd 113 24 = some (.aaload, 1) ∧ mc_cd 113 25 = some (.iload 5, 2) := by decide +kernel
theorem c113_12 : mc_cd 113 12 = some (.aaload, 1) := cg113_12.1
theorem c113_13 : mc_cd 113 13 = some (.getfield 116, 3) := cg113_12.2.1
theorem c113_16 : mc_cd 113 16 = some (.if_icmp .ge 28, 3) := cg113_12.2.2.1
theorem c113_19 : mc_cd 113 19 = some (.aload_n 0, 1) := cg113_12.2.2.2.1
theorem c113_20 : mc_cd 113 20 = some (.getfield 17, 3) := cg113_12.2.2.2.2.1
theorem c113_23 : mc_cd 113 23 = some (.iload_n 2, 1) := cg113_12.2.2.2.2.2.1
theorem c113_24 : mc_cd 113 24 = some (.aaload, 1) := cg113_12.2.2.2.2.2.2.1
theorem c113_25 : mc_cd 113 25 = some (.iload 5, 2) := cg113_12.2.2.2.2.2.2.2
theorem cg113_27 : mc_cd 113 27 = some (.iaload, 1) ∧ mc_cd 113 28 = some (.ifCond .le 10, 3) ∧ mc_cd 113 31 = some (.lload_n 3, 1) ∧ mc_cd 113 32 = some (.lconst 1, 1) ∧ mc_cd 113 33 = some (.iload 5, 2) ∧ mc_cd 113 35 = some (.lshl, 1) ∧ mc_cd 113 36 = some (.lor, 1) ∧ mc_cd 113 37 = some (.lstore_n 3, 1) := by decide +kernel
theorem c113_27 : mc_cd 113 27 = some (.iaload, 1) := cg113_27.1
theorem c113_28 : mc_cd 113 28 = some (.ifCond .le 10, 3) := cg113_27.2.1
theorem c113_31 : mc_cd 113 31 = some (.lload_n 3, 1) := cg113_27.2.2.1
theorem c113_32 : mc_cd 113 32 = some (.lconst 1, 1) := cg113_27.2.2.2.1
theorem c113_33 : mc_cd 113 33 = some (.iload 5, 2) := cg113_27.2.2.2.2.1
theorem c113_35 : mc_cd 113 35 = some (.lshl, 1) := cg113_27.2.2.2.2.2.1
theorem c113_36 : mc_cd 113 36 = some (.lor, 1) := cg113_27.2.2.2.2.2.2.1
theorem c113_37 : mc_cd 113 37 = some (.lstore_n 3, 1) := cg113_27.2.2.2.2.2.2.2
theorem cg113_38 : mc_cd 113 38 = some (.iinc 5 1, 3) ∧ mc_cd 113 41 = some (.goto (-36), 3) ∧ mc_cd 113 44 = some (.lload_n 3, 1) ∧ mc_cd 113 45 = some (.lreturn, 1) := by decide +kernel
theorem c113_38 : mc_cd 113 38 = some (.iinc 5 1, 3) := cg113_38.1
theorem c113_41 : mc_cd 113 41 = some (.goto (-36), 3) := cg113_38.2.1
theorem c113_44 : mc_cd 113 44 = some (.lload_n 3, 1) := cg113_38.2.2.1
theorem c113_45 : mc_cd 113 45 = some (.lreturn, 1) := cg113_38.2.2.2
abbrev q_113 (r0 : Nat) (r1 : Nat) (a2 : Int) (T : wq_T) (H : wq_H) : Option Value → wq_T → wq_H → Prop := fun r T' H' => T = T' ∧ H = H' ∧ ∃ z : Int, some (vL z) = r ∧ ((-9223372036854775808) ≤ z ∧ z ≤ 9223372036854775807)
set_option maxHeartbeats 4000000 in
theorem s_113 {kt : Nat → Option mc_E} {T : wq_T} {H : wq_H} {r0 : Nat} {r1 : Nat} {a2 : Int} (hW : WT T H) (g0 : T.2.2.2 r0 = some 12) (g1 : T.2.2.2 r1 = some 27) (i2 : 0 ≤ a2 ∧ a2 ≤ 5) : wpc kt 1 113 [.ref r0, .ref r1, vI a2] T H (q_113 r0 r1 a2 T H) := by
  refine wp_enter e113 (Nat.le_of_ble_eq_true rfl) rfl ?_
  show wp _ _ 113 0 [(0, .ref r0), (1, .ref r1), (2, vI a2)] [] _ H _
  refine wp_of e113 c113_0 (rw_lconst (pc' := 1) (z := 0) rfl rfl ?_)
  refine wp_of e113 c113_1 (rw_lstore_n (pc' := 2) (z := 0) (L' := [(3, vL 0), (0, .ref r0), (1, .ref r1), (2, vI a2)]) rfl rfl rfl ?_)
  refine wp_of e113 c113_2 (rw_iconst (pc' := 3) rfl ?_)
  refine wp_of e113 c113_3 (rw_istore (pc' := 5) (z := 0) (L' := [(5, vI 0), (3, vL 0), (0, .ref r0), (1, .ref r1), (2, vI a2)]) rfl rfl rfl ?_)
  have lp32570 : ∀ (n32571 : Nat) (v32573 : Int) (v32574 : Int), (0 ≤ v32573 ∧ v32573 ≤ 40) → ((-9223372036854775808) ≤ v32574 ∧ v32574 ≤ 9223372036854775807) → (40 - v32573).toNat = n32571 → wp kt 0 113 5 [(5, vI v32573), (3, vL v32574), (0, .ref r0), (1, .ref r1), (2, vI a2)] [] T H (q_113 r0 r1 a2 T H) := by
    intro n32571
    induction n32571 using Nat.strongRecOn with
    | _ n32571 ih32572 =>
      intro v32573 v32574 b32577 b32578 m32579
      refine wp_of e113 c113_5 (rw_iload (pc' := 7) (z := v32573) rfl rfl ?_)
      refine wp_of e113 c113_7 (rw_aload_n (pc' := 8) (v := .ref r1) rfl rfl rfl ?_)
      refine wp_of e113 c113_8 (xg_R (pc' := 11) lf_4_78 hW g1 sh_27 (by decide) (by decide) ty_27_0 rfl rfl (fun r32580 q32581 g32582 => ?_))
      refine wp_of e113 c113_11 (rw_iload_n (pc' := 12) (z := a2) rfl rfl ?_)
      refine wp_of e113 c113_12 (xa_R (pc' := 13) (by decide) hW g32582 sh_28 (by decide) (ty_28 _) (by omega) (by omega) rfl (fun r32583 q32584 g32585 => ?_))
      refine wp_of e113 c113_13 (xg_I (pc' := 16) lf_4_116 hW g32585 sh_35 (by decide) (by decide) ty_35_15 rfl rfl (fun b32586 b32587 => ?_))
      refine wp_of e113 c113_16 (rw_icmp_ge (p1 := 44) (p2 := 19) (by decide) rfl ⟨by omega, by omega⟩ ⟨by omega, by omega⟩ (fun c32588 => ?_) (fun c32588 => ?_))
      · refine wp_of e113 c113_44 (rw_lload_n (pc' := 45) (z := v32574) rfl rfl ?_)
        exact wp_lreturn e113 c113_45 rfl ⟨rfl, rfl, v32574, rfl, ⟨by omega, by omega⟩⟩
      · refine wp_of e113 c113_19 (rw_aload_n (pc' := 20) (v := .ref r0) rfl rfl rfl ?_)
        refine wp_of e113 c113_20 (xg_R (pc' := 23) lf_4_17 hW g0 sh_12 (by decide) (by decide) ty_12_1 rfl rfl (fun r32589 q32590 g32591 => ?_))
        refine wp_of e113 c113_23 (rw_iload_n (pc' := 24) (z := a2) rfl rfl ?_)
        refine wp_of e113 c113_24 (xa_R (pc' := 25) (by decide) hW g32591 sh_14 (by decide) (ty_14 _) (by omega) (by omega) rfl (fun r32592 q32593 g32594 => ?_))
        refine wp_of e113 c113_25 (rw_iload (pc' := 27) (z := v32573) rfl rfl ?_)
        refine wp_of e113 c113_27 (xa_I (so := 0) (pc' := 28) hW g32594 sh_15 (by decide) (ty_15 _) (by omega) (by omega) rfl (fun b32595 b32596 => ?_))
        refine wp_of e113 c113_28 (rw_if_le (p1 := 38) (p2 := 31) (by decide) rfl ⟨by omega, by omega⟩ (fun c32597 => ?_) (fun c32597 => ?_))
        · refine wp_of e113 c113_38 (rw_iinc (pc' := 41) (z := v32573) (L' := [(5, vI (v32573 + 1)), (3, vL v32574), (0, .ref r0), (1, .ref r1), (2, vI a2)]) rfl rfl rfl rfl ?_)
          refine wp_of e113 c113_41 (rw_goto (p1 := 5) (by decide) ?_)
          exact wp_lc (ks := [5, 3, 0, 1, 2]) (wl_c rfl (wl_c rfl (wl_c rfl (wl_c rfl (wl_c rfl wl_n))))) rfl (by decide) (ih32572 _ (by omega) (v32573 + 1) v32574 ⟨by omega, by omega⟩ ⟨by omega, by omega⟩ rfl)
        · refine wp_of e113 c113_31 (rw_lload_n (pc' := 32) (z := v32574) rfl rfl ?_)
          refine wp_of e113 c113_32 (rw_lconst (pc' := 33) (z := 1) rfl rfl ?_)
          refine wp_of e113 c113_33 (rw_iload (pc' := 35) (z := v32573) rfl rfl ?_)
          refine wp_of e113 c113_35 (rw_lshl (pc' := 36) rfl ?_)
          obtain ⟨v32598, e32599⟩ : ∃ x : Int, x = wl_shl 1 v32573 := ⟨_, rfl⟩
          rw [← e32599]
          have b32600 : -9223372036854775808 ≤ v32598 ∧ v32598 ≤ 9223372036854775807 := by
            rw [e32599]
            exact wL_shl _ _
          refine wp_of e113 c113_36 (rw_lor (pc' := 37) rfl ?_)
          obtain ⟨v32601, e32602⟩ : ∃ x : Int, x = wl_or v32574 v32598 := ⟨_, rfl⟩
          rw [← e32602]
          have b32603 : -9223372036854775808 ≤ v32601 ∧ v32601 ≤ 9223372036854775807 := by
            rw [e32602]
            exact wL_or _ _
          refine wp_of e113 c113_37 (rw_lstore_n (pc' := 38) (z := v32601) (L' := [(3, vL v32601), (5, vI v32573), (0, .ref r0), (1, .ref r1), (2, vI a2)]) rfl rfl rfl ?_)
          refine wp_of e113 c113_38 (rw_iinc (pc' := 41) (z := v32573) (L' := [(5, vI (v32573 + 1)), (3, vL v32601), (0, .ref r0), (1, .ref r1), (2, vI a2)]) rfl rfl rfl rfl ?_)
          refine wp_of e113 c113_41 (rw_goto (p1 := 5) (by decide) ?_)
          exact wp_lc (ks := [5, 3, 0, 1, 2]) (wl_c rfl (wl_c rfl (wl_c rfl (wl_c rfl (wl_c rfl wl_n))))) rfl (by decide) (ih32572 _ (by omega) (v32573 + 1) v32601 ⟨by omega, by omega⟩ ⟨by omega, by omega⟩ rfl)
  exact wp_lc (ks := [5, 3, 0, 1, 2]) (wl_c rfl (wl_c rfl (wl_c rfl (wl_c rfl (wl_c rfl wl_n))))) rfl (by decide) (lp32570 _ 0 0 ⟨by omega, by omega⟩ ⟨by omega, by omega⟩ rfl)
/-! StrikeAwake.possible(I)J -/
theorem e112 : wq_en 112 = some (0, 3, false, some FieldType.long) := rfl
theorem cg112_0 : mc_cd 112 0 = some (.aload_n 0, 1) ∧ mc_cd 112 1 = some (.aload_n 0, 1) ∧ mc_cd 112 2 = some (.iload_n 1, 1) ∧ mc_cd 112 3 = some (.invokevirtual 105, 3) ∧ mc_cd 112 6 = some (.invokevirtual 174, 3) ∧ mc_cd 112 9 = some (.istore_n 2, 1) ∧ mc_cd 112 10 = some (.iload_n 2, 1) ∧ mc_cd 112 11 = some (.ifCond .eq 10, 3) := by decide +kernel
theorem c112_0 : mc_cd 112 0 = some (.aload_n 0, 1) := cg112_0.1
theorem c112_1 : mc_cd 112 1 = some (.aload_n 0, 1) := cg112_0.2.1
theorem c112_2 : mc_cd 112 2 = some (.iload_n 1, 1) := cg112_0.2.2.1
theorem c112_3 : mc_cd 112 3 = some (.invokevirtual 105, 3) := cg112_0.2.2.2.1
theorem c112_6 : mc_cd 112 6 = some (.invokevirtual 174, 3) := cg112_0.2.2.2.2.1
theorem c112_9 : mc_cd 112 9 = some (.istore_n 2, 1) := cg112_0.2.2.2.2.2.1
theorem c112_10 : mc_cd 112 10 = some (.iload_n 2, 1) := cg112_0.2.2.2.2.2.2.1
theorem c112_11 : mc_cd 112 11 = some (.ifCond .eq 10, 3) := cg112_0.2.2.2.2.2.2.2
theorem cg112_14 : mc_cd 112 14 = some (.aload_n 0, 1) ∧ mc_cd 112 15 = some (.iload_n 2, 1) ∧ mc_cd 112 16 = some (.invokevirtual 70, 3) ∧ mc_cd 112 19 = some (.i2l, 1) ∧ mc_cd 112 20 = some (.lreturn, 1) ∧ mc_cd 112 21 = some (.aload_n 0, 1) ∧ mc_cd 112 22 = some (.iconst 0, 1) ∧ mc_cd 112 23 = some (.putfield 102, 3) := by decide +kernel
theorem c112_14 : mc_cd 112 14 = some (.aload_n 0, 1) := cg112_14.1
theorem c112_15 : mc_cd 112 15 = some (.iload_n 2, 1) := cg112_14.2.1
theorem c112_16 : mc_cd 112 16 = some (.invokevirtual 70, 3) := cg112_14.2.2.1
theorem c112_19 : mc_cd 112 19 = some (.i2l, 1) := cg112_14.2.2.2.1
theorem c112_20 : mc_cd 112 20 = some (.lreturn, 1) := cg112_14.2.2.2.2.1
theorem c112_21 : mc_cd 112 21 = some (.aload_n 0, 1) := cg112_14.2.2.2.2.2.1
theorem c112_22 : mc_cd 112 22 = some (.iconst 0, 1) := cg112_14.2.2.2.2.2.2.1
theorem c112_23 : mc_cd 112 23 = some (.putfield 102, 3) := cg112_14.2.2.2.2.2.2.2
theorem cg112_26 : mc_cd 112 26 = some (.aload_n 0, 1) ∧ mc_cd 112 27 = some (.getfield 30, 3) ∧ mc_cd 112 30 = some (.aload_n 0, 1) ∧ mc_cd 112 31 = some (.getfield 51, 3) ∧ mc_cd 112 34 = some (.iload_n 1, 1) ∧ mc_cd 112 35 = some (.invokevirtual 216, 3) ∧ mc_cd 112 38 = some (.lreturn, 1) := by decide +kernel
theorem c112_26 : mc_cd 112 26 = some (.aload_n 0, 1) := cg112_26.1
theorem c112_27 : mc_cd 112 27 = some (.getfield 30, 3) := cg112_26.2.1
theorem c112_30 : mc_cd 112 30 = some (.aload_n 0, 1) := cg112_26.2.2.1
theorem c112_31 : mc_cd 112 31 = some (.getfield 51, 3) := cg112_26.2.2.2.1
theorem c112_34 : mc_cd 112 34 = some (.iload_n 1, 1) := cg112_26.2.2.2.2.1
theorem c112_35 : mc_cd 112 35 = some (.invokevirtual 216, 3) := cg112_26.2.2.2.2.2.1
theorem c112_38 : mc_cd 112 38 = some (.lreturn, 1) := cg112_26.2.2.2.2.2.2
/-! StrikeAwake$Census.peopleAwake(LStrikeAwake$Parish;II)I -/
theorem e116 : wq_en 116 = some (4, 5, false, some FieldType.int) := rfl
theorem cg116_0 : mc_cd 116 0 = some (.iconst 0, 1) ∧ mc_cd 116 1 = some (.istore_n 3, 1) ∧ mc_cd 116 2 = some (.iconst 0, 1) ∧ mc_cd 116 3 = some (.istore 4, 2) ∧ mc_cd 116 5 = some (.iload 4, 2) ∧ mc_cd 116 7 = some (.aload_n 0, 1) ∧ mc_cd 116 8 = some (.getfield 75, 3) ∧ mc_cd 116 11 = some (.if_icmp .ge 30, 3) := by decide +kernel
theorem c116_0 : mc_cd 116 0 = some (.iconst 0, 1) := cg116_0.1
theorem c116_1 : mc_cd 116 1 = some (.istore_n 3, 1) := cg116_0.2.1
theorem c116_2 : mc_cd 116 2 = some (.iconst 0, 1) := cg116_0.2.2.1
theorem c116_3 : mc_cd 116 3 = some (.istore 4, 2) := cg116_0.2.2.2.1
theorem c116_5 : mc_cd 116 5 = some (.iload 4, 2) := cg116_0.2.2.2.2.1
theorem c116_7 : mc_cd 116 7 = some (.aload_n 0, 1) := cg116_0.2.2.2.2.2.1
theorem c116_8 : mc_cd 116 8 = some (.getfield 75, 3) := cg116_0.2.2.2.2.2.2.1
theorem c116_11 : mc_cd 116 11 = some (.if_icmp .ge 30, 3) := cg116_0.2.2.2.2.2.2.2
theorem cg116_14 : mc_cd 116 14 = some (.aload_n 0, 1) ∧ mc_cd 116 15 = some (.iload_n 1, 1) ∧ mc_cd 116 16 = some (.iload 4, 2) ∧ mc_cd 116 18 = some (.invokestatic 132, 3) ∧ mc_cd 116 21 = some (.iload_n 2, 1) ∧ mc_cd 116 22 = some (.invokestatic 122, 3) ∧ mc_cd 116 25 = some (.ifCond .eq 10, 3) ∧ mc_cd 116 28 = some (.iload_n 3, 1) := by decide +kernel
theorem c116_14 : mc_cd 116 14 = some (.aload_n 0, 1) := cg116_14.1
theorem c116_15 : mc_cd 116 15 = some (.iload_n 1, 1) := cg116_14.2.1
theorem c116_16 : mc_cd 116 16 = some (.iload 4, 2) := cg116_14.2.2.1
theorem c116_18 : mc_cd 116 18 = some (.invokestatic 132, 3) := cg116_14.2.2.2.1
theorem c116_21 : mc_cd 116 21 = some (.iload_n 2, 1) := cg116_14.2.2.2.2.1
theorem c116_22 : mc_cd 116 22 = some (.invokestatic 122, 3) := cg116_14.2.2.2.2.2.1
theorem c116_25 : mc_cd 116 25 = some (.ifCond .eq 10, 3) := cg116_14.2.2.2.2.2.2.1
theorem c116_28 : mc_cd 116 28 = some (.iload_n 3, 1) := cg116_14.2.2.2.2.2.2.2
theorem cg116_29 : mc_cd 116 29 = some (.iconst 1, 1) ∧ mc_cd 116 30 = some (.iload 4, 2) ∧ mc_cd 116 32 = some (.ishl, 1) ∧ mc_cd 116 33 = some (.ior, 1) ∧ mc_cd 116 34 = some (.istore_n 3, 1) ∧ mc_cd 116 35 = some (.iinc 4 1, 3) ∧ mc_cd 116 38 = some (.goto (-33), 3) ∧ mc_cd 116 41 = some (.iload_n 3, 1) := by decide +kernel
theorem c116_29 : mc_cd 116 29 = some (.iconst 1, 1) := cg116_29.1
theorem c116_30 : mc_cd 116 30 = some (.iload 4, 2) := cg116_29.2.1
theorem c116_32 : mc_cd 116 32 = some (.ishl, 1) := cg116_29.2.2.1
theorem c116_33 : mc_cd 116 33 = some (.ior, 1) := cg116_29.2.2.2.1
theorem c116_34 : mc_cd 116 34 = some (.istore_n 3, 1) := cg116_29.2.2.2.2.1
theorem c116_35 : mc_cd 116 35 = some (.iinc 4 1, 3) := cg116_29.2.2.2.2.2.1
theorem c116_38 : mc_cd 116 38 = some (.goto (-33), 3) := cg116_29.2.2.2.2.2.2.1
theorem c116_41 : mc_cd 116 41 = some (.iload_n 3, 1) := cg116_29.2.2.2.2.2.2.2
theorem c116_42 : mc_cd 116 42 = some (.ireturn, 1) := by decide +kernel
abbrev q_116 (r0 : Nat) (a1 : Int) (a2 : Int) (T : wq_T) (H : wq_H) : Option Value → wq_T → wq_H → Prop := fun r T' H' => T = T' ∧ H = H' ∧ ∃ z : Int, some (vI z) = r ∧ ((-2147483648) ≤ z ∧ z ≤ 2147483647)
set_option maxHeartbeats 4000000 in
theorem s_116 {kt : Nat → Option mc_E} {T : wq_T} {H : wq_H} {r0 : Nat} {a1 : Int} {a2 : Int} (hW : WT T H) (g0 : T.2.2.2 r0 = some 27) (i1 : 0 ≤ a1 ∧ a1 ≤ 19999) (i2 : (-2147483648) ≤ a2 ∧ a2 ≤ 2147483647) : wpc kt 3 116 [.ref r0, vI a1, vI a2] T H (q_116 r0 a1 a2 T H) := by
  refine wp_enter e116 (Nat.le_of_ble_eq_true rfl) rfl ?_
  show wp _ _ 116 0 [(0, .ref r0), (1, vI a1), (2, vI a2)] [] _ H _
  refine wp_of e116 c116_0 (rw_iconst (pc' := 1) rfl ?_)
  refine wp_of e116 c116_1 (rw_istore_n (pc' := 2) (z := 0) (L' := [(3, vI 0), (0, .ref r0), (1, vI a1), (2, vI a2)]) rfl rfl rfl ?_)
  refine wp_of e116 c116_2 (rw_iconst (pc' := 3) rfl ?_)
  refine wp_of e116 c116_3 (rw_istore (pc' := 5) (z := 0) (L' := [(4, vI 0), (3, vI 0), (0, .ref r0), (1, vI a1), (2, vI a2)]) rfl rfl rfl ?_)
  have lp33103 : ∀ (n33104 : Nat) (v33106 : Int) (v33107 : Int), (0 ≤ v33106 ∧ v33106 ≤ 6) → (0 ≤ v33107 ∧ v33107 ≤ 16777215) → (6 - v33106).toNat = n33104 → wp kt 2 116 5 [(4, vI v33106), (3, vI v33107), (0, .ref r0), (1, vI a1), (2, vI a2)] [] T H (q_116 r0 a1 a2 T H) := by
    intro n33104
    induction n33104 using Nat.strongRecOn with
    | _ n33104 ih33105 =>
      intro v33106 v33107 b33110 b33111 m33112
      refine wp_of e116 c116_5 (rw_iload (pc' := 7) (z := v33106) rfl rfl ?_)
      refine wp_of e116 c116_7 (rw_aload_n (pc' := 8) (v := .ref r0) rfl rfl rfl ?_)
      refine wp_of e116 c116_8 (xg_I (pc' := 11) lf_4_75 hW g0 sh_27 (by decide) (by decide) ty_27_10 rfl rfl (fun b33113 b33114 => ?_))
      refine wp_of e116 c116_11 (rw_icmp_ge (p1 := 41) (p2 := 14) (by decide) rfl ⟨by omega, by omega⟩ ⟨by omega, by omega⟩ (fun c33115 => ?_) (fun c33115 => ?_))
      · refine wp_of e116 c116_41 (rw_iload_n (pc' := 42) (z := v33107) rfl rfl ?_)
        exact wp_ireturn e116 c116_42 rfl ⟨rfl, rfl, v33107, rfl, ⟨by omega, by omega⟩⟩
      · refine wp_of e116 c116_14 (rw_aload_n (pc' := 15) (v := .ref r0) rfl rfl rfl ?_)
        refine wp_of e116 c116_15 (rw_iload_n (pc' := 16) (z := a1) rfl rfl ?_)
        refine wp_of e116 c116_16 (rw_iload (pc' := 18) (z := v33106) rfl rfl ?_)
        refine wp_of e116 c116_18 (xc_S (pc' := 21) (as := [.ref r0, vI a1, vI v33106]) (st := []) (lm_4_132) rfl rfl (Nat.le_of_ble_eq_true rfl) rfl (by decide) (s_111 hW g0 ⟨by omega, by omega⟩ ⟨by omega, by omega⟩) (fun R33116 T33117 H33118 p33119 => ?_))
        obtain ⟨e33120, e33122, z33123, e33121, b33124⟩ := p33119
        subst e33120
        subst e33121
        subst e33122
        show wp _ _ 116 21 [(4, vI v33106), (3, vI v33107), (0, .ref r0), (1, vI a1), (2, vI a2)] [vI z33123] _ H _
        refine wp_of e116 c116_21 (rw_iload_n (pc' := 22) (z := a2) rfl rfl ?_)
        refine wp_of e116 c116_22 (xc_S (pc' := 25) (as := [vI z33123, vI a2]) (st := []) (lm_4_122) rfl rfl (Nat.le_of_ble_eq_true rfl) rfl (by decide) (s_36 hW ⟨by omega, by omega⟩ ⟨by omega, by omega⟩) (fun R33125 T33126 H33127 p33128 => ?_))
        obtain ⟨e33129, e33131, z33132, e33130, b33133⟩ := p33128
        subst e33129
        subst e33130
        subst e33131
        show wp _ _ 116 25 [(4, vI v33106), (3, vI v33107), (0, .ref r0), (1, vI a1), (2, vI a2)] [vI z33132] _ H _
        refine wp_of e116 c116_25 (rw_if_eq (p1 := 35) (p2 := 28) (by decide) rfl ⟨by omega, by omega⟩ (fun c33134 => ?_) (fun c33134 => ?_))
        · refine wp_of e116 c116_35 (rw_iinc (pc' := 38) (z := v33106) (L' := [(4, vI (v33106 + 1)), (3, vI v33107), (0, .ref r0), (1, vI a1), (2, vI a2)]) rfl rfl rfl rfl ?_)
          refine wp_of e116 c116_38 (rw_goto (p1 := 5) (by decide) ?_)
          exact wp_lc (ks := [4, 3, 0, 1, 2]) (wl_c rfl (wl_c rfl (wl_c rfl (wl_c rfl (wl_c rfl wl_n))))) rfl (by decide) (ih33105 _ (by omega) (v33106 + 1) v33107 ⟨by omega, by omega⟩ ⟨by omega, by omega⟩ rfl)
        · refine wp_of e116 c116_28 (rw_iload_n (pc' := 29) (z := v33107) rfl rfl ?_)
          refine wp_of e116 c116_29 (rw_iconst (pc' := 30) rfl ?_)
          refine wp_of e116 c116_30 (rw_iload (pc' := 32) (z := v33106) rfl rfl ?_)
          refine wp_of e116 c116_32 (rw_ishl (pc' := 33) rfl ?_)
          obtain ⟨v33135, e33136⟩ : ∃ x : Int, x = wq_shl 1 v33106 := ⟨_, rfl⟩
          rw [← e33136]
          have b33137 : 1 ≤ v33135 ∧ v33135 ≤ 64 := by
            rw [e33136]
            exact wq_shl1_6 ⟨by omega, by omega⟩
          refine wp_of e116 c116_33 (rw_ior (pc' := 34) rfl ?_)
          obtain ⟨v33138, e33139⟩ : ∃ x : Int, x = wq_or v33107 v33135 := ⟨_, rfl⟩
          rw [← e33139]
          have b33140 : 0 ≤ v33138 ∧ v33138 ≤ 16777215 := by
            rw [e33139]
            exact wq_or_24 ⟨by omega, by omega⟩ ⟨by omega, by omega⟩
          refine wp_of e116 c116_34 (rw_istore_n (pc' := 35) (z := v33138) (L' := [(3, vI v33138), (4, vI v33106), (0, .ref r0), (1, vI a1), (2, vI a2)]) rfl rfl rfl ?_)
          refine wp_of e116 c116_35 (rw_iinc (pc' := 38) (z := v33106) (L' := [(4, vI (v33106 + 1)), (3, vI v33138), (0, .ref r0), (1, vI a1), (2, vI a2)]) rfl rfl rfl rfl ?_)
          refine wp_of e116 c116_38 (rw_goto (p1 := 5) (by decide) ?_)
          exact wp_lc (ks := [4, 3, 0, 1, 2]) (wl_c rfl (wl_c rfl (wl_c rfl (wl_c rfl (wl_c rfl wl_n))))) rfl (by decide) (ih33105 _ (by omega) (v33106 + 1) v33138 ⟨by omega, by omega⟩ ⟨by omega, by omega⟩ rfl)
  exact wp_lc (ks := [4, 3, 0, 1, 2]) (wl_c rfl (wl_c rfl (wl_c rfl (wl_c rfl (wl_c rfl wl_n))))) rfl (by decide) (lp33103 _ 0 0 ⟨by omega, by omega⟩ ⟨by omega, by omega⟩ rfl)
