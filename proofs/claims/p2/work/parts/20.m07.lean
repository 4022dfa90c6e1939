/-! methods (own work, written by wip/gen2/sx.py) -/
/-! StrikeAwake$Census.awakeBeside(LStrikeAwake$Parish;II)I -/
theorem e115 : wq_en 115 = some (4, 7, false, some FieldType.int) := rfl
theorem c115_0 : mc_cd 115 0 = some (.iconst 0, 1) := by decide +kernel
theorem c115_1 : mc_cd 115 1 = some (.istore 4, 2) := by decide +kernel
theorem c115_3 : mc_cd 115 3 = some (.iconst 0, 1) := by decide +kernel
theorem c115_4 : mc_cd 115 4 = some (.istore 5, 2) := by decide +kernel
theorem c115_6 : mc_cd 115 6 = some (.iload 5, 2) := by decide +kernel
theorem c115_8 : mc_cd 115 8 = some (.i2l, 1) := by decide +kernel
theorem c115_9 : mc_cd 115 9 = some (.aload_n 1, 1) := by decide +kernel
theorem c115_10 : mc_cd 115 10 = some (.getfield 45, 3) := by decide +kernel
theorem c115_13 : mc_cd 115 13 = some (.lcmp, 1) := by decide +kernel
theorem c115_14 : mc_cd 115 14 = some (.ifCond .ge 75, 3) := by decide +kernel
theorem c115_17 : mc_cd 115 17 = some (.iload 5, 2) := by decide +kernel
theorem c115_19 : mc_cd 115 19 = some (.sipush 20000, 3) := by decide +kernel
theorem c115_22 : mc_cd 115 22 = some (.if_icmp .ge 67, 3) := by decide +kernel
theorem c115_25 : mc_cd 115 25 = some (.aload_n 0, 1) := by decide +kernel
theorem c115_26 : mc_cd 115 26 = some (.iload 5, 2) := by decide +kernel
theorem c115_28 : mc_cd 115 28 = some (.invokevirtual 113, 3) := by decide +kernel
theorem c115_31 : mc_cd 115 31 = some (.ifCond .eq 13, 3) := by decide +kernel
theorem c115_34 : mc_cd 115 34 = some (.aload_n 1, 1) := by decide +kernel
theorem c115_35 : mc_cd 115 35 = some (.iload 5, 2) := by decide +kernel
theorem c115_37 : mc_cd 115 37 = some (.iload_n 2, 1) := by decide +kernel
theorem c115_38 : mc_cd 115 38 = some (.invokevirtual 135, 3) := by decide +kernel
theorem c115_41 : mc_cd 115 41 = some (.goto 4, 3) := by decide +kernel
theorem c115_44 : mc_cd 115 44 = some (.iconst (-1), 1) := by decide +kernel
theorem c115_45 : mc_cd 115 45 = some (.istore 6, 2) := by decide +kernel
theorem c115_47 : mc_cd 115 47 = some (.iload 6, 2) := by decide +kernel
theorem c115_49 : mc_cd 115 49 = some (.ifCond .lt 34, 3) := by decide +kernel
theorem c115_52 : mc_cd 115 52 = some (.aload_n 1, 1) := by decide +kernel
theorem c115_53 : mc_cd 115 53 = some (.getfield 78, 3) := by decide +kernel
theorem c115_56 : mc_cd 115 56 = some (.iload_n 2, 1) := by decide +kernel
theorem c115_57 : mc_cd 115 57 = some (.aaload, 1) := by decide +kernel
theorem c115_58 : mc_cd 115 58 = some (.getfield 138, 3) := by decide +kernel
theorem c115_61 : mc_cd 115 61 = some (.iload 6, 2) := by decide +kernel
theorem c115_63 : mc_cd 115 63 = some (.iaload, 1) := by decide +kernel
theorem c115_64 : mc_cd 115 64 = some (.iload_n 3, 1) := by decide +kernel
theorem c115_65 : mc_cd 115 65 = some (.invokestatic 122, 3) := by decide +kernel
theorem c115_68 : mc_cd 115 68 = some (.ifCond .eq 15, 3) := by decide +kernel
theorem c115_71 : mc_cd 115 71 = some (.iload 4, 2) := by decide +kernel
theorem c115_73 : mc_cd 115 73 = some (.aload_n 1, 1) := by decide +kernel
theorem c115_74 : mc_cd 115 74 = some (.iload 5, 2) := by decide +kernel
theorem c115_76 : mc_cd 115 76 = some (.iload_n 3, 1) := by decide +kernel
theorem c115_77 : mc_cd 115 77 = some (.invokestatic 141, 3) := by decide +kernel
theorem c115_80 : mc_cd 115 80 = some (.ior, 1) := by decide +kernel
theorem c115_81 : mc_cd 115 81 = some (.istore 4, 2) := by decide +kernel
theorem c115_83 : mc_cd 115 83 = some (.iinc 5 1, 3) := by decide +kernel
theorem c115_86 : mc_cd 115 86 = some (.goto (-80), 3) := by decide +kernel
theorem c115_89 : mc_cd 115 89 = some (.iload 4, 2) := by decide +kernel
theorem c115_91 : mc_cd 115 91 = some (.ireturn, 1) := by decide +kernel
abbrev q_115 (r0 : Nat) (r1 : Nat) (a2 : Int) (a3 : Int) (T : wq_T) (H : wq_H) : Option Value → wq_T → wq_H → Prop := fun r T' H' => T = T' ∧ H = H' ∧ ∃ z : Int, some (vI z) = r ∧ ((-2147483648) ≤ z ∧ z ≤ 2147483647)
set_option maxHeartbeats 4000000 in
theorem s_115 {kt : Nat → Option mc_E} {T : wq_T} {H : wq_H} {r0 : Nat} {r1 : Nat} {a2 : Int} {a3 : Int} (hW : WT T H) (g0 : T.2.2.2 r0 = some 12) (g1 : T.2.2.2 r1 = some 27) (i2 : 0 ≤ a2 ∧ a2 ≤ 5) (i3 : (-2147483648) ≤ a3 ∧ a3 ≤ 2147483647) : wpc kt 4 115 [.ref r0, .ref r1, vI a2, vI a3] T H (q_115 r0 r1 a2 a3 T H) := by
  refine wp_enter e115 (Nat.le_of_ble_eq_true rfl) rfl ?_
  show wp _ _ 115 0 [(0, .ref r0), (1, .ref r1), (2, vI a2), (3, vI a3)] [] _ H _
  refine wp_of e115 c115_0 (rw_iconst (pc' := 1) rfl ?_)
  refine wp_of e115 c115_1 (rw_istore (pc' := 3) (z := 0) (L' := [(4, vI 0), (0, .ref r0), (1, .ref r1), (2, vI a2), (3, vI a3)]) rfl rfl rfl ?_)
  refine wp_of e115 c115_3 (rw_iconst (pc' := 4) rfl ?_)
  refine wp_of e115 c115_4 (rw_istore (pc' := 6) (z := 0) (L' := [(5, vI 0), (4, vI 0), (0, .ref r0), (1, .ref r1), (2, vI a2), (3, vI a3)]) rfl rfl rfl ?_)
  have lp35067 : ∀ (n35068 : Nat) (v35070 : Int) (v35071 : Int), (0 ≤ v35070 ∧ v35070 ≤ 20000) → ((-2147483648) ≤ v35071 ∧ v35071 ≤ 2147483647) → (20000 - v35070).toNat = n35068 → wp kt 3 115 6 [(5, vI v35070), (4, vI v35071), (0, .ref r0), (1, .ref r1), (2, vI a2), (3, vI a3)] [] T H (q_115 r0 r1 a2 a3 T H) := by
    intro n35068
    induction n35068 using Nat.strongRecOn with
    | _ n35068 ih35069 =>
      intro v35070 v35071 b35074 b35075 m35076
      refine wp_of e115 c115_6 (rw_iload (pc' := 8) (z := v35070) rfl rfl ?_)
      refine wp_of e115 c115_8 (rw_i2l (pc' := 9) rfl ⟨by omega, by omega⟩ ?_)
      refine wp_of e115 c115_9 (rw_aload_n (pc' := 10) (v := .ref r1) rfl rfl rfl ?_)
      refine wp_of e115 c115_10 (xg_L (pc' := 13) lf_4_45 hW g1 sh_27 (by decide) (by decide) ty_27_18 rfl rfl (fun b35077 b35078 => ?_))
      refine wp_of e115 c115_13 (rw_lcmp (pc' := 14) rfl ⟨by omega, by omega⟩ ⟨by omega, by omega⟩ ?_)
      have b35079 := wq_cmp_b v35070 (H r1 18)
      refine wp_of e115 c115_14 (rw_if_ge (p1 := 89) (p2 := 17) (by decide) rfl ⟨by omega, by omega⟩ (fun c35080 => ?_) (fun c35080 => ?_))
      · refine wp_of e115 c115_89 (rw_iload (pc' := 91) (z := v35071) rfl rfl ?_)
        exact wp_ireturn e115 c115_91 rfl ⟨rfl, rfl, v35071, rfl, ⟨by omega, by omega⟩⟩
      · refine wp_of e115 c115_17 (rw_iload (pc' := 19) (z := v35070) rfl rfl ?_)
        refine wp_of e115 c115_19 (rw_sipush (pc' := 22) (z := 20000) rfl (by decide) ?_)
        refine wp_of e115 c115_22 (rw_icmp_ge (p1 := 89) (p2 := 25) (by decide) rfl ⟨by omega, by omega⟩ ⟨by omega, by omega⟩ (fun c35081 => ?_) (fun c35081 => ?_))
        · refine wp_of e115 c115_89 (rw_iload (pc' := 91) (z := v35071) rfl rfl ?_)
          exact wp_ireturn e115 c115_91 rfl ⟨rfl, rfl, v35071, rfl, ⟨by omega, by omega⟩⟩
        · refine wp_of e115 c115_25 (rw_aload_n (pc' := 26) (v := .ref r0) rfl rfl rfl ?_)
          refine wp_of e115 c115_26 (rw_iload (pc' := 28) (z := v35070) rfl rfl ?_)
          refine wp_of e115 c115_28 (xc_V (pc' := 31) (r := r0) (as := [vI v35070]) (st := []) (lm_4_113) rfl rfl (Nat.le_of_ble_eq_true rfl) hW g0 sh_12 (by decide) rfl (by decide) (s_95 hW g0 ⟨by omega, by omega⟩) (fun R35082 T35083 H35084 p35085 => ?_))
          obtain ⟨e35086, e35088, z35089, e35087, b35090⟩ := p35085
          subst e35086
          subst e35087
          subst e35088
          show wp _ _ 115 31 [(5, vI v35070), (4, vI v35071), (0, .ref r0), (1, .ref r1), (2, vI a2), (3, vI a3)] [vI z35089] _ H _
          refine wp_of e115 c115_31 (rw_if_eq (p1 := 44) (p2 := 34) (by decide) rfl ⟨by omega, by omega⟩ (fun c35091 => ?_) (fun c35091 => ?_))
          · refine wp_of e115 c115_44 (rw_iconst (pc' := 45) rfl ?_)
            refine wp_of e115 c115_45 (rw_istore (pc' := 47) (z := -1) (L' := [(6, vI (-1)), (5, vI v35070), (4, vI v35071), (0, .ref r0), (1, .ref r1), (2, vI a2), (3, vI a3)]) rfl rfl rfl ?_)
            refine wp_of e115 c115_47 (rw_iload (pc' := 49) (z := -1) rfl rfl ?_)
            refine wp_of e115 c115_49 (rw_if_lt (p1 := 83) (p2 := 52) (by decide) rfl ⟨by omega, by omega⟩ (fun c35092 => ?_) (fun c35092 => ?_))
            · refine wp_of e115 c115_83 (rw_iinc (pc' := 86) (z := v35070) (L' := [(5, vI (v35070 + 1)), (6, vI (-1)), (4, vI v35071), (0, .ref r0), (1, .ref r1), (2, vI a2), (3, vI a3)]) rfl rfl rfl rfl ?_)
              refine wp_of e115 c115_86 (rw_goto (p1 := 6) (by decide) ?_)
              exact wp_lc (ks := [5, 6, 4, 0, 1, 2, 3]) (wl_c rfl (wl_c rfl (wl_c rfl (wl_c rfl (wl_c rfl (wl_c rfl wl_n)))))) rfl (by decide) (ih35069 _ (by omega) (v35070 + 1) v35071 ⟨by omega, by omega⟩ ⟨by omega, by omega⟩ rfl)
            · exfalso
              omega
          · refine wp_of e115 c115_34 (rw_aload_n (pc' := 35) (v := .ref r1) rfl rfl rfl ?_)
            refine wp_of e115 c115_35 (rw_iload (pc' := 37) (z := v35070) rfl rfl ?_)
            refine wp_of e115 c115_37 (rw_iload_n (pc' := 38) (z := a2) rfl rfl ?_)
            refine wp_of e115 c115_38 (xc_V (pc' := 41) (r := r1) (as := [vI v35070, vI a2]) (st := []) (lm_4_135) rfl rfl (Nat.le_of_ble_eq_true rfl) hW g1 sh_27 (by decide) rfl (by decide) (s_96 hW g1 ⟨by omega, by omega⟩ ⟨by omega, by omega⟩) (fun R35093 T35094 H35095 p35096 => ?_))
            obtain ⟨e35097, e35099, z35100, e35098, b35101⟩ := p35096
            subst e35097
            subst e35098
            subst e35099
            show wp _ _ 115 41 [(5, vI v35070), (4, vI v35071), (0, .ref r0), (1, .ref r1), (2, vI a2), (3, vI a3)] [vI z35100] _ H _
            refine wp_of e115 c115_41 (rw_goto (p1 := 45) (by decide) ?_)
            refine wp_of e115 c115_45 (rw_istore (pc' := 47) (z := z35100) (L' := [(6, vI z35100), (5, vI v35070), (4, vI v35071), (0, .ref r0), (1, .ref r1), (2, vI a2), (3, vI a3)]) rfl rfl rfl ?_)
            refine wp_of e115 c115_47 (rw_iload (pc' := 49) (z := z35100) rfl rfl ?_)
            refine wp_of e115 c115_49 (rw_if_lt (p1 := 83) (p2 := 52) (by decide) rfl ⟨by omega, by omega⟩ (fun c35102 => ?_) (fun c35102 => ?_))
            · refine wp_of e115 c115_83 (rw_iinc (pc' := 86) (z := v35070) (L' := [(5, vI (v35070 + 1)), (6, vI z35100), (4, vI v35071), (0, .ref r0), (1, .ref r1), (2, vI a2), (3, vI a3)]) rfl rfl rfl rfl ?_)
              refine wp_of e115 c115_86 (rw_goto (p1 := 6) (by decide) ?_)
              exact wp_lc (ks := [5, 6, 4, 0, 1, 2, 3]) (wl_c rfl (wl_c rfl (wl_c rfl (wl_c rfl (wl_c rfl (wl_c rfl wl_n)))))) rfl (by decide) (ih35069 _ (by omega) (v35070 + 1) v35071 ⟨by omega, by omega⟩ ⟨by omega, by omega⟩ rfl)
            · refine wp_of e115 c115_52 (rw_aload_n (pc' := 53) (v := .ref r1) rfl rfl rfl ?_)
              refine wp_of e115 c115_53 (xg_R (pc' := 56) lf_4_78 hW g1 sh_27 (by decide) (by decide) ty_27_0 rfl rfl (fun r35103 q35104 g35105 => ?_))
              refine wp_of e115 c115_56 (rw_iload_n (pc' := 57) (z := a2) rfl rfl ?_)
              refine wp_of e115 c115_57 (xa_R (pc' := 58) (by decide) hW g35105 sh_28 (by decide) (ty_28 _) (by omega) (by omega) rfl (fun r35106 q35107 g35108 => ?_))
              refine wp_of e115 c115_58 (xg_R (pc' := 61) lf_4_138 hW g35108 sh_35 (by decide) (by decide) ty_35_2 rfl rfl (fun r35109 q35110 g35111 => ?_))
              refine wp_of e115 c115_61 (rw_iload (pc' := 63) (z := z35100) rfl rfl ?_)
              refine wp_of e115 c115_63 (xa_I (so := 0) (pc' := 64) hW g35111 sh_38 (by decide) (ty_38 _) (by omega) (by omega) rfl (fun b35112 b35113 => ?_))
              refine wp_of e115 c115_64 (rw_iload_n (pc' := 65) (z := a3) rfl rfl ?_)
              refine wp_of e115 c115_65 (xc_S (pc' := 68) (as := [vI (H r35109 z35100.toNat), vI a3]) (st := []) (lm_4_122) rfl rfl (Nat.le_of_ble_eq_true rfl) rfl (by decide) (s_36 hW ⟨by omega, by omega⟩ ⟨by omega, by omega⟩) (fun R35114 T35115 H35116 p35117 => ?_))
              obtain ⟨e35118, e35120, z35121, e35119, b35122⟩ := p35117
              subst e35118
              subst e35119
              subst e35120
              show wp _ _ 115 68 [(6, vI z35100), (5, vI v35070), (4, vI v35071), (0, .ref r0), (1, .ref r1), (2, vI a2), (3, vI a3)] [vI z35121] _ H _
              refine wp_of e115 c115_68 (rw_if_eq (p1 := 83) (p2 := 71) (by decide) rfl ⟨by omega, by omega⟩ (fun c35123 => ?_) (fun c35123 => ?_))
              · refine wp_of e115 c115_83 (rw_iinc (pc' := 86) (z := v35070) (L' := [(5, vI (v35070 + 1)), (6, vI z35100), (4, vI v35071), (0, .ref r0), (1, .ref r1), (2, vI a2), (3, vI a3)]) rfl rfl rfl rfl ?_)
                refine wp_of e115 c115_86 (rw_goto (p1 := 6) (by decide) ?_)
                exact wp_lc (ks := [5, 6, 4, 0, 1, 2, 3]) (wl_c rfl (wl_c rfl (wl_c rfl (wl_c rfl (wl_c rfl (wl_c rfl wl_n)))))) rfl (by decide) (ih35069 _ (by omega) (v35070 + 1) v35071 ⟨by omega, by omega⟩ ⟨by omega, by omega⟩ rfl)
              · refine wp_of e115 c115_71 (rw_iload (pc' := 73) (z := v35071) rfl rfl ?_)
                refine wp_of e115 c115_73 (rw_aload_n (pc' := 74) (v := .ref r1) rfl rfl rfl ?_)
                refine wp_of e115 c115_74 (rw_iload (pc' := 76) (z := v35070) rfl rfl ?_)
                refine wp_of e115 c115_76 (rw_iload_n (pc' := 77) (z := a3) rfl rfl ?_)
                refine wp_of e115 c115_77 (xc_S (pc' := 80) (as := [.ref r1, vI v35070, vI a3]) (st := [vI v35071]) (lm_4_141) rfl rfl (Nat.le_of_ble_eq_true rfl) rfl (by decide) (s_116 hW g1 ⟨by omega, by omega⟩ ⟨by omega, by omega⟩) (fun R35124 T35125 H35126 p35127 => ?_))
                obtain ⟨e35128, e35130, z35131, e35129, b35132⟩ := p35127
                subst e35128
                subst e35129
                subst e35130
                show wp _ _ 115 80 [(6, vI z35100), (5, vI v35070), (4, vI v35071), (0, .ref r0), (1, .ref r1), (2, vI a2), (3, vI a3)] [vI z35131, vI v35071] _ H _
                refine wp_of e115 c115_80 (rw_ior (pc' := 81) rfl ?_)
                obtain ⟨v35133, e35134⟩ : ∃ x : Int, x = wq_or v35071 z35131 := ⟨_, rfl⟩
                rw [← e35134]
                have b35135 : -2147483648 ≤ v35133 ∧ v35133 ≤ 2147483647 := by
                  rw [e35134]
                  exact wI_or _ _
                refine wp_of e115 c115_81 (rw_istore (pc' := 83) (z := v35133) (L' := [(4, vI v35133), (6, vI z35100), (5, vI v35070), (0, .ref r0), (1, .ref r1), (2, vI a2), (3, vI a3)]) rfl rfl rfl ?_)
                refine wp_of e115 c115_83 (rw_iinc (pc' := 86) (z := v35070) (L' := [(5, vI (v35070 + 1)), (4, vI v35133), (6, vI z35100), (0, .ref r0), (1, .ref r1), (2, vI a2), (3, vI a3)]) rfl rfl rfl rfl ?_)
                refine wp_of e115 c115_86 (rw_goto (p1 := 6) (by decide) ?_)
                exact wp_lc (ks := [5, 4, 6, 0, 1, 2, 3]) (wl_c rfl (wl_c rfl (wl_c rfl (wl_c rfl (wl_c rfl (wl_c rfl wl_n)))))) rfl (by decide) (ih35069 _ (by omega) (v35070 + 1) v35133 ⟨by omega, by omega⟩ ⟨by omega, by omega⟩ rfl)
  exact wp_lc (ks := [5, 4, 0, 1, 2, 3]) (wl_c rfl (wl_c rfl (wl_c rfl (wl_c rfl (wl_c rfl (wl_c rfl wl_n)))))) rfl (by decide) (lp35067 _ 0 0 ⟨by omega, by omega⟩ ⟨by omega, by omega⟩ rfl)
/-! StrikeAwake.hiding(II)I -/
theorem e114 : wq_en 114 = some (0, 4, false, some FieldType.int) := rfl
theorem c114_0 : mc_cd 114 0 = some (.aload_n 0, 1) := by decide +kernel
theorem c114_1 : mc_cd 114 1 = some (.aload_n 0, 1) := by decide +kernel
theorem c114_2 : mc_cd 114 2 = some (.iload_n 1, 1) := by decide +kernel
theorem c114_3 : mc_cd 114 3 = some (.invokevirtual 105, 3) := by decide +kernel
theorem c114_6 : mc_cd 114 6 = some (.ifCond .eq 15, 3) := by decide +kernel
theorem c114_9 : mc_cd 114 9 = some (.aload_n 0, 1) := by decide +kernel
theorem c114_10 : mc_cd 114 10 = some (.iload_n 2, 1) := by decide +kernel
theorem c114_11 : mc_cd 114 11 = some (.invokevirtual 132, 3) := by decide +kernel
theorem c114_14 : mc_cd 114 14 = some (.ifCond .eq 7, 3) := by decide +kernel
theorem c114_17 : mc_cd 114 17 = some (.iconst 1, 1) := by decide +kernel
theorem c114_18 : mc_cd 114 18 = some (.goto 4, 3) := by decide +kernel
theorem c114_21 : mc_cd 114 21 = some (.iconst 0, 1) := by decide +kernel
theorem c114_22 : mc_cd 114 22 = some (.invokevirtual 174, 3) := by decide +kernel
theorem c114_25 : mc_cd 114 25 = some (.istore_n 3, 1) := by decide +kernel
theorem c114_26 : mc_cd 114 26 = some (.iload_n 3, 1) := by decide +kernel
theorem c114_27 : mc_cd 114 27 = some (.ifCond .eq 9, 3) := by decide +kernel
theorem c114_30 : mc_cd 114 30 = some (.aload_n 0, 1) := by decide +kernel
theorem c114_31 : mc_cd 114 31 = some (.iload_n 3, 1) := by decide +kernel
theorem c114_32 : mc_cd 114 32 = some (.invokevirtual 70, 3) := by decide +kernel
theorem c114_35 : mc_cd 114 35 = some (.ireturn, 1) := by decide +kernel
theorem c114_36 : mc_cd 114 36 = some (.aload_n 0, 1) := by decide +kernel
theorem c114_37 : mc_cd 114 37 = some (.aload_n 0, 1) := by decide +kernel
theorem c114_38 : mc_cd 114 38 = some (.getfield 30, 3) := by decide +kernel
theorem c114_41 : mc_cd 114 41 = some (.aload_n 0, 1) := by decide +kernel
theorem c114_42 : mc_cd 114 42 = some (.getfield 51, 3) := by decide +kernel
theorem c114_45 : mc_cd 114 45 = some (.iload_n 1, 1) := by decide +kernel
theorem c114_46 : mc_cd 114 46 = some (.iload_n 2, 1) := by decide +kernel
theorem c114_47 : mc_cd 114 47 = some (.invokevirtual 220, 3) := by decide +kernel
theorem c114_50 : mc_cd 114 50 = some (.invokevirtual 99, 3) := by decide +kernel
theorem c114_53 : mc_cd 114 53 = some (.ireturn, 1) := by decide +kernel
abbrev q_114 (r0 : Nat) (a1 : Int) (a2 : Int) (T : wq_T) (H : wq_H) : Option Value → wq_T → wq_H → Prop := fun r T' H' => T = T' ∧ WT T H' ∧ wfr [(12, 5), (12, 6), (12, 7), (12, 8), (12, 9), (1, 10), (6, 5), (8, 999), (10, 999), (15, 999), (9, 999), (18, 999), (19, 999), (7, 999), (11, 999), (17, 999), (13, 999)] T H H' ∧ ∃ z : Int, some (vI z) = r ∧ ((-2147483648) ≤ z ∧ z ≤ 2147483647)
set_option maxHeartbeats 4000000 in
theorem s_114 {kt : Nat → Option mc_E} {T : wq_T} {H : wq_H} {r0 : Nat} {a1 : Int} {a2 : Int} (hW : WT T H) (g0 : T.2.2.2 r0 = some 1) (i1 : (-2147483648) ≤ a1 ∧ a1 ≤ 2147483647) (i2 : (-2147483648) ≤ a2 ∧ a2 ≤ 2147483647) : wpc kt 6 114 [.ref r0, vI a1, vI a2] T H (q_114 r0 a1 a2 T H) := by
  refine wp_enter e114 (Nat.le_of_ble_eq_true rfl) rfl ?_
  have f0 : wfr [(12, 5), (12, 6), (12, 7), (12, 8), (12, 9), (1, 10), (6, 5), (8, 999), (10, 999), (15, 999), (9, 999), (18, 999), (19, 999), (7, 999), (11, 999), (17, 999), (13, 999)] T H H := wfr.rf
  show wp _ _ 114 0 [(0, .ref r0), (1, vI a1), (2, vI a2)] [] _ H _
  refine wp_of e114 c114_0 (rw_aload_n (pc' := 1) (v := .ref r0) rfl rfl rfl ?_)
  refine wp_of e114 c114_1 (rw_aload_n (pc' := 2) (v := .ref r0) rfl rfl rfl ?_)
  refine wp_of e114 c114_2 (rw_iload_n (pc' := 3) (z := a1) rfl rfl ?_)
  refine wp_of e114 c114_3 (xc_V (pc' := 6) (r := r0) (as := [vI a1]) (st := [.ref r0]) (lm_0_105) rfl rfl (Nat.le_of_ble_eq_true rfl) hW g0 sh_1 (by decide) rfl (by decide) (s_55 hW g0 ⟨by omega, by omega⟩) (fun R35256 T35257 H35258 p35259 => ?_))
  obtain ⟨e35260, e35262, z35264, e35261, b35265, p35263⟩ := p35259
  subst e35260
  subst e35261
  subst e35262
  show wp _ _ 114 6 [(0, .ref r0), (1, vI a1), (2, vI a2)] [vI z35264, .ref r0] _ H _
  refine wp_of e114 c114_6 (rw_if_eq (p1 := 21) (p2 := 9) (by decide) rfl ⟨by omega, by omega⟩ (fun c35266 => ?_) (fun c35266 => ?_))
  · refine wp_of e114 c114_21 (rw_iconst (pc' := 22) rfl ?_)
    refine wp_of e114 c114_22 (xc_V (pc' := 25) (r := r0) (as := [vI 0]) (st := []) (lm_0_174) rfl rfl (Nat.le_of_ble_eq_true rfl) hW g0 sh_1 (by decide) rfl (by decide) (s_83 hW g0 ⟨by omega, by omega⟩) (fun R35267 T35268 H35269 p35270 => ?_))
    obtain ⟨e35271, w35273, f35274, z35276, e35272, b35277, p35275⟩ := p35270
    subst e35271
    subst e35272
    have f35278 := f0.tr f35274 rfl
    show wp _ _ 114 25 [(0, .ref r0), (1, vI a1), (2, vI a2)] [vI z35276] _ H35269 _
    refine wp_of e114 c114_25 (rw_istore_n (pc' := 26) (z := z35276) (L' := [(3, vI z35276), (0, .ref r0), (1, vI a1), (2, vI a2)]) rfl rfl rfl ?_)
    refine wp_of e114 c114_26 (rw_iload_n (pc' := 27) (z := z35276) rfl rfl ?_)
    refine wp_of e114 c114_27 (rw_if_eq (p1 := 36) (p2 := 30) (by decide) rfl ⟨by omega, by omega⟩ (fun c35279 => ?_) (fun c35279 => ?_))
    · exfalso
      omega
    · refine wp_of e114 c114_30 (rw_aload_n (pc' := 31) (v := .ref r0) rfl rfl rfl ?_)
      refine wp_of e114 c114_31 (rw_iload_n (pc' := 32) (z := z35276) rfl rfl ?_)
      refine wp_of e114 c114_32 (xc_V (pc' := 35) (r := r0) (as := [vI z35276]) (st := []) (lm_0_70) rfl rfl (Nat.le_of_ble_eq_true rfl) w35273 g0 sh_1 (by decide) rfl (by decide) (s_12 w35273 g0 ⟨by omega, by omega⟩) (fun R35280 T35281 H35282 p35283 => ?_))
      obtain ⟨e35284, w35286, f35287, z35288, e35285, b35289⟩ := p35283
      subst e35284
      subst e35285
      have f35290 := f35278.tr f35287 rfl
      show wp _ _ 114 35 [(3, vI z35276), (0, .ref r0), (1, vI a1), (2, vI a2)] [vI z35288] _ H35282 _
      exact wp_ireturn e114 c114_35 rfl ⟨rfl, w35286, f35290, z35288, rfl, ⟨by omega, by omega⟩⟩
  · refine wp_of e114 c114_9 (rw_aload_n (pc' := 10) (v := .ref r0) rfl rfl rfl ?_)
    refine wp_of e114 c114_10 (rw_iload_n (pc' := 11) (z := a2) rfl rfl ?_)
    refine wp_of e114 c114_11 (xc_V (pc' := 14) (r := r0) (as := [vI a2]) (st := [.ref r0]) (lm_0_132) rfl rfl (Nat.le_of_ble_eq_true rfl) hW g0 sh_1 (by decide) rfl (by decide) (s_60 hW g0 ⟨by omega, by omega⟩) (fun R35291 T35292 H35293 p35294 => ?_))
    obtain ⟨e35295, e35297, z35299, e35296, b35300, p35298⟩ := p35294
    subst e35295
    subst e35296
    subst e35297
    show wp _ _ 114 14 [(0, .ref r0), (1, vI a1), (2, vI a2)] [vI z35299, .ref r0] _ H _
    refine wp_of e114 c114_14 (rw_if_eq (p1 := 21) (p2 := 17) (by decide) rfl ⟨by omega, by omega⟩ (fun c35301 => ?_) (fun c35301 => ?_))
    · refine wp_of e114 c114_21 (rw_iconst (pc' := 22) rfl ?_)
      refine wp_of e114 c114_22 (xc_V (pc' := 25) (r := r0) (as := [vI 0]) (st := []) (lm_0_174) rfl rfl (Nat.le_of_ble_eq_true rfl) hW g0 sh_1 (by decide) rfl (by decide) (s_83 hW g0 ⟨by omega, by omega⟩) (fun R35302 T35303 H35304 p35305 => ?_))
      obtain ⟨e35306, w35308, f35309, z35311, e35307, b35312, p35310⟩ := p35305
      subst e35306
      subst e35307
      have f35313 := f0.tr f35309 rfl
      show wp _ _ 114 25 [(0, .ref r0), (1, vI a1), (2, vI a2)] [vI z35311] _ H35304 _
      refine wp_of e114 c114_25 (rw_istore_n (pc' := 26) (z := z35311) (L' := [(3, vI z35311), (0, .ref r0), (1, vI a1), (2, vI a2)]) rfl rfl rfl ?_)
      refine wp_of e114 c114_26 (rw_iload_n (pc' := 27) (z := z35311) rfl rfl ?_)
      refine wp_of e114 c114_27 (rw_if_eq (p1 := 36) (p2 := 30) (by decide) rfl ⟨by omega, by omega⟩ (fun c35314 => ?_) (fun c35314 => ?_))
      · exfalso
        omega
      · refine wp_of e114 c114_30 (rw_aload_n (pc' := 31) (v := .ref r0) rfl rfl rfl ?_)
        refine wp_of e114 c114_31 (rw_iload_n (pc' := 32) (z := z35311) rfl rfl ?_)
        refine wp_of e114 c114_32 (xc_V (pc' := 35) (r := r0) (as := [vI z35311]) (st := []) (lm_0_70) rfl rfl (Nat.le_of_ble_eq_true rfl) w35308 g0 sh_1 (by decide) rfl (by decide) (s_12 w35308 g0 ⟨by omega, by omega⟩) (fun R35315 T35316 H35317 p35318 => ?_))
        obtain ⟨e35319, w35321, f35322, z35323, e35320, b35324⟩ := p35318
        subst e35319
        subst e35320
        have f35325 := f35313.tr f35322 rfl
        show wp _ _ 114 35 [(3, vI z35311), (0, .ref r0), (1, vI a1), (2, vI a2)] [vI z35323] _ H35317 _
        exact wp_ireturn e114 c114_35 rfl ⟨rfl, w35321, f35325, z35323, rfl, ⟨by omega, by omega⟩⟩
    · refine wp_of e114 c114_17 (rw_iconst (pc' := 18) rfl ?_)
      refine wp_of e114 c114_18 (rw_goto (p1 := 22) (by decide) ?_)
      refine wp_of e114 c114_22 (xc_V (pc' := 25) (r := r0) (as := [vI 1]) (st := []) (lm_0_174) rfl rfl (Nat.le_of_ble_eq_true rfl) hW g0 sh_1 (by decide) rfl (by decide) (s_83 hW g0 ⟨by omega, by omega⟩) (fun R35326 T35327 H35328 p35329 => ?_))
      obtain ⟨e35330, w35332, f35333, z35335, e35331, b35336, p35334⟩ := p35329
      subst e35330
      subst e35331
      have f35337 := f0.tr f35333 rfl
      show wp _ _ 114 25 [(0, .ref r0), (1, vI a1), (2, vI a2)] [vI z35335] _ H35328 _
      refine wp_of e114 c114_25 (rw_istore_n (pc' := 26) (z := z35335) (L' := [(3, vI z35335), (0, .ref r0), (1, vI a1), (2, vI a2)]) rfl rfl rfl ?_)
      refine wp_of e114 c114_26 (rw_iload_n (pc' := 27) (z := z35335) rfl rfl ?_)
      refine wp_of e114 c114_27 (rw_if_eq (p1 := 36) (p2 := 30) (by decide) rfl ⟨by omega, by omega⟩ (fun c35338 => ?_) (fun c35338 => ?_))
      · refine wp_of e114 c114_36 (rw_aload_n (pc' := 37) (v := .ref r0) rfl rfl rfl ?_)
        refine wp_of e114 c114_37 (rw_aload_n (pc' := 38) (v := .ref r0) rfl rfl rfl ?_)
        refine wp_of e114 c114_38 (xg_R (pc' := 41) lf_0_30 w35332 g0 sh_1 (by decide) (by decide) ty_1_3 rfl rfl (fun r35339 q35340 g35341 => ?_))
        refine wp_of e114 c114_41 (rw_aload_n (pc' := 42) (v := .ref r0) rfl rfl rfl ?_)
        refine wp_of e114 c114_42 (xg_R (pc' := 45) lf_0_51 w35332 g0 sh_1 (by decide) (by decide) ty_1_6 rfl rfl (fun r35342 q35343 g35344 => ?_))
        refine wp_of e114 c114_45 (rw_iload_n (pc' := 46) (z := a1) rfl rfl ?_)
        refine wp_of e114 c114_46 (rw_iload_n (pc' := 47) (z := a2) rfl rfl ?_)
        refine wp_of e114 c114_47 (xc_V (pc' := 50) (r := r35339) (as := [.ref r35342, vI a1, vI a2]) (st := [.ref r0]) (lm_0_220) rfl rfl (Nat.le_of_ble_eq_true rfl) w35332 g35341 sh_12 (by decide) rfl (by decide) (s_115 w35332 g35341 g35344 ⟨by omega, by omega⟩ ⟨by omega, by omega⟩) (fun R35345 T35346 H35347 p35348 => ?_))
        obtain ⟨e35349, e35351, z35352, e35350, b35353⟩ := p35348
        subst e35349
        subst e35350
        subst e35351
        show wp _ _ 114 50 [(3, vI z35335), (0, .ref r0), (1, vI a1), (2, vI a2)] [vI z35352, .ref r0] _ H35328 _
        refine wp_of e114 c114_50 (xc_V (pc' := 53) (r := r0) (as := [vI z35352]) (st := []) (lm_0_99) rfl rfl (Nat.le_of_ble_eq_true rfl) w35332 g0 sh_1 (by decide) rfl (by decide) (s_51 w35332 g0 ⟨by omega, by omega⟩) (fun R35354 T35355 H35356 p35357 => ?_))
        obtain ⟨e35358, w35360, f35361, z35362, e35359, b35363⟩ := p35357
        subst e35358
        subst e35359
        have f35364 := f35337.tr f35361 rfl
        show wp _ _ 114 53 [(3, vI z35335), (0, .ref r0), (1, vI a1), (2, vI a2)] [vI z35362] _ H35356 _
        exact wp_ireturn e114 c114_53 rfl ⟨rfl, w35360, f35364, z35362, rfl, ⟨by omega, by omega⟩⟩
      · refine wp_of e114 c114_30 (rw_aload_n (pc' := 31) (v := .ref r0) rfl rfl rfl ?_)
        refine wp_of e114 c114_31 (rw_iload_n (pc' := 32) (z := z35335) rfl rfl ?_)
        refine wp_of e114 c114_32 (xc_V (pc' := 35) (r := r0) (as := [vI z35335]) (st := []) (lm_0_70) rfl rfl (Nat.le_of_ble_eq_true rfl) w35332 g0 sh_1 (by decide) rfl (by decide) (s_12 w35332 g0 ⟨by omega, by omega⟩) (fun R35365 T35366 H35367 p35368 => ?_))
        obtain ⟨e35369, w35371, f35372, z35373, e35370, b35374⟩ := p35368
        subst e35369
        subst e35370
        have f35375 := f35337.tr f35372 rfl
        show wp _ _ 114 35 [(3, vI z35335), (0, .ref r0), (1, vI a1), (2, vI a2)] [vI z35373] _ H35367 _
        exact wp_ireturn e114 c114_35 rfl ⟨rfl, w35371, f35375, z35373, rfl, ⟨by omega, by omega⟩⟩
/-! StrikeAwake$Census.outermost([IIZ)I -/
theorem e118 : wq_en 118 = some (4, 6, false, some FieldType.int) := rfl
theorem c118_0 : mc_cd 118 0 = some (.iconst (-1), 1) := by decide +kernel
theorem c118_1 : mc_cd 118 1 = some (.istore 4, 2) := by decide +kernel
theorem c118_3 : mc_cd 118 3 = some (.iconst 0, 1) := by decide +kernel
theorem c118_4 : mc_cd 118 4 = some (.istore 5, 2) := by decide +kernel
theorem c118_6 : mc_cd 118 6 = some (.iload 5, 2) := by decide +kernel
theorem c118_8 : mc_cd 118 8 = some (.bipush 40, 2) := by decide +kernel
theorem c118_10 : mc_cd 118 10 = some (.if_icmp .ge 64, 3) := by decide +kernel
theorem c118_13 : mc_cd 118 13 = some (.iload 5, 2) := by decide +kernel
theorem c118_15 : mc_cd 118 15 = some (.aload_n 1, 1) := by decide +kernel
theorem c118_16 : mc_cd 118 16 = some (.arraylength, 1) := by decide +kernel
theorem c118_17 : mc_cd 118 17 = some (.if_icmp .ge 57, 3) := by decide +kernel
theorem c118_20 : mc_cd 118 20 = some (.aload_n 0, 1) := by decide +kernel
theorem c118_21 : mc_cd 118 21 = some (.getfield 17, 3) := by decide +kernel
theorem c118_24 : mc_cd 118 24 = some (.iload_n 2, 1) := by decide +kernel
theorem c118_25 : mc_cd 118 25 = some (.aaload, 1) := by decide +kernel
theorem c118_26 : mc_cd 118 26 = some (.iload 5, 2) := by decide +kernel
theorem c118_28 : mc_cd 118 28 = some (.iaload, 1) := by decide +kernel
theorem c118_29 : mc_cd 118 29 = some (.ifCond .le 39, 3) := by decide +kernel
theorem c118_32 : mc_cd 118 32 = some (.iload 4, 2) := by decide +kernel
theorem c118_34 : mc_cd 118 34 = some (.ifCond .lt 28, 3) := by decide +kernel
theorem c118_37 : mc_cd 118 37 = some (.iload_n 3, 1) := by decide +kernel
theorem c118_38 : mc_cd 118 38 = some (.ifCond .eq 15, 3) := by decide +kernel
theorem c118_41 : mc_cd 118 41 = some (.aload_n 1, 1) := by decide +kernel
theorem c118_42 : mc_cd 118 42 = some (.iload 5, 2) := by decide +kernel
theorem c118_44 : mc_cd 118 44 = some (.iaload, 1) := by decide +kernel
theorem c118_45 : mc_cd 118 45 = some (.iload 4, 2) := by decide +kernel
theorem c118_47 : mc_cd 118 47 = some (.if_icmp .le 21, 3) := by decide +kernel
theorem c118_50 : mc_cd 118 50 = some (.goto 12, 3) := by decide +kernel
theorem c118_53 : mc_cd 118 53 = some (.aload_n 1, 1) := by decide +kernel
theorem c118_54 : mc_cd 118 54 = some (.iload 5, 2) := by decide +kernel
theorem c118_56 : mc_cd 118 56 = some (.iaload, 1) := by decide +kernel
theorem c118_57 : mc_cd 118 57 = some (.iload 4, 2) := by decide +kernel
theorem c118_59 : mc_cd 118 59 = some (.if_icmp .ge 9, 3) := by decide +kernel
theorem c118_62 : mc_cd 118 62 = some (.aload_n 1, 1) := by decide +kernel
theorem c118_63 : mc_cd 118 63 = some (.iload 5, 2) := by decide +kernel
theorem c118_65 : mc_cd 118 65 = some (.iaload, 1) := by decide +kernel
theorem c118_66 : mc_cd 118 66 = some (.istore 4, 2) := by decide +kernel
theorem c118_68 : mc_cd 118 68 = some (.iinc 5 1, 3) := by decide +kernel
theorem c118_71 : mc_cd 118 71 = some (.goto (-65), 3) := by decide +kernel
theorem c118_74 : mc_cd 118 74 = some (.iload 4, 2) := by decide +kernel
theorem c118_76 : mc_cd 118 76 = some (.ireturn, 1) := by decide +kernel
abbrev q_118_b (r0 : Nat) (r1 : Nat) (a2 : Int) (a3 : Int) (T : wq_T) (H : wq_H) : Option Value → wq_T → wq_H → Prop := fun r T' H' => T = T' ∧ H = H' ∧ ∃ z : Int, some (vI z) = r ∧ ((-2147483648) ≤ z ∧ z ≤ 2147483647)
set_option maxHeartbeats 4000000 in
theorem s_118_b {kt : Nat → Option mc_E} {T : wq_T} {H : wq_H} {r0 : Nat} {r1 : Nat} {a2 : Int} {a3 : Int} (hW : WT T H) (g0 : T.2.2.2 r0 = some 12) (g1 : T.2.2.2 r1 = some 36) (i2 : 0 ≤ a2 ∧ a2 ≤ 5) (i3 : 0 ≤ a3 ∧ a3 ≤ 1) : wpc kt 1 118 [.ref r0, .ref r1, vI a2, vI a3] T H (q_118_b r0 r1 a2 a3 T H) := by
  refine wp_enter e118 (Nat.le_of_ble_eq_true rfl) rfl ?_
  show wp _ _ 118 0 [(0, .ref r0), (1, .ref r1), (2, vI a2), (3, vI a3)] [] _ H _
  refine wp_of e118 c118_0 (rw_iconst (pc' := 1) rfl ?_)
  refine wp_of e118 c118_1 (rw_istore (pc' := 3) (z := -1) (L' := [(4, vI (-1)), (0, .ref r0), (1, .ref r1), (2, vI a2), (3, vI a3)]) rfl rfl rfl ?_)
  refine wp_of e118 c118_3 (rw_iconst (pc' := 4) rfl ?_)
  refine wp_of e118 c118_4 (rw_istore (pc' := 6) (z := 0) (L' := [(5, vI 0), (4, vI (-1)), (0, .ref r0), (1, .ref r1), (2, vI a2), (3, vI a3)]) rfl rfl rfl ?_)
  have lp35780 : ∀ (n35781 : Nat) (v35783 : Int) (v35784 : Int), (0 ≤ v35783 ∧ v35783 ≤ 40) → ((-1) ≤ v35784 ∧ v35784 ≤ 24) → (40 - v35783).toNat = n35781 → wp kt 0 118 6 [(5, vI v35783), (4, vI v35784), (0, .ref r0), (1, .ref r1), (2, vI a2), (3, vI a3)] [] T H (q_118_b r0 r1 a2 a3 T H) := by
    intro n35781
    induction n35781 using Nat.strongRecOn with
    | _ n35781 ih35782 =>
      intro v35783 v35784 b35787 b35788 m35789
      refine wp_of e118 c118_6 (rw_iload (pc' := 8) (z := v35783) rfl rfl ?_)
      refine wp_of e118 c118_8 (rw_bipush (pc' := 10) (z := 40) rfl (by decide) ?_)
      refine wp_of e118 c118_10 (rw_icmp_ge (p1 := 74) (p2 := 13) (by decide) rfl ⟨by omega, by omega⟩ ⟨by omega, by omega⟩ (fun c35790 => ?_) (fun c35790 => ?_))
      · refine wp_of e118 c118_74 (rw_iload (pc' := 76) (z := v35784) rfl rfl ?_)
        exact wp_ireturn e118 c118_76 rfl ⟨rfl, rfl, v35784, rfl, ⟨by omega, by omega⟩⟩
      · refine wp_of e118 c118_13 (rw_iload (pc' := 15) (z := v35783) rfl rfl ?_)
        refine wp_of e118 c118_15 (rw_aload_n (pc' := 16) (v := .ref r1) rfl rfl rfl ?_)
        refine wp_of e118 c118_16 (xa_N (pc' := 17) (n := 40) hW g1 sh_36 (by decide) rfl ?_)
        refine wp_of e118 c118_17 (rw_icmp_ge (p1 := 74) (p2 := 20) (by decide) rfl ⟨by omega, by omega⟩ ⟨by omega, by omega⟩ (fun c35791 => ?_) (fun c35791 => ?_))
        · exfalso
          omega
        · refine wp_of e118 c118_20 (rw_aload_n (pc' := 21) (v := .ref r0) rfl rfl rfl ?_)
          refine wp_of e118 c118_21 (xg_R (pc' := 24) lf_4_17 hW g0 sh_12 (by decide) (by decide) ty_12_1 rfl rfl (fun r35792 q35793 g35794 => ?_))
          refine wp_of e118 c118_24 (rw_iload_n (pc' := 25) (z := a2) rfl rfl ?_)
          refine wp_of e118 c118_25 (xa_R (pc' := 26) (by decide) hW g35794 sh_14 (by decide) (ty_14 _) (by omega) (by omega) rfl (fun r35795 q35796 g35797 => ?_))
          refine wp_of e118 c118_26 (rw_iload (pc' := 28) (z := v35783) rfl rfl ?_)
          refine wp_of e118 c118_28 (xa_I (so := 0) (pc' := 29) hW g35797 sh_15 (by decide) (ty_15 _) (by omega) (by omega) rfl (fun b35798 b35799 => ?_))
          refine wp_of e118 c118_29 (rw_if_le (p1 := 68) (p2 := 32) (by decide) rfl ⟨by omega, by omega⟩ (fun c35800 => ?_) (fun c35800 => ?_))
          · refine wp_of e118 c118_68 (rw_iinc (pc' := 71) (z := v35783) (L' := [(5, vI (v35783 + 1)), (4, vI v35784), (0, .ref r0), (1, .ref r1), (2, vI a2), (3, vI a3)]) rfl rfl rfl rfl ?_)
            refine wp_of e118 c118_71 (rw_goto (p1 := 6) (by decide) ?_)
            exact wp_lc (ks := [5, 4, 0, 1, 2, 3]) (wl_c rfl (wl_c rfl (wl_c rfl (wl_c rfl (wl_c rfl (wl_c rfl wl_n)))))) rfl (by decide) (ih35782 _ (by omega) (v35783 + 1) v35784 ⟨by omega, by omega⟩ ⟨by omega, by omega⟩ rfl)
          · refine wp_of e118 c118_32 (rw_iload (pc' := 34) (z := v35784) rfl rfl ?_)
            refine wp_of e118 c118_34 (rw_if_lt (p1 := 62) (p2 := 37) (by decide) rfl ⟨by omega, by omega⟩ (fun c35801 => ?_) (fun c35801 => ?_))
            · refine wp_of e118 c118_62 (rw_aload_n (pc' := 63) (v := .ref r1) rfl rfl rfl ?_)
              refine wp_of e118 c118_63 (rw_iload (pc' := 65) (z := v35783) rfl rfl ?_)
              refine wp_of e118 c118_65 (xa_I (so := 0) (pc' := 66) hW g1 sh_36 (by decide) (ty_36 _) (by omega) (by omega) rfl (fun b35802 b35803 => ?_))
              refine wp_of e118 c118_66 (rw_istore (pc' := 68) (z := H r1 v35783.toNat) (L' := [(4, vI (H r1 v35783.toNat)), (5, vI v35783), (0, .ref r0), (1, .ref r1), (2, vI a2), (3, vI a3)]) rfl rfl rfl ?_)
              refine wp_of e118 c118_68 (rw_iinc (pc' := 71) (z := v35783) (L' := [(5, vI (v35783 + 1)), (4, vI (H r1 v35783.toNat)), (0, .ref r0), (1, .ref r1), (2, vI a2), (3, vI a3)]) rfl rfl rfl rfl ?_)
              refine wp_of e118 c118_71 (rw_goto (p1 := 6) (by decide) ?_)
              exact wp_lc (ks := [5, 4, 0, 1, 2, 3]) (wl_c rfl (wl_c rfl (wl_c rfl (wl_c rfl (wl_c rfl (wl_c rfl wl_n)))))) rfl (by decide) (ih35782 _ (by omega) (v35783 + 1) (H r1 v35783.toNat) ⟨by omega, by omega⟩ ⟨by omega, by omega⟩ rfl)
            · refine wp_of e118 c118_37 (rw_iload_n (pc' := 38) (z := a3) rfl rfl ?_)
              refine wp_of e118 c118_38 (rw_if_eq (p1 := 53) (p2 := 41) (by decide) rfl ⟨by omega, by omega⟩ (fun c35804 => ?_) (fun c35804 => ?_))
              · refine wp_of e118 c118_53 (rw_aload_n (pc' := 54) (v := .ref r1) rfl rfl rfl ?_)
                refine wp_of e118 c118_54 (rw_iload (pc' := 56) (z := v35783) rfl rfl ?_)
                refine wp_of e118 c118_56 (xa_I (so := 0) (pc' := 57) hW g1 sh_36 (by decide) (ty_36 _) (by omega) (by omega) rfl (fun b35805 b35806 => ?_))
                refine wp_of e118 c118_57 (rw_iload (pc' := 59) (z := v35784) rfl rfl ?_)
                refine wp_of e118 c118_59 (rw_icmp_ge (p1 := 68) (p2 := 62) (by decide) rfl ⟨by omega, by omega⟩ ⟨by omega, by omega⟩ (fun c35807 => ?_) (fun c35807 => ?_))
                · refine wp_of e118 c118_68 (rw_iinc (pc' := 71) (z := v35783) (L' := [(5, vI (v35783 + 1)), (4, vI v35784), (0, .ref r0), (1, .ref r1), (2, vI a2), (3, vI a3)]) rfl rfl rfl rfl ?_)
                  refine wp_of e118 c118_71 (rw_goto (p1 := 6) (by decide) ?_)
                  exact wp_lc (ks := [5, 4, 0, 1, 2, 3]) (wl_c rfl (wl_c rfl (wl_c rfl (wl_c rfl (wl_c rfl (wl_c rfl wl_n)))))) rfl (by decide) (ih35782 _ (by omega) (v35783 + 1) v35784 ⟨by omega, by omega⟩ ⟨by omega, by omega⟩ rfl)
                · refine wp_of e118 c118_62 (rw_aload_n (pc' := 63) (v := .ref r1) rfl rfl rfl ?_)
                  refine wp_of e118 c118_63 (rw_iload (pc' := 65) (z := v35783) rfl rfl ?_)
                  refine wp_of e118 c118_65 (xa_I (so := 0) (pc' := 66) hW g1 sh_36 (by decide) (ty_36 _) (by omega) (by omega) rfl (fun b35808 b35809 => ?_))
                  refine wp_of e118 c118_66 (rw_istore (pc' := 68) (z := H r1 v35783.toNat) (L' := [(4, vI (H r1 v35783.toNat)), (5, vI v35783), (0, .ref r0), (1, .ref r1), (2, vI a2), (3, vI a3)]) rfl rfl rfl ?_)
                  refine wp_of e118 c118_68 (rw_iinc (pc' := 71) (z := v35783) (L' := [(5, vI (v35783 + 1)), (4, vI (H r1 v35783.toNat)), (0, .ref r0), (1, .ref r1), (2, vI a2), (3, vI a3)]) rfl rfl rfl rfl ?_)
                  refine wp_of e118 c118_71 (rw_goto (p1 := 6) (by decide) ?_)
                  exact wp_lc (ks := [5, 4, 0, 1, 2, 3]) (wl_c rfl (wl_c rfl (wl_c rfl (wl_c rfl (wl_c rfl (wl_c rfl wl_n)))))) rfl (by decide) (ih35782 _ (by omega) (v35783 + 1) (H r1 v35783.toNat) ⟨by omega, by omega⟩ ⟨by omega, by omega⟩ rfl)
              · refine wp_of e118 c118_41 (rw_aload_n (pc' := 42) (v := .ref r1) rfl rfl rfl ?_)
                refine wp_of e118 c118_42 (rw_iload (pc' := 44) (z := v35783) rfl rfl ?_)
                refine wp_of e118 c118_44 (xa_I (so := 0) (pc' := 45) hW g1 sh_36 (by decide) (ty_36 _) (by omega) (by omega) rfl (fun b35810 b35811 => ?_))
                refine wp_of e118 c118_45 (rw_iload (pc' := 47) (z := v35784) rfl rfl ?_)
                refine wp_of e118 c118_47 (rw_icmp_le (p1 := 68) (p2 := 50) (by decide) rfl ⟨by omega, by omega⟩ ⟨by omega, by omega⟩ (fun c35812 => ?_) (fun c35812 => ?_))
                · refine wp_of e118 c118_68 (rw_iinc (pc' := 71) (z := v35783) (L' := [(5, vI (v35783 + 1)), (4, vI v35784), (0, .ref r0), (1, .ref r1), (2, vI a2), (3, vI a3)]) rfl rfl rfl rfl ?_)
                  refine wp_of e118 c118_71 (rw_goto (p1 := 6) (by decide) ?_)
                  exact wp_lc (ks := [5, 4, 0, 1, 2, 3]) (wl_c rfl (wl_c rfl (wl_c rfl (wl_c rfl (wl_c rfl (wl_c rfl wl_n)))))) rfl (by decide) (ih35782 _ (by omega) (v35783 + 1) v35784 ⟨by omega, by omega⟩ ⟨by omega, by omega⟩ rfl)
                · refine wp_of e118 c118_50 (rw_goto (p1 := 62) (by decide) ?_)
                  refine wp_of e118 c118_62 (rw_aload_n (pc' := 63) (v := .ref r1) rfl rfl rfl ?_)
                  refine wp_of e118 c118_63 (rw_iload (pc' := 65) (z := v35783) rfl rfl ?_)
                  refine wp_of e118 c118_65 (xa_I (so := 0) (pc' := 66) hW g1 sh_36 (by decide) (ty_36 _) (by omega) (by omega) rfl (fun b35813 b35814 => ?_))
                  refine wp_of e118 c118_66 (rw_istore (pc' := 68) (z := H r1 v35783.toNat) (L' := [(4, vI (H r1 v35783.toNat)), (5, vI v35783), (0, .ref r0), (1, .ref r1), (2, vI a2), (3, vI a3)]) rfl rfl rfl ?_)
                  refine wp_of e118 c118_68 (rw_iinc (pc' := 71) (z := v35783) (L' := [(5, vI (v35783 + 1)), (4, vI (H r1 v35783.toNat)), (0, .ref r0), (1, .ref r1), (2, vI a2), (3, vI a3)]) rfl rfl rfl rfl ?_)
                  refine wp_of e118 c118_71 (rw_goto (p1 := 6) (by decide) ?_)
                  exact wp_lc (ks := [5, 4, 0, 1, 2, 3]) (wl_c rfl (wl_c rfl (wl_c rfl (wl_c rfl (wl_c rfl (wl_c rfl wl_n)))))) rfl (by decide) (ih35782 _ (by omega) (v35783 + 1) (H r1 v35783.toNat) ⟨by omega, by omega⟩ ⟨by omega, by omega⟩ rfl)
  exact wp_lc (ks := [5, 4, 0, 1, 2, 3]) (wl_c rfl (wl_c rfl (wl_c rfl (wl_c rfl (wl_c rfl (wl_c rfl wl_n)))))) rfl (by decide) (lp35780 _ 0 (-1) ⟨by omega, by omega⟩ ⟨by omega, by omega⟩ rfl)

/-! StrikeAwake$Census.outermost([IIZ)I -/
abbrev q_118_s (r0 : Nat) (r1 : Nat) (a2 : Int) (a3 : Int) (T : wq_T) (H : wq_H) : Option Value → wq_T → wq_H → Prop := fun r T' H' => T = T' ∧ H = H' ∧ ∃ z : Int, some (vI z) = r ∧ ((-2147483648) ≤ z ∧ z ≤ 2147483647)
set_option maxHeartbeats 4000000 in
theorem s_118_s {kt : Nat → Option mc_E} {T : wq_T} {H : wq_H} {r0 : Nat} {r1 : Nat} {a2 : Int} {a3 : Int} (hW : WT T H) (g0 : T.2.2.2 r0 = some 12) (g1 : T.2.2.2 r1 = some 37) (i2 : 0 ≤ a2 ∧ a2 ≤ 5) (i3 : 0 ≤ a3 ∧ a3 ≤ 1) : wpc kt 1 118 [.ref r0, .ref r1, vI a2, vI a3] T H (q_118_s r0 r1 a2 a3 T H) := by
  refine wp_enter e118 (Nat.le_of_ble_eq_true rfl) rfl ?_
  show wp _ _ 118 0 [(0, .ref r0), (1, .ref r1), (2, vI a2), (3, vI a3)] [] _ H _
  refine wp_of e118 c118_0 (rw_iconst (pc' := 1) rfl ?_)
  refine wp_of e118 c118_1 (rw_istore (pc' := 3) (z := -1) (L' := [(4, vI (-1)), (0, .ref r0), (1, .ref r1), (2, vI a2), (3, vI a3)]) rfl rfl rfl ?_)
  refine wp_of e118 c118_3 (rw_iconst (pc' := 4) rfl ?_)
  refine wp_of e118 c118_4 (rw_istore (pc' := 6) (z := 0) (L' := [(5, vI 0), (4, vI (-1)), (0, .ref r0), (1, .ref r1), (2, vI a2), (3, vI a3)]) rfl rfl rfl ?_)
  have lp36219 : ∀ (n36220 : Nat) (v36222 : Int) (v36223 : Int), (0 ≤ v36222 ∧ v36222 ≤ 40) → ((-1) ≤ v36223 ∧ v36223 ≤ 24) → (40 - v36222).toNat = n36220 → wp kt 0 118 6 [(5, vI v36222), (4, vI v36223), (0, .ref r0), (1, .ref r1), (2, vI a2), (3, vI a3)] [] T H (q_118_s r0 r1 a2 a3 T H) := by
    intro n36220
    induction n36220 using Nat.strongRecOn with
    | _ n36220 ih36221 =>
      intro v36222 v36223 b36226 b36227 m36228
      refine wp_of e118 c118_6 (rw_iload (pc' := 8) (z := v36222) rfl rfl ?_)
      refine wp_of e118 c118_8 (rw_bipush (pc' := 10) (z := 40) rfl (by decide) ?_)
      refine wp_of e118 c118_10 (rw_icmp_ge (p1 := 74) (p2 := 13) (by decide) rfl ⟨by omega, by omega⟩ ⟨by omega, by omega⟩ (fun c36229 => ?_) (fun c36229 => ?_))
      · refine wp_of e118 c118_74 (rw_iload (pc' := 76) (z := v36223) rfl rfl ?_)
        exact wp_ireturn e118 c118_76 rfl ⟨rfl, rfl, v36223, rfl, ⟨by omega, by omega⟩⟩
      · refine wp_of e118 c118_13 (rw_iload (pc' := 15) (z := v36222) rfl rfl ?_)
        refine wp_of e118 c118_15 (rw_aload_n (pc' := 16) (v := .ref r1) rfl rfl rfl ?_)
        refine wp_of e118 c118_16 (xa_N (pc' := 17) (n := 40) hW g1 sh_37 (by decide) rfl ?_)
        refine wp_of e118 c118_17 (rw_icmp_ge (p1 := 74) (p2 := 20) (by decide) rfl ⟨by omega, by omega⟩ ⟨by omega, by omega⟩ (fun c36230 => ?_) (fun c36230 => ?_))
        · exfalso
          omega
        · refine wp_of e118 c118_20 (rw_aload_n (pc' := 21) (v := .ref r0) rfl rfl rfl ?_)
          refine wp_of e118 c118_21 (xg_R (pc' := 24) lf_4_17 hW g0 sh_12 (by decide) (by decide) ty_12_1 rfl rfl (fun r36231 q36232 g36233 => ?_))
          refine wp_of e118 c118_24 (rw_iload_n (pc' := 25) (z := a2) rfl rfl ?_)
          refine wp_of e118 c118_25 (xa_R (pc' := 26) (by decide) hW g36233 sh_14 (by decide) (ty_14 _) (by omega) (by omega) rfl (fun r36234 q36235 g36236 => ?_))
          refine wp_of e118 c118_26 (rw_iload (pc' := 28) (z := v36222) rfl rfl ?_)
          refine wp_of e118 c118_28 (xa_I (so := 0) (pc' := 29) hW g36236 sh_15 (by decide) (ty_15 _) (by omega) (by omega) rfl (fun b36237 b36238 => ?_))
          refine wp_of e118 c118_29 (rw_if_le (p1 := 68) (p2 := 32) (by decide) rfl ⟨by omega, by omega⟩ (fun c36239 => ?_) (fun c36239 => ?_))
          · refine wp_of e118 c118_68 (rw_iinc (pc' := 71) (z := v36222) (L' := [(5, vI (v36222 + 1)), (4, vI v36223), (0, .ref r0), (1, .ref r1), (2, vI a2), (3, vI a3)]) rfl rfl rfl rfl ?_)
            refine wp_of e118 c118_71 (rw_goto (p1 := 6) (by decide) ?_)
            exact wp_lc (ks := [5, 4, 0, 1, 2, 3]) (wl_c rfl (wl_c rfl (wl_c rfl (wl_c rfl (wl_c rfl (wl_c rfl wl_n)))))) rfl (by decide) (ih36221 _ (by omega) (v36222 + 1) v36223 ⟨by omega, by omega⟩ ⟨by omega, by omega⟩ rfl)
          · refine wp_of e118 c118_32 (rw_iload (pc' := 34) (z := v36223) rfl rfl ?_)
            refine wp_of e118 c118_34 (rw_if_lt (p1 := 62) (p2 := 37) (by decide) rfl ⟨by omega, by omega⟩ (fun c36240 => ?_) (fun c36240 => ?_))
            · refine wp_of e118 c118_62 (rw_aload_n (pc' := 63) (v := .ref r1) rfl rfl rfl ?_)
              refine wp_of e118 c118_63 (rw_iload (pc' := 65) (z := v36222) rfl rfl ?_)
              refine wp_of e118 c118_65 (xa_I (so := 0) (pc' := 66) hW g1 sh_37 (by decide) (ty_37 _) (by omega) (by omega) rfl (fun b36241 b36242 => ?_))
              refine wp_of e118 c118_66 (rw_istore (pc' := 68) (z := H r1 v36222.toNat) (L' := [(4, vI (H r1 v36222.toNat)), (5, vI v36222), (0, .ref r0), (1, .ref r1), (2, vI a2), (3, vI a3)]) rfl rfl rfl ?_)
              refine wp_of e118 c118_68 (rw_iinc (pc' := 71) (z := v36222) (L' := [(5, vI (v36222 + 1)), (4, vI (H r1 v36222.toNat)), (0, .ref r0), (1, .ref r1), (2, vI a2), (3, vI a3)]) rfl rfl rfl rfl ?_)
              refine wp_of e118 c118_71 (rw_goto (p1 := 6) (by decide) ?_)
              exact wp_lc (ks := [5, 4, 0, 1, 2, 3]) (wl_c rfl (wl_c rfl (wl_c rfl (wl_c rfl (wl_c rfl (wl_c rfl wl_n)))))) rfl (by decide) (ih36221 _ (by omega) (v36222 + 1) (H r1 v36222.toNat) ⟨by omega, by omega⟩ ⟨by omega, by omega⟩ rfl)
            · refine wp_of e118 c118_37 (rw_iload_n (pc' := 38) (z := a3) rfl rfl ?_)
              refine wp_of e118 c118_38 (rw_if_eq (p1 := 53) (p2 := 41) (by decide) rfl ⟨by omega, by omega⟩ (fun c36243 => ?_) (fun c36243 => ?_))
              · refine wp_of e118 c118_53 (rw_aload_n (pc' := 54) (v := .ref r1) rfl rfl rfl ?_)
                refine wp_of e118 c118_54 (rw_iload (pc' := 56) (z := v36222) rfl rfl ?_)
                refine wp_of e118 c118_56 (xa_I (so := 0) (pc' := 57) hW g1 sh_37 (by decide) (ty_37 _) (by omega) (by omega) rfl (fun b36244 b36245 => ?_))
                refine wp_of e118 c118_57 (rw_iload (pc' := 59) (z := v36223) rfl rfl ?_)
                refine wp_of e118 c118_59 (rw_icmp_ge (p1 := 68) (p2 := 62) (by decide) rfl ⟨by omega, by omega⟩ ⟨by omega, by omega⟩ (fun c36246 => ?_) (fun c36246 => ?_))
                · refine wp_of e118 c118_68 (rw_iinc (pc' := 71) (z := v36222) (L' := [(5, vI (v36222 + 1)), (4, vI v36223), (0, .ref r0), (1, .ref r1), (2, vI a2), (3, vI a3)]) rfl rfl rfl rfl ?_)
                  refine wp_of e118 c118_71 (rw_goto (p1 := 6) (by decide) ?_)
                  exact wp_lc (ks := [5, 4, 0, 1, 2, 3]) (wl_c rfl (wl_c rfl (wl_c rfl (wl_c rfl (wl_c rfl (wl_c rfl wl_n)))))) rfl (by decide) (ih36221 _ (by omega) (v36222 + 1) v36223 ⟨by omega, by omega⟩ ⟨by omega, by omega⟩ rfl)
                · refine wp_of e118 c118_62 (rw_aload_n (pc' := 63) (v := .ref r1) rfl rfl rfl ?_)
                  refine wp_of e118 c118_63 (rw_iload (pc' := 65) (z := v36222) rfl rfl ?_)
                  refine wp_of e118 c118_65 (xa_I (so := 0) (pc' := 66) hW g1 sh_37 (by decide) (ty_37 _) (by omega) (by omega) rfl (fun b36247 b36248 => ?_))
                  refine wp_of e118 c118_66 (rw_istore (pc' := 68) (z := H r1 v36222.toNat) (L' := [(4, vI (H r1 v36222.toNat)), (5, vI v36222), (0, .ref r0), (1, .ref r1), (2, vI a2), (3, vI a3)]) rfl rfl rfl ?_)
                  refine wp_of e118 c118_68 (rw_iinc (pc' := 71) (z := v36222) (L' := [(5, vI (v36222 + 1)), (4, vI (H r1 v36222.toNat)), (0, .ref r0), (1, .ref r1), (2, vI a2), (3, vI a3)]) rfl rfl rfl rfl ?_)
                  refine wp_of e118 c118_71 (rw_goto (p1 := 6) (by decide) ?_)
                  exact wp_lc (ks := [5, 4, 0, 1, 2, 3]) (wl_c rfl (wl_c rfl (wl_c rfl (wl_c rfl (wl_c rfl (wl_c rfl wl_n)))))) rfl (by decide) (ih36221 _ (by omega) (v36222 + 1) (H r1 v36222.toNat) ⟨by omega, by omega⟩ ⟨by omega, by omega⟩ rfl)
              · refine wp_of e118 c118_41 (rw_aload_n (pc' := 42) (v := .ref r1) rfl rfl rfl ?_)
                refine wp_of e118 c118_42 (rw_iload (pc' := 44) (z := v36222) rfl rfl ?_)
                refine wp_of e118 c118_44 (xa_I (so := 0) (pc' := 45) hW g1 sh_37 (by decide) (ty_37 _) (by omega) (by omega) rfl (fun b36249 b36250 => ?_))
                refine wp_of e118 c118_45 (rw_iload (pc' := 47) (z := v36223) rfl rfl ?_)
                refine wp_of e118 c118_47 (rw_icmp_le (p1 := 68) (p2 := 50) (by decide) rfl ⟨by omega, by omega⟩ ⟨by omega, by omega⟩ (fun c36251 => ?_) (fun c36251 => ?_))
                · refine wp_of e118 c118_68 (rw_iinc (pc' := 71) (z := v36222) (L' := [(5, vI (v36222 + 1)), (4, vI v36223), (0, .ref r0), (1, .ref r1), (2, vI a2), (3, vI a3)]) rfl rfl rfl rfl ?_)
                  refine wp_of e118 c118_71 (rw_goto (p1 := 6) (by decide) ?_)
                  exact wp_lc (ks := [5, 4, 0, 1, 2, 3]) (wl_c rfl (wl_c rfl (wl_c rfl (wl_c rfl (wl_c rfl (wl_c rfl wl_n)))))) rfl (by decide) (ih36221 _ (by omega) (v36222 + 1) v36223 ⟨by omega, by omega⟩ ⟨by omega, by omega⟩ rfl)
                · refine wp_of e118 c118_50 (rw_goto (p1 := 62) (by decide) ?_)
                  refine wp_of e118 c118_62 (rw_aload_n (pc' := 63) (v := .ref r1) rfl rfl rfl ?_)
                  refine wp_of e118 c118_63 (rw_iload (pc' := 65) (z := v36222) rfl rfl ?_)
                  refine wp_of e118 c118_65 (xa_I (so := 0) (pc' := 66) hW g1 sh_37 (by decide) (ty_37 _) (by omega) (by omega) rfl (fun b36252 b36253 => ?_))
                  refine wp_of e118 c118_66 (rw_istore (pc' := 68) (z := H r1 v36222.toNat) (L' := [(4, vI (H r1 v36222.toNat)), (5, vI v36222), (0, .ref r0), (1, .ref r1), (2, vI a2), (3, vI a3)]) rfl rfl rfl ?_)
                  refine wp_of e118 c118_68 (rw_iinc (pc' := 71) (z := v36222) (L' := [(5, vI (v36222 + 1)), (4, vI (H r1 v36222.toNat)), (0, .ref r0), (1, .ref r1), (2, vI a2), (3, vI a3)]) rfl rfl rfl rfl ?_)
                  refine wp_of e118 c118_71 (rw_goto (p1 := 6) (by decide) ?_)
                  exact wp_lc (ks := [5, 4, 0, 1, 2, 3]) (wl_c rfl (wl_c rfl (wl_c rfl (wl_c rfl (wl_c rfl (wl_c rfl wl_n)))))) rfl (by decide) (ih36221 _ (by omega) (v36222 + 1) (H r1 v36222.toNat) ⟨by omega, by omega⟩ ⟨by omega, by omega⟩ rfl)
  exact wp_lc (ks := [5, 4, 0, 1, 2, 3]) (wl_c rfl (wl_c rfl (wl_c rfl (wl_c rfl (wl_c rfl (wl_c rfl wl_n)))))) rfl (by decide) (lp36219 _ 0 (-1) ⟨by omega, by omega⟩ ⟨by omega, by omega⟩ rfl)
/-! StrikeAwake.bed(IZ)I -/
theorem e117 : wq_en 117 = some (0, 4, false, some FieldType.int) := rfl
theorem c117_0 : mc_cd 117 0 = some (.aload_n 0, 1) := by decide +kernel
theorem c117_1 : mc_cd 117 1 = some (.aload_n 0, 1) := by decide +kernel
theorem c117_2 : mc_cd 117 2 = some (.iload_n 1, 1) := by decide +kernel
theorem c117_3 : mc_cd 117 3 = some (.invokevirtual 105, 3) := by decide +kernel
theorem c117_6 : mc_cd 117 6 = some (.invokevirtual 198, 3) := by decide +kernel
theorem c117_9 : mc_cd 117 9 = some (.istore_n 3, 1) := by decide +kernel
theorem c117_10 : mc_cd 117 10 = some (.iload_n 3, 1) := by decide +kernel
theorem c117_11 : mc_cd 117 11 = some (.ifCond .eq 9, 3) := by decide +kernel
theorem c117_14 : mc_cd 117 14 = some (.aload_n 0, 1) := by decide +kernel
theorem c117_15 : mc_cd 117 15 = some (.iload_n 3, 1) := by decide +kernel
theorem c117_16 : mc_cd 117 16 = some (.invokevirtual 70, 3) := by decide +kernel
theorem c117_19 : mc_cd 117 19 = some (.ireturn, 1) := by decide +kernel
theorem c117_20 : mc_cd 117 20 = some (.aload_n 0, 1) := by decide +kernel
theorem c117_21 : mc_cd 117 21 = some (.aload_n 0, 1) := by decide +kernel
theorem c117_22 : mc_cd 117 22 = some (.getfield 30, 3) := by decide +kernel
theorem c117_25 : mc_cd 117 25 = some (.aload_n 0, 1) := by decide +kernel
theorem c117_26 : mc_cd 117 26 = some (.getfield 51, 3) := by decide +kernel
theorem c117_29 : mc_cd 117 29 = some (.getfield 109, 3) := by decide +kernel
theorem c117_32 : mc_cd 117 32 = some (.iload_n 1, 1) := by decide +kernel
theorem c117_33 : mc_cd 117 33 = some (.aaload, 1) := by decide +kernel
theorem c117_34 : mc_cd 117 34 = some (.getfield 125, 3) := by decide +kernel
theorem c117_37 : mc_cd 117 37 = some (.iload_n 1, 1) := by decide +kernel
theorem c117_38 : mc_cd 117 38 = some (.iload_n 2, 1) := by decide +kernel
theorem c117_39 : mc_cd 117 39 = some (.invokevirtual 223, 3) := by decide +kernel
theorem c117_42 : mc_cd 117 42 = some (.invokevirtual 99, 3) := by decide +kernel
theorem c117_45 : mc_cd 117 45 = some (.ireturn, 1) := by decide +kernel
abbrev q_117 (r0 : Nat) (a1 : Int) (a2 : Int) (T : wq_T) (H : wq_H) : Option Value → wq_T → wq_H → Prop := fun r T' H' => T = T' ∧ WT T H' ∧ wfr [(12, 5), (12, 6), (12, 7), (12, 8), (12, 9), (1, 10), (6, 5), (8, 999), (10, 999), (15, 999), (9, 999), (18, 999), (19, 999), (7, 999), (11, 999), (17, 999), (13, 999)] T H H' ∧ ∃ z : Int, some (vI z) = r ∧ ((-2147483648) ≤ z ∧ z ≤ 2147483647)
set_option maxHeartbeats 4000000 in
theorem s_117 {kt : Nat → Option mc_E} {T : wq_T} {H : wq_H} {r0 : Nat} {a1 : Int} {a2 : Int} (hW : WT T H) (g0 : T.2.2.2 r0 = some 1) (i1 : (-2147483648) ≤ a1 ∧ a1 ≤ 2147483647) (i2 : 0 ≤ a2 ∧ a2 ≤ 1) : wpc kt 7 117 [.ref r0, vI a1, vI a2] T H (q_117 r0 a1 a2 T H) := by
  refine wp_enter e117 (Nat.le_of_ble_eq_true rfl) rfl ?_
  have f0 : wfr [(12, 5), (12, 6), (12, 7), (12, 8), (12, 9), (1, 10), (6, 5), (8, 999), (10, 999), (15, 999), (9, 999), (18, 999), (19, 999), (7, 999), (11, 999), (17, 999), (13, 999)] T H H := wfr.rf
  show wp _ _ 117 0 [(0, .ref r0), (1, vI a1), (2, vI a2)] [] _ H _
  refine wp_of e117 c117_0 (rw_aload_n (pc' := 1) (v := .ref r0) rfl rfl rfl ?_)
  refine wp_of e117 c117_1 (rw_aload_n (pc' := 2) (v := .ref r0) rfl rfl rfl ?_)
  refine wp_of e117 c117_2 (rw_iload_n (pc' := 3) (z := a1) rfl rfl ?_)
  refine wp_of e117 c117_3 (xc_V (pc' := 6) (r := r0) (as := [vI a1]) (st := [.ref r0]) (lm_0_105) rfl rfl (Nat.le_of_ble_eq_true rfl) hW g0 sh_1 (by decide) rfl (by decide) (s_55 hW g0 ⟨by omega, by omega⟩) (fun R36323 T36324 H36325 p36326 => ?_))
  obtain ⟨e36327, e36329, z36331, e36328, b36332, p36330⟩ := p36326
  subst e36327
  subst e36328
  subst e36329
  show wp _ _ 117 6 [(0, .ref r0), (1, vI a1), (2, vI a2)] [vI z36331, .ref r0] _ H _
  refine wp_of e117 c117_6 (xc_V (pc' := 9) (r := r0) (as := [vI z36331]) (st := []) (lm_0_198) rfl rfl (Nat.le_of_ble_eq_true rfl) hW g0 sh_1 (by decide) rfl (by decide) (s_102 hW g0 ⟨by omega, by omega⟩) (fun R36333 T36334 H36335 p36336 => ?_))
  obtain ⟨e36337, w36339, f36340, z36342, e36338, b36343, p36341⟩ := p36336
  subst e36337
  subst e36338
  have f36344 := f0.tr f36340 rfl
  show wp _ _ 117 9 [(0, .ref r0), (1, vI a1), (2, vI a2)] [vI z36342] _ H36335 _
  refine wp_of e117 c117_9 (rw_istore_n (pc' := 10) (z := z36342) (L' := [(3, vI z36342), (0, .ref r0), (1, vI a1), (2, vI a2)]) rfl rfl rfl ?_)
  refine wp_of e117 c117_10 (rw_iload_n (pc' := 11) (z := z36342) rfl rfl ?_)
  refine wp_of e117 c117_11 (rw_if_eq (p1 := 20) (p2 := 14) (by decide) rfl ⟨by omega, by omega⟩ (fun c36345 => ?_) (fun c36345 => ?_))
  · refine wp_of e117 c117_20 (rw_aload_n (pc' := 21) (v := .ref r0) rfl rfl rfl ?_)
    refine wp_of e117 c117_21 (rw_aload_n (pc' := 22) (v := .ref r0) rfl rfl rfl ?_)
    refine wp_of e117 c117_22 (xg_R (pc' := 25) lf_0_30 w36339 g0 sh_1 (by decide) (by decide) ty_1_3 rfl rfl (fun r36346 q36347 g36348 => ?_))
    refine wp_of e117 c117_25 (rw_aload_n (pc' := 26) (v := .ref r0) rfl rfl rfl ?_)
    refine wp_of e117 c117_26 (xg_R (pc' := 29) lf_0_51 w36339 g0 sh_1 (by decide) (by decide) ty_1_6 rfl rfl (fun r36349 q36350 g36351 => ?_))
    refine wp_of e117 c117_29 (xg_R (pc' := 32) lf_0_109 w36339 g36351 sh_27 (by decide) (by decide) ty_27_0 rfl rfl (fun r36352 q36353 g36354 => ?_))
    refine wp_of e117 c117_32 (rw_iload_n (pc' := 33) (z := a1) rfl rfl ?_)
    refine wp_of e117 c117_33 (xa_R (pc' := 34) (by decide) w36339 g36354 sh_28 (by decide) (ty_28 _) (by omega) (by omega) rfl (fun r36355 q36356 g36357 => ?_))
    refine wp_of e117 c117_34 (xg_R (pc' := 37) lf_0_125 w36339 g36357 sh_35 (by decide) (by decide) ty_35_0 rfl rfl (fun r36358 q36359 g36360 => ?_))
    refine wp_of e117 c117_37 (rw_iload_n (pc' := 38) (z := a1) rfl rfl ?_)
    refine wp_of e117 c117_38 (rw_iload_n (pc' := 39) (z := a2) rfl rfl ?_)
    refine wp_of e117 c117_39 (xc_V (pc' := 42) (r := r36346) (as := [.ref r36358, vI a1, vI a2]) (st := [.ref r0]) (lm_0_223) rfl rfl (Nat.le_of_ble_eq_true rfl) w36339 g36348 sh_12 (by decide) rfl (by decide) (s_118_b w36339 g36348 g36360 ⟨by omega, by omega⟩ ⟨by omega, by omega⟩) (fun R36361 T36362 H36363 p36364 => ?_))
    obtain ⟨e36365, e36367, z36368, e36366, b36369⟩ := p36364
    subst e36365
    subst e36366
    subst e36367
    show wp _ _ 117 42 [(3, vI z36342), (0, .ref r0), (1, vI a1), (2, vI a2)] [vI z36368, .ref r0] _ H36335 _
    refine wp_of e117 c117_42 (xc_V (pc' := 45) (r := r0) (as := [vI z36368]) (st := []) (lm_0_99) rfl rfl (Nat.le_of_ble_eq_true rfl) w36339 g0 sh_1 (by decide) rfl (by decide) (s_51 w36339 g0 ⟨by omega, by omega⟩) (fun R36370 T36371 H36372 p36373 => ?_))
    obtain ⟨e36374, w36376, f36377, z36378, e36375, b36379⟩ := p36373
    subst e36374
    subst e36375
    have f36380 := f36344.tr f36377 rfl
    show wp _ _ 117 45 [(3, vI z36342), (0, .ref r0), (1, vI a1), (2, vI a2)] [vI z36378] _ H36372 _
    exact wp_ireturn e117 c117_45 rfl ⟨rfl, w36376, f36380, z36378, rfl, ⟨by omega, by omega⟩⟩
  · refine wp_of e117 c117_14 (rw_aload_n (pc' := 15) (v := .ref r0) rfl rfl rfl ?_)
    refine wp_of e117 c117_15 (rw_iload_n (pc' := 16) (z := z36342) rfl rfl ?_)
    refine wp_of e117 c117_16 (xc_V (pc' := 19) (r := r0) (as := [vI z36342]) (st := []) (lm_0_70) rfl rfl (Nat.le_of_ble_eq_true rfl) w36339 g0 sh_1 (by decide) rfl (by decide) (s_12 w36339 g0 ⟨by omega, by omega⟩) (fun R36381 T36382 H36383 p36384 => ?_))
    obtain ⟨e36385, w36387, f36388, z36389, e36386, b36390⟩ := p36384
    subst e36385
    subst e36386
    have f36391 := f36344.tr f36388 rfl
    show wp _ _ 117 19 [(3, vI z36342), (0, .ref r0), (1, vI a1), (2, vI a2)] [vI z36389] _ H36383 _
    exact wp_ireturn e117 c117_19 rfl ⟨rfl, w36387, f36391, z36389, rfl, ⟨by omega, by omega⟩⟩
/-! StrikeAwake.sleeps(IZ)I -/
theorem e119 : wq_en 119 = some (0, 4, false, some FieldType.int) := rfl
theorem c119_0 : mc_cd 119 0 = some (.aload_n 0, 1) := by decide +kernel
theorem c119_1 : mc_cd 119 1 = some (.aload_n 0, 1) := by decide +kernel
theorem c119_2 : mc_cd 119 2 = some (.iload_n 1, 1) := by decide +kernel
theorem c119_3 : mc_cd 119 3 = some (.invokevirtual 105, 3) := by decide +kernel
theorem c119_6 : mc_cd 119 6 = some (.invokevirtual 198, 3) := by decide +kernel
theorem c119_9 : mc_cd 119 9 = some (.istore_n 3, 1) := by decide +kernel
theorem c119_10 : mc_cd 119 10 = some (.iload_n 3, 1) := by decide +kernel
theorem c119_11 : mc_cd 119 11 = some (.ifCond .eq 9, 3) := by decide +kernel
theorem c119_14 : mc_cd 119 14 = some (.aload_n 0, 1) := by decide +kernel
theorem c119_15 : mc_cd 119 15 = some (.iload_n 3, 1) := by decide +kernel
theorem c119_16 : mc_cd 119 16 = some (.invokevirtual 70, 3) := by decide +kernel
theorem c119_19 : mc_cd 119 19 = some (.ireturn, 1) := by decide +kernel
theorem c119_20 : mc_cd 119 20 = some (.aload_n 0, 1) := by decide +kernel
theorem c119_21 : mc_cd 119 21 = some (.aload_n 0, 1) := by decide +kernel
theorem c119_22 : mc_cd 119 22 = some (.getfield 30, 3) := by decide +kernel
theorem c119_25 : mc_cd 119 25 = some (.aload_n 0, 1) := by decide +kernel
theorem c119_26 : mc_cd 119 26 = some (.getfield 51, 3) := by decide +kernel
theorem c119_29 : mc_cd 119 29 = some (.getfield 109, 3) := by decide +kernel
theorem c119_32 : mc_cd 119 32 = some (.iload_n 1, 1) := by decide +kernel
theorem c119_33 : mc_cd 119 33 = some (.aaload, 1) := by decide +kernel
theorem c119_34 : mc_cd 119 34 = some (.getfield 129, 3) := by decide +kernel
theorem c119_37 : mc_cd 119 37 = some (.iload_n 1, 1) := by decide +kernel
theorem c119_38 : mc_cd 119 38 = some (.iload_n 2, 1) := by decide +kernel
theorem c119_39 : mc_cd 119 39 = some (.invokevirtual 223, 3) := by decide +kernel
theorem c119_42 : mc_cd 119 42 = some (.invokevirtual 99, 3) := by decide +kernel
theorem c119_45 : mc_cd 119 45 = some (.ireturn, 1) := by decide +kernel
abbrev q_119 (r0 : Nat) (a1 : Int) (a2 : Int) (T : wq_T) (H : wq_H) : Option Value → wq_T → wq_H → Prop := fun r T' H' => T = T' ∧ WT T H' ∧ wfr [(12, 5), (12, 6), (12, 7), (12, 8), (12, 9), (1, 10), (6, 5), (8, 999), (10, 999), (15, 999), (9, 999), (18, 999), (19, 999), (7, 999), (11, 999), (17, 999), (13, 999)] T H H' ∧ ∃ z : Int, some (vI z) = r ∧ ((-2147483648) ≤ z ∧ z ≤ 2147483647)
set_option maxHeartbeats 4000000 in
theorem s_119 {kt : Nat → Option mc_E} {T : wq_T} {H : wq_H} {r0 : Nat} {a1 : Int} {a2 : Int} (hW : WT T H) (g0 : T.2.2.2 r0 = some 1) (i1 : (-2147483648) ≤ a1 ∧ a1 ≤ 2147483647) (i2 : 0 ≤ a2 ∧ a2 ≤ 1) : wpc kt 7 119 [.ref r0, vI a1, vI a2] T H (q_119 r0 a1 a2 T H) := by
  refine wp_enter e119 (Nat.le_of_ble_eq_true rfl) rfl ?_
  have f0 : wfr [(12, 5), (12, 6), (12, 7), (12, 8), (12, 9), (1, 10), (6, 5), (8, 999), (10, 999), (15, 999), (9, 999), (18, 999), (19, 999), (7, 999), (11, 999), (17, 999), (13, 999)] T H H := wfr.rf
  show wp _ _ 119 0 [(0, .ref r0), (1, vI a1), (2, vI a2)] [] _ H _
  refine wp_of e119 c119_0 (rw_aload_n (pc' := 1) (v := .ref r0) rfl rfl rfl ?_)
  refine wp_of e119 c119_1 (rw_aload_n (pc' := 2) (v := .ref r0) rfl rfl rfl ?_)
  refine wp_of e119 c119_2 (rw_iload_n (pc' := 3) (z := a1) rfl rfl ?_)
  refine wp_of e119 c119_3 (xc_V (pc' := 6) (r := r0) (as := [vI a1]) (st := [.ref r0]) (lm_0_105) rfl rfl (Nat.le_of_ble_eq_true rfl) hW g0 sh_1 (by decide) rfl (by decide) (s_55 hW g0 ⟨by omega, by omega⟩) (fun R36461 T36462 H36463 p36464 => ?_))
  obtain ⟨e36465, e36467, z36469, e36466, b36470, p36468⟩ := p36464
  subst e36465
  subst e36466
  subst e36467
  show wp _ _ 119 6 [(0, .ref r0), (1, vI a1), (2, vI a2)] [vI z36469, .ref r0] _ H _
  refine wp_of e119 c119_6 (xc_V (pc' := 9) (r := r0) (as := [vI z36469]) (st := []) (lm_0_198) rfl rfl (Nat.le_of_ble_eq_true rfl) hW g0 sh_1 (by decide) rfl (by decide) (s_102 hW g0 ⟨by omega, by omega⟩) (fun R36471 T36472 H36473 p36474 => ?_))
  obtain ⟨e36475, w36477, f36478, z36480, e36476, b36481, p36479⟩ := p36474
  subst e36475
  subst e36476
  have f36482 := f0.tr f36478 rfl
  show wp _ _ 119 9 [(0, .ref r0), (1, vI a1), (2, vI a2)] [vI z36480] _ H36473 _
  refine wp_of e119 c119_9 (rw_istore_n (pc' := 10) (z := z36480) (L' := [(3, vI z36480), (0, .ref r0), (1, vI a1), (2, vI a2)]) rfl rfl rfl ?_)
  refine wp_of e119 c119_10 (rw_iload_n (pc' := 11) (z := z36480) rfl rfl ?_)
  refine wp_of e119 c119_11 (rw_if_eq (p1 := 20) (p2 := 14) (by decide) rfl ⟨by omega, by omega⟩ (fun c36483 => ?_) (fun c36483 => ?_))
  · refine wp_of e119 c119_20 (rw_aload_n (pc' := 21) (v := .ref r0) rfl rfl rfl ?_)
    refine wp_of e119 c119_21 (rw_aload_n (pc' := 22) (v := .ref r0) rfl rfl rfl ?_)
    refine wp_of e119 c119_22 (xg_R (pc' := 25) lf_0_30 w36477 g0 sh_1 (by decide) (by decide) ty_1_3 rfl rfl (fun r36484 q36485 g36486 => ?_))
    refine wp_of e119 c119_25 (rw_aload_n (pc' := 26) (v := .ref r0) rfl rfl rfl ?_)
    refine wp_of e119 c119_26 (xg_R (pc' := 29) lf_0_51 w36477 g0 sh_1 (by decide) (by decide) ty_1_6 rfl rfl (fun r36487 q36488 g36489 => ?_))
    refine wp_of e119 c119_29 (xg_R (pc' := 32) lf_0_109 w36477 g36489 sh_27 (by decide) (by decide) ty_27_0 rfl rfl (fun r36490 q36491 g36492 => ?_))
    refine wp_of e119 c119_32 (rw_iload_n (pc' := 33) (z := a1) rfl rfl ?_)
    refine wp_of e119 c119_33 (xa_R (pc' := 34) (by decide) w36477 g36492 sh_28 (by decide) (ty_28 _) (by omega) (by omega) rfl (fun r36493 q36494 g36495 => ?_))
    refine wp_of e119 c119_34 (xg_R (pc' := 37) lf_0_129 w36477 g36495 sh_35 (by decide) (by decide) ty_35_1 rfl rfl (fun r36496 q36497 g36498 => ?_))
    refine wp_of e119 c119_37 (rw_iload_n (pc' := 38) (z := a1) rfl rfl ?_)
    refine wp_of e119 c119_38 (rw_iload_n (pc' := 39) (z := a2) rfl rfl ?_)
    refine wp_of e119 c119_39 (xc_V (pc' := 42) (r := r36484) (as := [.ref r36496, vI a1, vI a2]) (st := [.ref r0]) (lm_0_223) rfl rfl (Nat.le_of_ble_eq_true rfl) w36477 g36486 sh_12 (by decide) rfl (by decide) (s_118_s w36477 g36486 g36498 ⟨by omega, by omega⟩ ⟨by omega, by omega⟩) (fun R36499 T36500 H36501 p36502 => ?_))
    obtain ⟨e36503, e36505, z36506, e36504, b36507⟩ := p36502
    subst e36503
    subst e36504
    subst e36505
    show wp _ _ 119 42 [(3, vI z36480), (0, .ref r0), (1, vI a1), (2, vI a2)] [vI z36506, .ref r0] _ H36473 _
    refine wp_of e119 c119_42 (xc_V (pc' := 45) (r := r0) (as := [vI z36506]) (st := []) (lm_0_99) rfl rfl (Nat.le_of_ble_eq_true rfl) w36477 g0 sh_1 (by decide) rfl (by decide) (s_51 w36477 g0 ⟨by omega, by omega⟩) (fun R36508 T36509 H36510 p36511 => ?_))
    obtain ⟨e36512, w36514, f36515, z36516, e36513, b36517⟩ := p36511
    subst e36512
    subst e36513
    have f36518 := f36482.tr f36515 rfl
    show wp _ _ 119 45 [(3, vI z36480), (0, .ref r0), (1, vI a1), (2, vI a2)] [vI z36516] _ H36510 _
    exact wp_ireturn e119 c119_45 rfl ⟨rfl, w36514, f36518, z36516, rfl, ⟨by omega, by omega⟩⟩
  · refine wp_of e119 c119_14 (rw_aload_n (pc' := 15) (v := .ref r0) rfl rfl rfl ?_)
    refine wp_of e119 c119_15 (rw_iload_n (pc' := 16) (z := z36480) rfl rfl ?_)
    refine wp_of e119 c119_16 (xc_V (pc' := 19) (r := r0) (as := [vI z36480]) (st := []) (lm_0_70) rfl rfl (Nat.le_of_ble_eq_true rfl) w36477 g0 sh_1 (by decide) rfl (by decide) (s_12 w36477 g0 ⟨by omega, by omega⟩) (fun R36519 T36520 H36521 p36522 => ?_))
    obtain ⟨e36523, w36525, f36526, z36527, e36524, b36528⟩ := p36522
    subst e36523
    subst e36524
    have f36529 := f36482.tr f36526 rfl
    show wp _ _ 119 19 [(3, vI z36480), (0, .ref r0), (1, vI a1), (2, vI a2)] [vI z36527] _ H36521 _
    exact wp_ireturn e119 c119_19 rfl ⟨rfl, w36525, f36529, z36527, rfl, ⟨by omega, by omega⟩⟩
/-! StrikeAwake.barOfAsking(Z)I -/
theorem e121 : wq_en 121 = some (0, 3, false, some FieldType.int) := rfl
theorem c121_0 : mc_cd 121 0 = some (.aload_n 0, 1) := by decide +kernel
theorem c121_1 : mc_cd 121 1 = some (.iload_n 1, 1) := by decide +kernel
theorem c121_2 : mc_cd 121 2 = some (.invokevirtual 174, 3) := by decide +kernel
theorem c121_5 : mc_cd 121 5 = some (.istore_n 2, 1) := by decide +kernel
theorem c121_6 : mc_cd 121 6 = some (.iload_n 2, 1) := by decide +kernel
theorem c121_7 : mc_cd 121 7 = some (.ifCond .eq 5, 3) := by decide +kernel
theorem c121_10 : mc_cd 121 10 = some (.iload_n 2, 1) := by decide +kernel
theorem c121_11 : mc_cd 121 11 = some (.ireturn, 1) := by decide +kernel
theorem c121_12 : mc_cd 121 12 = some (.aload_n 0, 1) := by decide +kernel
theorem c121_13 : mc_cd 121 13 = some (.getfield 30, 3) := by decide +kernel
theorem c121_16 : mc_cd 121 16 = some (.getfield 177, 3) := by decide +kernel
theorem c121_19 : mc_cd 121 19 = some (.sipush 400, 3) := by decide +kernel
theorem c121_22 : mc_cd 121 22 = some (.if_icmp .le 5, 3) := by decide +kernel
theorem c121_25 : mc_cd 121 25 = some (.iconst 3, 1) := by decide +kernel
theorem c121_26 : mc_cd 121 26 = some (.ireturn, 1) := by decide +kernel
theorem c121_27 : mc_cd 121 27 = some (.aload_n 0, 1) := by decide +kernel
theorem c121_28 : mc_cd 121 28 = some (.getfield 30, 3) := by decide +kernel
theorem c121_31 : mc_cd 121 31 = some (.getfield 177, 3) := by decide +kernel
theorem c121_34 : mc_cd 121 34 = some (.ifCond .ne 8, 3) := by decide +kernel
theorem c121_37 : mc_cd 121 37 = some (.bipush 6, 2) := by decide +kernel
theorem c121_39 : mc_cd 121 39 = some (.goto 4, 3) := by decide +kernel
theorem c121_42 : mc_cd 121 42 = some (.iconst 0, 1) := by decide +kernel
theorem c121_43 : mc_cd 121 43 = some (.ireturn, 1) := by decide +kernel
abbrev q_121 (r0 : Nat) (a1 : Int) (T : wq_T) (H : wq_H) : Option Value → wq_T → wq_H → Prop := fun r T' H' => T = T' ∧ WT T H' ∧ wfr [(12, 5), (12, 6), (12, 7), (12, 8), (12, 9), (6, 5), (8, 999), (10, 999), (15, 999), (9, 999), (18, 999), (19, 999), (7, 999), (11, 999), (17, 999), (13, 999)] T H H' ∧ ∃ z : Int, some (vI z) = r ∧ (0 ≤ z ∧ z ≤ 6) ∧ (z ≠ 0 ∨ a1 = 1)
set_option maxHeartbeats 4000000 in
theorem s_121 {kt : Nat → Option mc_E} {T : wq_T} {H : wq_H} {r0 : Nat} {a1 : Int} (hW : WT T H) (g0 : T.2.2.2 r0 = some 1) (i1 : 0 ≤ a1 ∧ a1 ≤ 1) : wpc kt 6 121 [.ref r0, vI a1] T H (q_121 r0 a1 T H) := by
  refine wp_enter e121 (Nat.le_of_ble_eq_true rfl) rfl ?_
  have f0 : wfr [(12, 5), (12, 6), (12, 7), (12, 8), (12, 9), (6, 5), (8, 999), (10, 999), (15, 999), (9, 999), (18, 999), (19, 999), (7, 999), (11, 999), (17, 999), (13, 999)] T H H := wfr.rf
  show wp _ _ 121 0 [(0, .ref r0), (1, vI a1)] [] _ H _
  refine wp_of e121 c121_0 (rw_aload_n (pc' := 1) (v := .ref r0) rfl rfl rfl ?_)
  refine wp_of e121 c121_1 (rw_iload_n (pc' := 2) (z := a1) rfl rfl ?_)
  refine wp_of e121 c121_2 (xc_V (pc' := 5) (r := r0) (as := [vI a1]) (st := []) (lm_0_174) rfl rfl (Nat.le_of_ble_eq_true rfl) hW g0 sh_1 (by decide) rfl (by decide) (s_83 hW g0 ⟨by omega, by omega⟩) (fun R36552 T36553 H36554 p36555 => ?_))
  obtain ⟨e36556, w36558, f36559, z36561, e36557, b36562, p36560⟩ := p36555
  subst e36556
  subst e36557
  have f36563 := f0.tr f36559 rfl
  show wp _ _ 121 5 [(0, .ref r0), (1, vI a1)] [vI z36561] _ H36554 _
  refine wp_of e121 c121_5 (rw_istore_n (pc' := 6) (z := z36561) (L' := [(2, vI z36561), (0, .ref r0), (1, vI a1)]) rfl rfl rfl ?_)
  refine wp_of e121 c121_6 (rw_iload_n (pc' := 7) (z := z36561) rfl rfl ?_)
  refine wp_of e121 c121_7 (rw_if_eq (p1 := 12) (p2 := 10) (by decide) rfl ⟨by omega, by omega⟩ (fun c36564 => ?_) (fun c36564 => ?_))
  · refine wp_of e121 c121_12 (rw_aload_n (pc' := 13) (v := .ref r0) rfl rfl rfl ?_)
    refine wp_of e121 c121_13 (xg_R (pc' := 16) lf_0_30 w36558 g0 sh_1 (by decide) (by decide) ty_1_3 rfl rfl (fun r36565 q36566 g36567 => ?_))
    refine wp_of e121 c121_16 (xg_I (pc' := 19) lf_0_177 w36558 g36567 sh_12 (by decide) (by decide) ty_12_5 rfl rfl (fun b36568 b36569 => ?_))
    refine wp_of e121 c121_19 (rw_sipush (pc' := 22) (z := 400) rfl (by decide) ?_)
    refine wp_of e121 c121_22 (rw_icmp_le (p1 := 27) (p2 := 25) (by decide) rfl ⟨by omega, by omega⟩ ⟨by omega, by omega⟩ (fun c36570 => ?_) (fun c36570 => ?_))
    · refine wp_of e121 c121_27 (rw_aload_n (pc' := 28) (v := .ref r0) rfl rfl rfl ?_)
      refine wp_of e121 c121_28 (xg_K (pc' := 31) lf_0_30 w36558 g0 sh_1 (by decide) (by decide) rfl q36566 rfl ?_)
      refine wp_of e121 c121_31 (xg_I (pc' := 34) lf_0_177 w36558 g36567 sh_12 (by decide) (by decide) ty_12_5 rfl rfl (fun b36571 b36572 => ?_))
      refine wp_of e121 c121_34 (rw_if_ne (p1 := 42) (p2 := 37) (by decide) rfl ⟨by omega, by omega⟩ (fun c36573 => ?_) (fun c36573 => ?_))
      · refine wp_of e121 c121_42 (rw_iconst (pc' := 43) rfl ?_)
        exact wp_ireturn e121 c121_43 rfl ⟨rfl, w36558, f36563, 0, rfl, ⟨by omega, by omega⟩, by omega⟩
      · refine wp_of e121 c121_37 (rw_bipush (pc' := 39) (z := 6) rfl (by decide) ?_)
        refine wp_of e121 c121_39 (rw_goto (p1 := 43) (by decide) ?_)
        exact wp_ireturn e121 c121_43 rfl ⟨rfl, w36558, f36563, 6, rfl, ⟨by omega, by omega⟩, by omega⟩
    · refine wp_of e121 c121_25 (rw_iconst (pc' := 26) rfl ?_)
      exact wp_ireturn e121 c121_26 rfl ⟨rfl, w36558, f36563, 3, rfl, ⟨by omega, by omega⟩, by omega⟩
  · refine wp_of e121 c121_10 (rw_iload_n (pc' := 11) (z := z36561) rfl rfl ?_)
    exact wp_ireturn e121 c121_11 rfl ⟨rfl, w36558, f36563, z36561, rfl, ⟨by omega, by omega⟩, by omega⟩
/-! StrikeAwake$Census.nextFrom(ILStrikeAwake$Parish;)I -/
theorem e124 : wq_en 124 = some (4, 4, false, some FieldType.int) := rfl
theorem c124_0 : mc_cd 124 0 = some (.iload_n 1, 1) := by decide +kernel
theorem c124_1 : mc_cd 124 1 = some (.istore_n 3, 1) := by decide +kernel
theorem c124_2 : mc_cd 124 2 = some (.iload_n 3, 1) := by decide +kernel
theorem c124_3 : mc_cd 124 3 = some (.i2l, 1) := by decide +kernel
theorem c124_4 : mc_cd 124 4 = some (.aload_n 2, 1) := by decide +kernel
theorem c124_5 : mc_cd 124 5 = some (.getfield 45, 3) := by decide +kernel
theorem c124_8 : mc_cd 124 8 = some (.lcmp, 1) := by decide +kernel
theorem c124_9 : mc_cd 124 9 = some (.ifCond .ge 26, 3) := by decide +kernel
theorem c124_12 : mc_cd 124 12 = some (.iload_n 3, 1) := by decide +kernel
theorem c124_13 : mc_cd 124 13 = some (.sipush 20000, 3) := by decide +kernel
theorem c124_16 : mc_cd 124 16 = some (.if_icmp .ge 19, 3) := by decide +kernel
theorem c124_19 : mc_cd 124 19 = some (.aload_n 0, 1) := by decide +kernel
theorem c124_20 : mc_cd 124 20 = some (.iload_n 3, 1) := by decide +kernel
theorem c124_21 : mc_cd 124 21 = some (.invokevirtual 113, 3) := by decide +kernel
theorem c124_24 : mc_cd 124 24 = some (.ifCond .eq 5, 3) := by decide +kernel
theorem c124_27 : mc_cd 124 27 = some (.iload_n 3, 1) := by decide +kernel
theorem c124_28 : mc_cd 124 28 = some (.ireturn, 1) := by decide +kernel
theorem c124_29 : mc_cd 124 29 = some (.iinc 3 1, 3) := by decide +kernel
theorem c124_32 : mc_cd 124 32 = some (.goto (-30), 3) := by decide +kernel
theorem c124_35 : mc_cd 124 35 = some (.iconst (-1), 1) := by decide +kernel
theorem c124_36 : mc_cd 124 36 = some (.ireturn, 1) := by decide +kernel
abbrev q_124 (r0 : Nat) (a1 : Int) (r2 : Nat) (T : wq_T) (H : wq_H) : Option Value → wq_T → wq_H → Prop := fun r T' H' => T = T' ∧ H = H' ∧ ∃ z : Int, some (vI z) = r ∧ ((-1) ≤ z ∧ z ≤ 19999)
set_option maxHeartbeats 4000000 in
theorem s_124 {kt : Nat → Option mc_E} {T : wq_T} {H : wq_H} {r0 : Nat} {a1 : Int} {r2 : Nat} (hW : WT T H) (g0 : T.2.2.2 r0 = some 12) (i1 : 0 ≤ a1 ∧ a1 ≤ 2147483647) (g2 : T.2.2.2 r2 = some 27) : wpc kt 2 124 [.ref r0, vI a1, .ref r2] T H (q_124 r0 a1 r2 T H) := by
  refine wp_enter e124 (Nat.le_of_ble_eq_true rfl) rfl ?_
  show wp _ _ 124 0 [(0, .ref r0), (1, vI a1), (2, .ref r2)] [] _ H _
  refine wp_of e124 c124_0 (rw_iload_n (pc' := 1) (z := a1) rfl rfl ?_)
  refine wp_of e124 c124_1 (rw_istore_n (pc' := 2) (z := a1) (L' := [(3, vI a1), (0, .ref r0), (1, vI a1), (2, .ref r2)]) rfl rfl rfl ?_)
  have lp36620 : ∀ (n36621 : Nat) (v36623 : Int), (0 ≤ v36623 ∧ v36623 ≤ 2147483647) → (2147483647 - v36623).toNat = n36621 → wp kt 1 124 2 [(3, vI v36623), (0, .ref r0), (2, .ref r2)] [] T H (q_124 r0 a1 r2 T H) := by
    intro n36621
    induction n36621 using Nat.strongRecOn with
    | _ n36621 ih36622 =>
      intro v36623 b36626 m36627
      refine wp_of e124 c124_2 (rw_iload_n (pc' := 3) (z := v36623) rfl rfl ?_)
      refine wp_of e124 c124_3 (rw_i2l (pc' := 4) rfl ⟨by omega, by omega⟩ ?_)
      refine wp_of e124 c124_4 (rw_aload_n (pc' := 5) (v := .ref r2) rfl rfl rfl ?_)
      refine wp_of e124 c124_5 (xg_L (pc' := 8) lf_4_45 hW g2 sh_27 (by decide) (by decide) ty_27_18 rfl rfl (fun b36628 b36629 => ?_))
      refine wp_of e124 c124_8 (rw_lcmp (pc' := 9) rfl ⟨by omega, by omega⟩ ⟨by omega, by omega⟩ ?_)
      have b36630 := wq_cmp_b v36623 (H r2 18)
      refine wp_of e124 c124_9 (rw_if_ge (p1 := 35) (p2 := 12) (by decide) rfl ⟨by omega, by omega⟩ (fun c36631 => ?_) (fun c36631 => ?_))
      · refine wp_of e124 c124_35 (rw_iconst (pc' := 36) rfl ?_)
        exact wp_ireturn e124 c124_36 rfl ⟨rfl, rfl, -1, rfl, ⟨by omega, by omega⟩⟩
      · refine wp_of e124 c124_12 (rw_iload_n (pc' := 13) (z := v36623) rfl rfl ?_)
        refine wp_of e124 c124_13 (rw_sipush (pc' := 16) (z := 20000) rfl (by decide) ?_)
        refine wp_of e124 c124_16 (rw_icmp_ge (p1 := 35) (p2 := 19) (by decide) rfl ⟨by omega, by omega⟩ ⟨by omega, by omega⟩ (fun c36632 => ?_) (fun c36632 => ?_))
        · refine wp_of e124 c124_35 (rw_iconst (pc' := 36) rfl ?_)
          exact wp_ireturn e124 c124_36 rfl ⟨rfl, rfl, -1, rfl, ⟨by omega, by omega⟩⟩
        · refine wp_of e124 c124_19 (rw_aload_n (pc' := 20) (v := .ref r0) rfl rfl rfl ?_)
          refine wp_of e124 c124_20 (rw_iload_n (pc' := 21) (z := v36623) rfl rfl ?_)
          refine wp_of e124 c124_21 (xc_V (pc' := 24) (r := r0) (as := [vI v36623]) (st := []) (lm_4_113) rfl rfl (Nat.le_of_ble_eq_true rfl) hW g0 sh_12 (by decide) rfl (by decide) (s_95 hW g0 ⟨by omega, by omega⟩) (fun R36633 T36634 H36635 p36636 => ?_))
          obtain ⟨e36637, e36639, z36640, e36638, b36641⟩ := p36636
          subst e36637
          subst e36638
          subst e36639
          show wp _ _ 124 24 [(3, vI v36623), (0, .ref r0), (2, .ref r2)] [vI z36640] _ H _
          refine wp_of e124 c124_24 (rw_if_eq (p1 := 29) (p2 := 27) (by decide) rfl ⟨by omega, by omega⟩ (fun c36642 => ?_) (fun c36642 => ?_))
          · refine wp_of e124 c124_29 (rw_iinc (pc' := 32) (z := v36623) (L' := [(3, vI (v36623 + 1)), (0, .ref r0), (2, .ref r2)]) rfl rfl rfl rfl ?_)
            refine wp_of e124 c124_32 (rw_goto (p1 := 2) (by decide) ?_)
            exact wp_lc (ks := [3, 0, 2]) (wl_c rfl (wl_c rfl (wl_c rfl wl_n))) rfl (by decide) (ih36622 _ (by omega) (v36623 + 1) ⟨by omega, by omega⟩ rfl)
          · refine wp_of e124 c124_27 (rw_iload_n (pc' := 28) (z := v36623) rfl rfl ?_)
            exact wp_ireturn e124 c124_28 rfl ⟨rfl, rfl, v36623, rfl, ⟨by omega, by omega⟩⟩
  exact wp_lc (ks := [3, 0, 1, 2]) (wl_c rfl (wl_c rfl (wl_c rfl wl_n))) rfl (by decide) (lp36620 _ a1 ⟨by omega, by omega⟩ rfl)
/-! StrikeAwake$Asking.gather(LStrikeAwake$Parish;LStrikeAwake$Census;)V -/
theorem e123 : wq_en 123 = some (5, 5, false, none) := rfl
theorem c123_0 : mc_cd 123 0 = some (.aload_n 0, 1) := by decide +kernel
theorem c123_1 : mc_cd 123 1 = some (.iconst 0, 1) := by decide +kernel
theorem c123_2 : mc_cd 123 2 = some (.putfield 28, 3) := by decide +kernel
theorem c123_5 : mc_cd 123 5 = some (.aload_n 2, 1) := by decide +kernel
theorem c123_6 : mc_cd 123 6 = some (.iconst 0, 1) := by decide +kernel
theorem c123_7 : mc_cd 123 7 = some (.aload_n 1, 1) := by decide +kernel
theorem c123_8 : mc_cd 123 8 = some (.invokevirtual 42, 3) := by decide +kernel
theorem c123_11 : mc_cd 123 11 = some (.istore_n 3, 1) := by decide +kernel
theorem c123_12 : mc_cd 123 12 = some (.iconst 0, 1) := by decide +kernel
theorem c123_13 : mc_cd 123 13 = some (.istore 4, 2) := by decide +kernel
theorem c123_15 : mc_cd 123 15 = some (.iload 4, 2) := by decide +kernel
theorem c123_17 : mc_cd 123 17 = some (.sipush 400, 3) := by decide +kernel
theorem c123_20 : mc_cd 123 20 = some (.if_icmp .ge 40, 3) := by decide +kernel
theorem c123_23 : mc_cd 123 23 = some (.iload_n 3, 1) := by decide +kernel
theorem c123_24 : mc_cd 123 24 = some (.ifCond .lt 36, 3) := by decide +kernel
theorem c123_27 : mc_cd 123 27 = some (.aload_n 0, 1) := by decide +kernel
theorem c123_28 : mc_cd 123 28 = some (.getfield 9, 3) := by decide +kernel
theorem c123_31 : mc_cd 123 31 = some (.iload 4, 2) := by decide +kernel
theorem c123_33 : mc_cd 123 33 = some (.iload_n 3, 1) := by decide +kernel
theorem c123_34 : mc_cd 123 34 = some (.iastore, 1) := by decide +kernel
theorem c123_35 : mc_cd 123 35 = some (.aload_n 0, 1) := by decide +kernel
theorem c123_36 : mc_cd 123 36 = some (.dup, 1) := by decide +kernel
theorem c123_37 : mc_cd 123 37 = some (.getfield 28, 3) := by decide +kernel
theorem c123_40 : mc_cd 123 40 = some (.iconst 1, 1) := by decide +kernel
theorem c123_41 : mc_cd 123 41 = some (.iadd, 1) := by decide +kernel
theorem c123_42 : mc_cd 123 42 = some (.putfield 28, 3) := by decide +kernel
theorem c123_45 : mc_cd 123 45 = some (.aload_n 2, 1) := by decide +kernel
theorem c123_46 : mc_cd 123 46 = some (.iload_n 3, 1) := by decide +kernel
theorem c123_47 : mc_cd 123 47 = some (.iconst 1, 1) := by decide +kernel
theorem c123_48 : mc_cd 123 48 = some (.iadd, 1) := by decide +kernel
theorem c123_49 : mc_cd 123 49 = some (.aload_n 1, 1) := by decide +kernel
theorem c123_50 : mc_cd 123 50 = some (.invokevirtual 42, 3) := by decide +kernel
theorem c123_53 : mc_cd 123 53 = some (.istore_n 3, 1) := by decide +kernel
theorem c123_54 : mc_cd 123 54 = some (.iinc 4 1, 3) := by decide +kernel
theorem c123_57 : mc_cd 123 57 = some (.goto (-42), 3) := by decide +kernel
theorem c123_60 : mc_cd 123 60 = some (.return_, 1) := by decide +kernel
abbrev q_123 (r0 : Nat) (r1 : Nat) (r2 : Nat) (T : wq_T) (H : wq_H) : Option Value → wq_T → wq_H → Prop := fun r T' H' => T = T' ∧ WT T H' ∧ wfr [(20, 4), (21, 999)] T H H' ∧ none = r
set_option maxHeartbeats 4000000 in
theorem s_123 {kt : Nat → Option mc_E} {T : wq_T} {H : wq_H} {r0 : Nat} {r1 : Nat} {r2 : Nat} (hW : WT T H) (g0 : T.2.2.2 r0 = some 20) (g1 : T.2.2.2 r1 = some 27) (g2 : T.2.2.2 r2 = some 12) : wpc kt 3 123 [.ref r0, .ref r1, .ref r2] T H (q_123 r0 r1 r2 T H) := by
  refine wp_enter e123 (Nat.le_of_ble_eq_true rfl) rfl ?_
  have f0 : wfr [(20, 4), (21, 999)] T H H := wfr.rf
  show wp _ _ 123 0 [(0, .ref r0), (1, .ref r1), (2, .ref r2)] [] _ H _
  refine wp_of e123 c123_0 (rw_aload_n (pc' := 1) (v := .ref r0) rfl rfl rfl ?_)
  refine wp_of e123 c123_1 (rw_iconst (pc' := 2) rfl ?_)
  refine wp_of e123 c123_2 (xp_I (pc' := 5) lf_5_28 hW g0 sh_20 (by decide) (by decide) ty_20_4 rfl rfl (by omega) (by omega) ⟨by omega, by omega⟩ rfl (fun H36884 e36885 w36886 => ?_))
  have f36887 := f0.put' e36885 g0 rfl
  have k36888 : H36884 r0 4 = 0 := wq_u_s e36885
  refine wp_of e123 c123_5 (rw_aload_n (pc' := 6) (v := .ref r2) rfl rfl rfl ?_)
  refine wp_of e123 c123_6 (rw_iconst (pc' := 7) rfl ?_)
  refine wp_of e123 c123_7 (rw_aload_n (pc' := 8) (v := .ref r1) rfl rfl rfl ?_)
  refine wp_of e123 c123_8 (xc_V (pc' := 11) (r := r2) (as := [vI 0, .ref r1]) (st := []) (lm_5_42) rfl rfl (Nat.le_of_ble_eq_true rfl) w36886 g2 sh_12 (by decide) rfl (by decide) (s_124 w36886 g2 ⟨by omega, by omega⟩ g1) (fun R36889 T36890 H36891 p36892 => ?_))
  obtain ⟨e36893, e36895, z36896, e36894, b36897⟩ := p36892
  subst e36893
  subst e36894
  subst e36895
  show wp _ _ 123 11 [(0, .ref r0), (1, .ref r1), (2, .ref r2)] [vI z36896] _ H36884 _
  refine wp_of e123 c123_11 (rw_istore_n (pc' := 12) (z := z36896) (L' := [(3, vI z36896), (0, .ref r0), (1, .ref r1), (2, .ref r2)]) rfl rfl rfl ?_)
  refine wp_of e123 c123_12 (rw_iconst (pc' := 13) rfl ?_)
  refine wp_of e123 c123_13 (rw_istore (pc' := 15) (z := 0) (L' := [(4, vI 0), (3, vI z36896), (0, .ref r0), (1, .ref r1), (2, .ref r2)]) rfl rfl rfl ?_)
  have lp37099 : ∀ (n37100 : Nat) (v37102 : Int) (v37103 : Int) (H37104 : wq_H), WT T H37104 → wfr [(20, 4), (21, 999)] T H36884 H37104 → (0 ≤ v37102 ∧ v37102 ≤ 400) → ((-1) ≤ v37103 ∧ v37103 ≤ 19999) → (H37104 r0 4 ≤ v37102) → (400 - v37102).toNat = n37100 → wp kt 2 123 15 [(4, vI v37102), (3, vI v37103), (0, .ref r0), (1, .ref r1), (2, .ref r2)] [] T H37104 (q_123 r0 r1 r2 T H) := by
    intro n37100
    induction n37100 using Nat.strongRecOn with
    | _ n37100 ih37101 =>
      intro v37102 v37103 H37104 w37105 f37106 b37107 b37108 x37109 m37110
      have f37111 := f36887.tr f37106 rfl
      refine wp_of e123 c123_15 (rw_iload (pc' := 17) (z := v37102) rfl rfl ?_)
      refine wp_of e123 c123_17 (rw_sipush (pc' := 20) (z := 400) rfl (by decide) ?_)
      refine wp_of e123 c123_20 (rw_icmp_ge (p1 := 60) (p2 := 23) (by decide) rfl ⟨by omega, by omega⟩ ⟨by omega, by omega⟩ (fun c37112 => ?_) (fun c37112 => ?_))
      · exact wp_return e123 c123_60 rfl ⟨rfl, w37105, f37111, rfl⟩
      · refine wp_of e123 c123_23 (rw_iload_n (pc' := 24) (z := v37103) rfl rfl ?_)
        refine wp_of e123 c123_24 (rw_if_lt (p1 := 60) (p2 := 27) (by decide) rfl ⟨by omega, by omega⟩ (fun c37113 => ?_) (fun c37113 => ?_))
        · exact wp_return e123 c123_60 rfl ⟨rfl, w37105, f37111, rfl⟩
        · refine wp_of e123 c123_27 (rw_aload_n (pc' := 28) (v := .ref r0) rfl rfl rfl ?_)
          refine wp_of e123 c123_28 (xg_R (pc' := 31) lf_5_9 w37105 g0 sh_20 (by decide) (by decide) ty_20_0 rfl rfl (fun r37114 q37115 g37116 => ?_))
          refine wp_of e123 c123_31 (rw_iload (pc' := 33) (z := v37102) rfl rfl ?_)
          refine wp_of e123 c123_33 (rw_iload_n (pc' := 34) (z := v37103) rfl rfl ?_)
          refine wp_of e123 c123_34 (xs_I (pc' := 35) w37105 g37116 (by decide) sh_21 (by decide) (ty_21 _) (by omega) (by omega) ⟨by omega, by omega⟩ (by omega) (by omega) rfl (fun H37117 e37118 w37119 => ?_))
          have f37120 := f37111.put' e37118 g37116 rfl
          have f37121 := f37106.put' e37118 g37116 rfl
          refine wp_of e123 c123_35 (rw_aload_n (pc' := 36) (v := .ref r0) rfl rfl rfl ?_)
          refine wp_of e123 c123_36 (rw_dup (pc' := 37) rfl rfl ?_)
          have k37122 : H37117 r0 4 = H37104 r0 4 := (wq_u_t e37118 g37116 g0 rfl 4)
          refine wp_of e123 c123_37 (xg_I (pc' := 40) lf_5_28 w37119 g0 sh_20 (by decide) (by decide) ty_20_4 rfl rfl (fun b37123 b37124 => ?_))
          refine wp_of e123 c123_40 (rw_iconst (pc' := 41) rfl ?_)
          refine wp_of e123 c123_41 (rw_iadd (pc' := 42) rfl ?_)
          refine wp_of e123 c123_42 (xp_I (pc' := 45) lf_5_28 w37119 g0 sh_20 (by decide) (by decide) ty_20_4 rfl rfl (by omega) (by omega) ⟨by omega, by omega⟩ rfl (fun H37125 e37126 w37127 => ?_))
          have f37128 := f37120.put' e37126 g0 rfl
          have f37129 := f37121.put' e37126 g0 rfl
          have k37130 : H37125 r0 4 = (H37117 r0 4) + 1 := wq_u_s e37126
          refine wp_of e123 c123_45 (rw_aload_n (pc' := 46) (v := .ref r2) rfl rfl rfl ?_)
          refine wp_of e123 c123_46 (rw_iload_n (pc' := 47) (z := v37103) rfl rfl ?_)
          refine wp_of e123 c123_47 (rw_iconst (pc' := 48) rfl ?_)
          refine wp_of e123 c123_48 (rw_iadd (pc' := 49) rfl ?_)
          refine wp_of e123 c123_49 (rw_aload_n (pc' := 50) (v := .ref r1) rfl rfl rfl ?_)
          refine wp_of e123 c123_50 (xc_V (pc' := 53) (r := r2) (as := [vI (v37103 + 1), .ref r1]) (st := []) (lm_5_42) rfl rfl (Nat.le_of_ble_eq_true rfl) w37127 g2 sh_12 (by decide) rfl (by decide) (s_124 w37127 g2 ⟨by omega, by omega⟩ g1) (fun R37131 T37132 H37133 p37134 => ?_))
          obtain ⟨e37135, e37137, z37138, e37136, b37139⟩ := p37134
          subst e37135
          subst e37136
          subst e37137
          show wp _ _ 123 53 [(4, vI v37102), (3, vI v37103), (0, .ref r0), (1, .ref r1), (2, .ref r2)] [vI z37138] _ H37125 _
          refine wp_of e123 c123_53 (rw_istore_n (pc' := 54) (z := z37138) (L' := [(3, vI z37138), (4, vI v37102), (0, .ref r0), (1, .ref r1), (2, .ref r2)]) rfl rfl rfl ?_)
          refine wp_of e123 c123_54 (rw_iinc (pc' := 57) (z := v37102) (L' := [(4, vI (v37102 + 1)), (3, vI z37138), (0, .ref r0), (1, .ref r1), (2, .ref r2)]) rfl rfl rfl rfl ?_)
          refine wp_of e123 c123_57 (rw_goto (p1 := 15) (by decide) ?_)
          exact wp_lc (ks := [4, 3, 0, 1, 2]) (wl_c rfl (wl_c rfl (wl_c rfl (wl_c rfl (wl_c rfl wl_n))))) rfl (by decide) (ih37101 _ (by omega) (v37102 + 1) z37138 H37125 w37127 f37129 ⟨by omega, by omega⟩ ⟨by omega, by omega⟩ (by omega) rfl)
  exact wp_lc (ks := [4, 3, 0, 1, 2]) (wl_c rfl (wl_c rfl (wl_c rfl (wl_c rfl (wl_c rfl wl_n))))) rfl (by decide) (lp37099 _ 0 z36896 H36884 w36886 wfr.rf ⟨by omega, by omega⟩ ⟨by omega, by omega⟩ (by omega) rfl)
/-! java/lang/Integer.bitCount(I)I -/
theorem e126 : wq_en 126 = some (15, 1, false, some FieldType.int) := rfl
theorem c126_0 : mc_cd 126 0 = some (.iload_n 0, 1) := by decide +kernel
theorem c126_1 : mc_cd 126 1 = some (.iload_n 0, 1) := by decide +kernel
theorem c126_2 : mc_cd 126 2 = some (.iconst 1, 1) := by decide +kernel
theorem c126_3 : mc_cd 126 3 = some (.iushr, 1) := by decide +kernel
theorem c126_4 : mc_cd 126 4 = some (.ldc_w 265, 3) := by decide +kernel
theorem c126_7 : mc_cd 126 7 = some (.iand, 1) := by decide +kernel
theorem c126_8 : mc_cd 126 8 = some (.isub, 1) := by decide +kernel
theorem c126_9 : mc_cd 126 9 = some (.istore_n 0, 1) := by decide +kernel
theorem c126_10 : mc_cd 126 10 = some (.iload_n 0, 1) := by decide +kernel
theorem c126_11 : mc_cd 126 11 = some (.ldc_w 266, 3) := by decide +kernel
theorem c126_14 : mc_cd 126 14 = some (.iand, 1) := by decide +kernel
theorem c126_15 : mc_cd 126 15 = some (.iload_n 0, 1) := by decide +kernel
theorem c126_16 : mc_cd 126 16 = some (.iconst 2, 1) := by decide +kernel
theorem c126_17 : mc_cd 126 17 = some (.iushr, 1) := by decide +kernel
theorem c126_18 : mc_cd 126 18 = some (.ldc_w 266, 3) := by decide +kernel
theorem c126_21 : mc_cd 126 21 = some (.iand, 1) := by decide +kernel
theorem c126_22 : mc_cd 126 22 = some (.iadd, 1) := by decide +kernel
theorem c126_23 : mc_cd 126 23 = some (.istore_n 0, 1) := by decide +kernel
theorem c126_24 : mc_cd 126 24 = some (.iload_n 0, 1) := by decide +kernel
theorem c126_25 : mc_cd 126 25 = some (.iload_n 0, 1) := by decide +kernel
theorem c126_26 : mc_cd 126 26 = some (.iconst 4, 1) := by decide +kernel
theorem c126_27 : mc_cd 126 27 = some (.iushr, 1) := by decide +kernel
theorem c126_28 : mc_cd 126 28 = some (.iadd, 1) := by decide +kernel
theorem c126_29 : mc_cd 126 29 = some (.ldc_w 267, 3) := by decide +kernel
theorem c126_32 : mc_cd 126 32 = some (.iand, 1) := by decide +kernel
theorem c126_33 : mc_cd 126 33 = some (.istore_n 0, 1) := by decide +kernel
theorem c126_34 : mc_cd 126 34 = some (.iload_n 0, 1) := by decide +kernel
theorem c126_35 : mc_cd 126 35 = some (.iload_n 0, 1) := by decide +kernel
theorem c126_36 : mc_cd 126 36 = some (.bipush 8, 2) := by decide +kernel
theorem c126_38 : mc_cd 126 38 = some (.iushr, 1) := by decide +kernel
theorem c126_39 : mc_cd 126 39 = some (.iadd, 1) := by decide +kernel
theorem c126_40 : mc_cd 126 40 = some (.istore_n 0, 1) := by decide +kernel
theorem c126_41 : mc_cd 126 41 = some (.iload_n 0, 1) := by decide +kernel
theorem c126_42 : mc_cd 126 42 = some (.iload_n 0, 1) := by decide +kernel
theorem c126_43 : mc_cd 126 43 = some (.bipush 16, 2) := by decide +kernel
theorem c126_45 : mc_cd 126 45 = some (.iushr, 1) := by decide +kernel
theorem c126_46 : mc_cd 126 46 = some (.iadd, 1) := by decide +kernel
theorem c126_47 : mc_cd 126 47 = some (.istore_n 0, 1) := by decide +kernel
theorem c126_48 : mc_cd 126 48 = some (.iload_n 0, 1) := by decide +kernel
theorem c126_49 : mc_cd 126 49 = some (.bipush 63, 2) := by decide +kernel
theorem c126_51 : mc_cd 126 51 = some (.iand, 1) := by decide +kernel
theorem c126_52 : mc_cd 126 52 = some (.ireturn, 1) := by decide +kernel
abbrev q_126 (a0 : Int) (T : wq_T) (H : wq_H) : Option Value → wq_T → wq_H → Prop := fun r T' H' => T = T' ∧ H = H' ∧ ∃ z : Int, some (vI z) = r ∧ ((-2147483648) ≤ z ∧ z ≤ 2147483647)
set_option maxHeartbeats 4000000 in
theorem s_126 {kt : Nat → Option mc_E} {T : wq_T} {H : wq_H} {a0 : Int} (hW : WT T H) (i0 : (-2147483648) ≤ a0 ∧ a0 ≤ 2147483647) : wpc kt 1 126 [vI a0] T H (q_126 a0 T H) := by
  refine wp_enter e126 (Nat.le_of_ble_eq_true rfl) rfl ?_
  show wp _ _ 126 0 [(0, vI a0)] [] _ H _
  refine wp_of e126 c126_0 (rw_iload_n (pc' := 1) (z := a0) rfl rfl ?_)
  refine wp_of e126 c126_1 (rw_iload_n (pc' := 2) (z := a0) rfl rfl ?_)
  refine wp_of e126 c126_2 (rw_iconst (pc' := 3) rfl ?_)
  refine wp_of e126 c126_3 (rw_iushr (pc' := 4) rfl ?_)
  obtain ⟨v37168, e37169⟩ : ∃ x : Int, x = wq_ushr a0 1 := ⟨_, rfl⟩
  rw [← e37169]
  have b37170 : -2147483648 ≤ v37168 ∧ v37168 ≤ 2147483647 := by
    rw [e37169]
    exact wI_ushr _ _
  refine wp_of e126 c126_4 (rw_ldc_wI (pc' := 7) (z := 1431655765) rfl rfl rfl ?_)
  refine wp_of e126 c126_7 (rw_iand (pc' := 8) rfl ?_)
  obtain ⟨v37171, e37172⟩ : ∃ x : Int, x = wq_and v37168 1431655765 := ⟨_, rfl⟩
  rw [← e37172]
  have b37173 : 0 ≤ v37171 ∧ v37171 ≤ 1431655765 := by
    rw [e37172]
    exact wq_and_b _ (by omega) (by omega)
  refine wp_of e126 c126_8 (rw_isubw (pc' := 9) rfl ?_)
  obtain ⟨v37174, e37175⟩ : ∃ x : Int, x = wq_w (a0 - v37171) := ⟨_, rfl⟩
  rw [← e37175]
  have b37176 : -2147483648 ≤ v37174 ∧ v37174 ≤ 2147483647 := by
    rw [e37175]
    exact wI_w _
  refine wp_of e126 c126_9 (rw_istore_n (pc' := 10) (z := v37174) (L' := [(0, vI v37174)]) rfl rfl rfl ?_)
  refine wp_of e126 c126_10 (rw_iload_n (pc' := 11) (z := v37174) rfl rfl ?_)
  refine wp_of e126 c126_11 (rw_ldc_wI (pc' := 14) (z := 858993459) rfl rfl rfl ?_)
  refine wp_of e126 c126_14 (rw_iand (pc' := 15) rfl ?_)
  obtain ⟨v37177, e37178⟩ : ∃ x : Int, x = wq_and v37174 858993459 := ⟨_, rfl⟩
  rw [← e37178]
  have b37179 : 0 ≤ v37177 ∧ v37177 ≤ 858993459 := by
    rw [e37178]
    exact wq_and_b _ (by omega) (by omega)
  refine wp_of e126 c126_15 (rw_iload_n (pc' := 16) (z := v37174) rfl rfl ?_)
  refine wp_of e126 c126_16 (rw_iconst (pc' := 17) rfl ?_)
  refine wp_of e126 c126_17 (rw_iushr (pc' := 18) rfl ?_)
  obtain ⟨v37180, e37181⟩ : ∃ x : Int, x = wq_ushr v37174 2 := ⟨_, rfl⟩
  rw [← e37181]
  have b37182 : -2147483648 ≤ v37180 ∧ v37180 ≤ 2147483647 := by
    rw [e37181]
    exact wI_ushr _ _
  refine wp_of e126 c126_18 (rw_ldc_wI (pc' := 21) (z := 858993459) rfl rfl rfl ?_)
  refine wp_of e126 c126_21 (rw_iand (pc' := 22) rfl ?_)
  obtain ⟨v37183, e37184⟩ : ∃ x : Int, x = wq_and v37180 858993459 := ⟨_, rfl⟩
  rw [← e37184]
  have b37185 : 0 ≤ v37183 ∧ v37183 ≤ 858993459 := by
    rw [e37184]
    exact wq_and_b _ (by omega) (by omega)
  refine wp_of e126 c126_22 (rw_iadd (pc' := 23) rfl ?_)
  refine wp_of e126 c126_23 (rw_istore_n (pc' := 24) (z := v37177 + v37183) (L' := [(0, vI (v37177 + v37183))]) rfl rfl rfl ?_)
  refine wp_of e126 c126_24 (rw_iload_n (pc' := 25) (z := v37177 + v37183) rfl rfl ?_)
  refine wp_of e126 c126_25 (rw_iload_n (pc' := 26) (z := v37177 + v37183) rfl rfl ?_)
  refine wp_of e126 c126_26 (rw_iconst (pc' := 27) rfl ?_)
  refine wp_of e126 c126_27 (rw_iushr (pc' := 28) rfl ?_)
  obtain ⟨v37186, e37187⟩ : ∃ x : Int, x = wq_ushr (v37177 + v37183) 4 := ⟨_, rfl⟩
  rw [← e37187]
  have b37188 : -2147483648 ≤ v37186 ∧ v37186 ≤ 2147483647 := by
    rw [e37187]
    exact wI_ushr _ _
  refine wp_of e126 c126_28 (rw_iaddw (pc' := 29) rfl ?_)
  obtain ⟨v37189, e37190⟩ : ∃ x : Int, x = wq_w ((v37177 + v37183) + v37186) := ⟨_, rfl⟩
  rw [← e37190]
  have b37191 : -2147483648 ≤ v37189 ∧ v37189 ≤ 2147483647 := by
    rw [e37190]
    exact wI_w _
  refine wp_of e126 c126_29 (rw_ldc_wI (pc' := 32) (z := 252645135) rfl rfl rfl ?_)
  refine wp_of e126 c126_32 (rw_iand (pc' := 33) rfl ?_)
  obtain ⟨v37192, e37193⟩ : ∃ x : Int, x = wq_and v37189 252645135 := ⟨_, rfl⟩
  rw [← e37193]
  have b37194 : 0 ≤ v37192 ∧ v37192 ≤ 252645135 := by
    rw [e37193]
    exact wq_and_b _ (by omega) (by omega)
  refine wp_of e126 c126_33 (rw_istore_n (pc' := 34) (z := v37192) (L' := [(0, vI v37192)]) rfl rfl rfl ?_)
  refine wp_of e126 c126_34 (rw_iload_n (pc' := 35) (z := v37192) rfl rfl ?_)
  refine wp_of e126 c126_35 (rw_iload_n (pc' := 36) (z := v37192) rfl rfl ?_)
  refine wp_of e126 c126_36 (rw_bipush (pc' := 38) (z := 8) rfl (by decide) ?_)
  refine wp_of e126 c126_38 (rw_iushr (pc' := 39) rfl ?_)
  obtain ⟨v37195, e37196⟩ : ∃ x : Int, x = wq_ushr v37192 8 := ⟨_, rfl⟩
  rw [← e37196]
  have b37197 : -2147483648 ≤ v37195 ∧ v37195 ≤ 2147483647 := by
    rw [e37196]
    exact wI_ushr _ _
  refine wp_of e126 c126_39 (rw_iaddw (pc' := 40) rfl ?_)
  obtain ⟨v37198, e37199⟩ : ∃ x : Int, x = wq_w (v37192 + v37195) := ⟨_, rfl⟩
  rw [← e37199]
  have b37200 : -2147483648 ≤ v37198 ∧ v37198 ≤ 2147483647 := by
    rw [e37199]
    exact wI_w _
  refine wp_of e126 c126_40 (rw_istore_n (pc' := 41) (z := v37198) (L' := [(0, vI v37198)]) rfl rfl rfl ?_)
  refine wp_of e126 c126_41 (rw_iload_n (pc' := 42) (z := v37198) rfl rfl ?_)
  refine wp_of e126 c126_42 (rw_iload_n (pc' := 43) (z := v37198) rfl rfl ?_)
  refine wp_of e126 c126_43 (rw_bipush (pc' := 45) (z := 16) rfl (by decide) ?_)
  refine wp_of e126 c126_45 (rw_iushr (pc' := 46) rfl ?_)
  obtain ⟨v37201, e37202⟩ : ∃ x : Int, x = wq_ushr v37198 16 := ⟨_, rfl⟩
  rw [← e37202]
  have b37203 : -2147483648 ≤ v37201 ∧ v37201 ≤ 2147483647 := by
    rw [e37202]
    exact wI_ushr _ _
  refine wp_of e126 c126_46 (rw_iaddw (pc' := 47) rfl ?_)
  obtain ⟨v37204, e37205⟩ : ∃ x : Int, x = wq_w (v37198 + v37201) := ⟨_, rfl⟩
  rw [← e37205]
  have b37206 : -2147483648 ≤ v37204 ∧ v37204 ≤ 2147483647 := by
    rw [e37205]
    exact wI_w _
  refine wp_of e126 c126_47 (rw_istore_n (pc' := 48) (z := v37204) (L' := [(0, vI v37204)]) rfl rfl rfl ?_)
  refine wp_of e126 c126_48 (rw_iload_n (pc' := 49) (z := v37204) rfl rfl ?_)
  refine wp_of e126 c126_49 (rw_bipush (pc' := 51) (z := 63) rfl (by decide) ?_)
  refine wp_of e126 c126_51 (rw_iand (pc' := 52) rfl ?_)
  obtain ⟨v37207, e37208⟩ : ∃ x : Int, x = wq_and v37204 63 := ⟨_, rfl⟩
  rw [← e37208]
  have b37209 : 0 ≤ v37207 ∧ v37207 ≤ 63 := by
    rw [e37208]
    exact wq_and_b _ (by omega) (by omega)
  exact wp_ireturn e126 c126_52 rfl ⟨rfl, rfl, v37207, rfl, ⟨by omega, by omega⟩⟩
/-! StrikeAwake$Asking.lookOf(LStrikeAwake$Parish;II)I -/
theorem e128 : wq_en 128 = some (5, 5, false, some FieldType.int) := rfl
theorem c128_0 : mc_cd 128 0 = some (.iconst 0, 1) := by decide +kernel
theorem c128_1 : mc_cd 128 1 = some (.istore_n 3, 1) := by decide +kernel
theorem c128_2 : mc_cd 128 2 = some (.iconst 0, 1) := by decide +kernel
theorem c128_3 : mc_cd 128 3 = some (.istore 4, 2) := by decide +kernel
theorem c128_5 : mc_cd 128 5 = some (.iload 4, 2) := by decide +kernel
theorem c128_7 : mc_cd 128 7 = some (.aload_n 0, 1) := by decide +kernel
theorem c128_8 : mc_cd 128 8 = some (.getfield 46, 3) := by decide +kernel
theorem c128_11 : mc_cd 128 11 = some (.if_icmp .ge 39, 3) := by decide +kernel
theorem c128_14 : mc_cd 128 14 = some (.iload_n 2, 1) := by decide +kernel
theorem c128_15 : mc_cd 128 15 = some (.iload 4, 2) := by decide +kernel
theorem c128_17 : mc_cd 128 17 = some (.invokestatic 67, 3) := by decide +kernel
theorem c128_20 : mc_cd 128 20 = some (.ifCond .eq 24, 3) := by decide +kernel
theorem c128_23 : mc_cd 128 23 = some (.iload_n 3, 1) := by decide +kernel
theorem c128_24 : mc_cd 128 24 = some (.aload_n 0, 1) := by decide +kernel
theorem c128_25 : mc_cd 128 25 = some (.iload_n 1, 1) := by decide +kernel
theorem c128_26 : mc_cd 128 26 = some (.iload 4, 2) := by decide +kernel
theorem c128_28 : mc_cd 128 28 = some (.invokevirtual 71, 3) := by decide +kernel
theorem c128_31 : mc_cd 128 31 = some (.aload_n 0, 1) := by decide +kernel
theorem c128_32 : mc_cd 128 32 = some (.getfield 75, 3) := by decide +kernel
theorem c128_35 : mc_cd 128 35 = some (.iload 4, 2) := by decide +kernel
theorem c128_37 : mc_cd 128 37 = some (.aaload, 1) := by decide +kernel
theorem c128_38 : mc_cd 128 38 = some (.getfield 79, 3) := by decide +kernel
theorem c128_41 : mc_cd 128 41 = some (.imul, 1) := by decide +kernel
theorem c128_42 : mc_cd 128 42 = some (.iadd, 1) := by decide +kernel
theorem c128_43 : mc_cd 128 43 = some (.istore_n 3, 1) := by decide +kernel
theorem c128_44 : mc_cd 128 44 = some (.iinc 4 1, 3) := by decide +kernel
theorem c128_47 : mc_cd 128 47 = some (.goto (-42), 3) := by decide +kernel
theorem c128_50 : mc_cd 128 50 = some (.iload_n 3, 1) := by decide +kernel
theorem c128_51 : mc_cd 128 51 = some (.ireturn, 1) := by decide +kernel
abbrev q_128 (r0 : Nat) (a1 : Int) (a2 : Int) (T : wq_T) (H : wq_H) : Option Value → wq_T → wq_H → Prop := fun r T' H' => T = T' ∧ H = H' ∧ ∃ z : Int, some (vI z) = r ∧ ((-2147483648) ≤ z ∧ z ≤ 2147483647)
set_option maxHeartbeats 4000000 in
theorem s_128 {kt : Nat → Option mc_E} {T : wq_T} {H : wq_H} {r0 : Nat} {a1 : Int} {a2 : Int} (hW : WT T H) (g0 : T.2.2.2 r0 = some 27) (i1 : 0 ≤ a1 ∧ a1 ≤ 19999) (i2 : (-2147483648) ≤ a2 ∧ a2 ≤ 2147483647) : wpc kt 2 128 [.ref r0, vI a1, vI a2] T H (q_128 r0 a1 a2 T H) := by
  refine wp_enter e128 (Nat.le_of_ble_eq_true rfl) rfl ?_
  show wp _ _ 128 0 [(0, .ref r0), (1, vI a1), (2, vI a2)] [] _ H _
  refine wp_of e128 c128_0 (rw_iconst (pc' := 1) rfl ?_)
  refine wp_of e128 c128_1 (rw_istore_n (pc' := 2) (z := 0) (L' := [(3, vI 0), (0, .ref r0), (1, vI a1), (2, vI a2)]) rfl rfl rfl ?_)
  refine wp_of e128 c128_2 (rw_iconst (pc' := 3) rfl ?_)
  refine wp_of e128 c128_3 (rw_istore (pc' := 5) (z := 0) (L' := [(4, vI 0), (3, vI 0), (0, .ref r0), (1, vI a1), (2, vI a2)]) rfl rfl rfl ?_)
  have lp37717 : ∀ (n37718 : Nat) (v37720 : Int) (v37721 : Int), (0 ≤ v37720 ∧ v37720 ≤ 6) → ((-2147483648) ≤ v37721 ∧ v37721 ≤ 2147483647) → (6 - v37720).toNat = n37718 → wp kt 1 128 5 [(4, vI v37720), (3, vI v37721), (0, .ref r0), (1, vI a1), (2, vI a2)] [] T H (q_128 r0 a1 a2 T H) := by
    intro n37718
    induction n37718 using Nat.strongRecOn with
    | _ n37718 ih37719 =>
      intro v37720 v37721 b37724 b37725 m37726
      refine wp_of e128 c128_5 (rw_iload (pc' := 7) (z := v37720) rfl rfl ?_)
      refine wp_of e128 c128_7 (rw_aload_n (pc' := 8) (v := .ref r0) rfl rfl rfl ?_)
      refine wp_of e128 c128_8 (xg_I (pc' := 11) lf_5_46 hW g0 sh_27 (by decide) (by decide) ty_27_10 rfl rfl (fun b37727 b37728 => ?_))
      refine wp_of e128 c128_11 (rw_icmp_ge (p1 := 50) (p2 := 14) (by decide) rfl ⟨by omega, by omega⟩ ⟨by omega, by omega⟩ (fun c37729 => ?_) (fun c37729 => ?_))
      · refine wp_of e128 c128_50 (rw_iload_n (pc' := 51) (z := v37721) rfl rfl ?_)
        exact wp_ireturn e128 c128_51 rfl ⟨rfl, rfl, v37721, rfl, ⟨by omega, by omega⟩⟩
      · refine wp_of e128 c128_14 (rw_iload_n (pc' := 15) (z := a2) rfl rfl ?_)
        refine wp_of e128 c128_15 (rw_iload (pc' := 17) (z := v37720) rfl rfl ?_)
        refine wp_of e128 c128_17 (xc_S (pc' := 20) (as := [vI a2, vI v37720]) (st := []) (lm_5_67) rfl rfl (Nat.le_of_ble_eq_true rfl) rfl (by decide) (s_36 hW ⟨by omega, by omega⟩ ⟨by omega, by omega⟩) (fun R37730 T37731 H37732 p37733 => ?_))
        obtain ⟨e37734, e37736, z37737, e37735, b37738⟩ := p37733
        subst e37734
        subst e37735
        subst e37736
        show wp _ _ 128 20 [(4, vI v37720), (3, vI v37721), (0, .ref r0), (1, vI a1), (2, vI a2)] [vI z37737] _ H _
        refine wp_of e128 c128_20 (rw_if_eq (p1 := 44) (p2 := 23) (by decide) rfl ⟨by omega, by omega⟩ (fun c37739 => ?_) (fun c37739 => ?_))
        · refine wp_of e128 c128_44 (rw_iinc (pc' := 47) (z := v37720) (L' := [(4, vI (v37720 + 1)), (3, vI v37721), (0, .ref r0), (1, vI a1), (2, vI a2)]) rfl rfl rfl rfl ?_)
          refine wp_of e128 c128_47 (rw_goto (p1 := 5) (by decide) ?_)
          exact wp_lc (ks := [4, 3, 0, 1, 2]) (wl_c rfl (wl_c rfl (wl_c rfl (wl_c rfl (wl_c rfl wl_n))))) rfl (by decide) (ih37719 _ (by omega) (v37720 + 1) v37721 ⟨by omega, by omega⟩ ⟨by omega, by omega⟩ rfl)
        · refine wp_of e128 c128_23 (rw_iload_n (pc' := 24) (z := v37721) rfl rfl ?_)
          refine wp_of e128 c128_24 (rw_aload_n (pc' := 25) (v := .ref r0) rfl rfl rfl ?_)
          refine wp_of e128 c128_25 (rw_iload_n (pc' := 26) (z := a1) rfl rfl ?_)
          refine wp_of e128 c128_26 (rw_iload (pc' := 28) (z := v37720) rfl rfl ?_)
          refine wp_of e128 c128_28 (xc_V (pc' := 31) (r := r0) (as := [vI a1, vI v37720]) (st := [vI v37721]) (lm_5_71) rfl rfl (Nat.le_of_ble_eq_true rfl) hW g0 sh_27 (by decide) rfl (by decide) (s_96 hW g0 ⟨by omega, by omega⟩ ⟨by omega, by omega⟩) (fun R37740 T37741 H37742 p37743 => ?_))
          obtain ⟨e37744, e37746, z37747, e37745, b37748⟩ := p37743
          subst e37744
          subst e37745
          subst e37746
          show wp _ _ 128 31 [(4, vI v37720), (3, vI v37721), (0, .ref r0), (1, vI a1), (2, vI a2)] [vI z37747, vI v37721] _ H _
          refine wp_of e128 c128_31 (rw_aload_n (pc' := 32) (v := .ref r0) rfl rfl rfl ?_)
          refine wp_of e128 c128_32 (xg_R (pc' := 35) lf_5_75 hW g0 sh_27 (by decide) (by decide) ty_27_0 rfl rfl (fun r37749 q37750 g37751 => ?_))
          refine wp_of e128 c128_35 (rw_iload (pc' := 37) (z := v37720) rfl rfl ?_)
          refine wp_of e128 c128_37 (xa_R (pc' := 38) (by decide) hW g37751 sh_28 (by decide) (ty_28 _) (by omega) (by omega) rfl (fun r37752 q37753 g37754 => ?_))
          refine wp_of e128 c128_38 (xg_I (pc' := 41) lf_5_79 hW g37754 sh_35 (by decide) (by decide) ty_35_17 rfl rfl (fun b37755 b37756 => ?_))
          refine wp_of e128 c128_41 (rw_imulw (pc' := 42) rfl ?_)
          obtain ⟨v37757, e37758⟩ : ∃ x : Int, x = wq_w (z37747 * (H r37752 17)) := ⟨_, rfl⟩
          rw [← e37758]
          have b37759 : -2147483648 ≤ v37757 ∧ v37757 ≤ 2147483647 := by
            rw [e37758]
            exact wI_w _
          refine wp_of e128 c128_42 (rw_iaddw (pc' := 43) rfl ?_)
          obtain ⟨v37760, e37761⟩ : ∃ x : Int, x = wq_w (v37721 + v37757) := ⟨_, rfl⟩
          rw [← e37761]
          have b37762 : -2147483648 ≤ v37760 ∧ v37760 ≤ 2147483647 := by
            rw [e37761]
            exact wI_w _
          refine wp_of e128 c128_43 (rw_istore_n (pc' := 44) (z := v37760) (L' := [(3, vI v37760), (4, vI v37720), (0, .ref r0), (1, vI a1), (2, vI a2)]) rfl rfl rfl ?_)
          refine wp_of e128 c128_44 (rw_iinc (pc' := 47) (z := v37720) (L' := [(4, vI (v37720 + 1)), (3, vI v37760), (0, .ref r0), (1, vI a1), (2, vI a2)]) rfl rfl rfl rfl ?_)
          refine wp_of e128 c128_47 (rw_goto (p1 := 5) (by decide) ?_)
          exact wp_lc (ks := [4, 3, 0, 1, 2]) (wl_c rfl (wl_c rfl (wl_c rfl (wl_c rfl (wl_c rfl wl_n))))) rfl (by decide) (ih37719 _ (by omega) (v37720 + 1) v37760 ⟨by omega, by omega⟩ ⟨by omega, by omega⟩ rfl)
  exact wp_lc (ks := [4, 3, 0, 1, 2]) (wl_c rfl (wl_c rfl (wl_c rfl (wl_c rfl (wl_c rfl wl_n))))) rfl (by decide) (lp37717 _ 0 0 ⟨by omega, by omega⟩ ⟨by omega, by omega⟩ rfl)
/-! StrikeAwake$Asking.slotOf(I)I -/
theorem e129 : wq_en 129 = some (5, 4, false, some FieldType.int) := rfl
theorem c129_0 : mc_cd 129 0 = some (.iload_n 1, 1) := by decide +kernel
theorem c129_1 : mc_cd 129 1 = some (.sipush 1023, 3) := by decide +kernel
theorem c129_4 : mc_cd 129 4 = some (.iand, 1) := by decide +kernel
theorem c129_5 : mc_cd 129 5 = some (.istore_n 2, 1) := by decide +kernel
theorem c129_6 : mc_cd 129 6 = some (.iconst 0, 1) := by decide +kernel
theorem c129_7 : mc_cd 129 7 = some (.istore_n 3, 1) := by decide +kernel
theorem c129_8 : mc_cd 129 8 = some (.iload_n 3, 1) := by decide +kernel
theorem c129_9 : mc_cd 129 9 = some (.sipush 1024, 3) := by decide +kernel
theorem c129_12 : mc_cd 129 12 = some (.if_icmp .ge 43, 3) := by decide +kernel
theorem c129_15 : mc_cd 129 15 = some (.aload_n 0, 1) := by decide +kernel
theorem c129_16 : mc_cd 129 16 = some (.getfield 21, 3) := by decide +kernel
theorem c129_19 : mc_cd 129 19 = some (.iload_n 2, 1) := by decide +kernel
theorem c129_20 : mc_cd 129 20 = some (.iaload, 1) := by decide +kernel
theorem c129_21 : mc_cd 129 21 = some (.ifCond .lt 18, 3) := by decide +kernel
theorem c129_24 : mc_cd 129 24 = some (.aload_n 0, 1) := by decide +kernel
theorem c129_25 : mc_cd 129 25 = some (.getfield 18, 3) := by decide +kernel
theorem c129_28 : mc_cd 129 28 = some (.aload_n 0, 1) := by decide +kernel
theorem c129_29 : mc_cd 129 29 = some (.getfield 21, 3) := by decide +kernel
theorem c129_32 : mc_cd 129 32 = some (.iload_n 2, 1) := by decide +kernel
theorem c129_33 : mc_cd 129 33 = some (.iaload, 1) := by decide +kernel
theorem c129_34 : mc_cd 129 34 = some (.iaload, 1) := by decide +kernel
theorem c129_35 : mc_cd 129 35 = some (.iload_n 1, 1) := by decide +kernel
theorem c129_36 : mc_cd 129 36 = some (.if_icmp .ne 5, 3) := by decide +kernel
theorem c129_39 : mc_cd 129 39 = some (.iload_n 2, 1) := by decide +kernel
theorem c129_40 : mc_cd 129 40 = some (.ireturn, 1) := by decide +kernel
theorem c129_41 : mc_cd 129 41 = some (.iload_n 2, 1) := by decide +kernel
theorem c129_42 : mc_cd 129 42 = some (.iconst 1, 1) := by decide +kernel
theorem c129_43 : mc_cd 129 43 = some (.iadd, 1) := by decide +kernel
theorem c129_44 : mc_cd 129 44 = some (.sipush 1023, 3) := by decide +kernel
theorem c129_47 : mc_cd 129 47 = some (.iand, 1) := by decide +kernel
theorem c129_48 : mc_cd 129 48 = some (.istore_n 2, 1) := by decide +kernel
theorem c129_49 : mc_cd 129 49 = some (.iinc 3 1, 3) := by decide +kernel
theorem c129_52 : mc_cd 129 52 = some (.goto (-44), 3) := by decide +kernel
theorem c129_55 : mc_cd 129 55 = some (.iload_n 2, 1) := by decide +kernel
theorem c129_56 : mc_cd 129 56 = some (.ireturn, 1) := by decide +kernel
abbrev q_129 (r0 : Nat) (a1 : Int) (T : wq_T) (H : wq_H) : Option Value → wq_T → wq_H → Prop := fun r T' H' => T = T' ∧ H = H' ∧ ∃ z : Int, some (vI z) = r ∧ (0 ≤ z ∧ z ≤ 1023)
set_option maxHeartbeats 4000000 in
theorem s_129 {kt : Nat → Option mc_E} {T : wq_T} {H : wq_H} {r0 : Nat} {a1 : Int} (hW : WT T H) (g0 : T.2.2.2 r0 = some 20) (i1 : (-2147483648) ≤ a1 ∧ a1 ≤ 2147483647) : wpc kt 1 129 [.ref r0, vI a1] T H (q_129 r0 a1 T H) := by
  refine wp_enter e129 (Nat.le_of_ble_eq_true rfl) rfl ?_
  show wp _ _ 129 0 [(0, .ref r0), (1, vI a1)] [] _ H _
  refine wp_of e129 c129_0 (rw_iload_n (pc' := 1) (z := a1) rfl rfl ?_)
  refine wp_of e129 c129_1 (rw_sipush (pc' := 4) (z := 1023) rfl (by decide) ?_)
  refine wp_of e129 c129_4 (rw_iand (pc' := 5) rfl ?_)
  obtain ⟨v37919, e37920⟩ : ∃ x : Int, x = wq_and a1 1023 := ⟨_, rfl⟩
  rw [← e37920]
  have b37921 : 0 ≤ v37919 ∧ v37919 ≤ 1023 := by
    rw [e37920]
    exact wq_and_b _ (by omega) (by omega)
  refine wp_of e129 c129_5 (rw_istore_n (pc' := 6) (z := v37919) (L' := [(2, vI v37919), (0, .ref r0), (1, vI a1)]) rfl rfl rfl ?_)
  refine wp_of e129 c129_6 (rw_iconst (pc' := 7) rfl ?_)
  refine wp_of e129 c129_7 (rw_istore_n (pc' := 8) (z := 0) (L' := [(3, vI 0), (2, vI v37919), (0, .ref r0), (1, vI a1)]) rfl rfl rfl ?_)
  have lp38058 : ∀ (n38059 : Nat) (v38061 : Int) (v38062 : Int), (0 ≤ v38061 ∧ v38061 ≤ 1024) → (0 ≤ v38062 ∧ v38062 ≤ 1023) → (1024 - v38061).toNat = n38059 → wp kt 0 129 8 [(3, vI v38061), (2, vI v38062), (0, .ref r0), (1, vI a1)] [] T H (q_129 r0 a1 T H) := by
    intro n38059
    induction n38059 using Nat.strongRecOn with
    | _ n38059 ih38060 =>
      intro v38061 v38062 b38065 b38066 m38067
      refine wp_of e129 c129_8 (rw_iload_n (pc' := 9) (z := v38061) rfl rfl ?_)
      refine wp_of e129 c129_9 (rw_sipush (pc' := 12) (z := 1024) rfl (by decide) ?_)
      refine wp_of e129 c129_12 (rw_icmp_ge (p1 := 55) (p2 := 15) (by decide) rfl ⟨by omega, by omega⟩ ⟨by omega, by omega⟩ (fun c38068 => ?_) (fun c38068 => ?_))
      · refine wp_of e129 c129_55 (rw_iload_n (pc' := 56) (z := v38062) rfl rfl ?_)
        exact wp_ireturn e129 c129_56 rfl ⟨rfl, rfl, v38062, rfl, ⟨by omega, by omega⟩⟩
      · refine wp_of e129 c129_15 (rw_aload_n (pc' := 16) (v := .ref r0) rfl rfl rfl ?_)
        refine wp_of e129 c129_16 (xg_R (pc' := 19) lf_5_21 hW g0 sh_20 (by decide) (by decide) ty_20_3 rfl rfl (fun r38069 q38070 g38071 => ?_))
        refine wp_of e129 c129_19 (rw_iload_n (pc' := 20) (z := v38062) rfl rfl ?_)
        refine wp_of e129 c129_20 (xa_I (so := 0) (pc' := 21) hW g38071 sh_24 (by decide) (ty_24 _) (by omega) (by omega) rfl (fun b38072 b38073 => ?_))
        refine wp_of e129 c129_21 (rw_if_lt (p1 := 39) (p2 := 24) (by decide) rfl ⟨by omega, by omega⟩ (fun c38074 => ?_) (fun c38074 => ?_))
        · refine wp_of e129 c129_39 (rw_iload_n (pc' := 40) (z := v38062) rfl rfl ?_)
          exact wp_ireturn e129 c129_40 rfl ⟨rfl, rfl, v38062, rfl, ⟨by omega, by omega⟩⟩
        · refine wp_of e129 c129_24 (rw_aload_n (pc' := 25) (v := .ref r0) rfl rfl rfl ?_)
          refine wp_of e129 c129_25 (xg_R (pc' := 28) lf_5_18 hW g0 sh_20 (by decide) (by decide) ty_20_2 rfl rfl (fun r38075 q38076 g38077 => ?_))
          refine wp_of e129 c129_28 (rw_aload_n (pc' := 29) (v := .ref r0) rfl rfl rfl ?_)
          refine wp_of e129 c129_29 (xg_K (pc' := 32) lf_5_21 hW g0 sh_20 (by decide) (by decide) rfl q38070 rfl ?_)
          refine wp_of e129 c129_32 (rw_iload_n (pc' := 33) (z := v38062) rfl rfl ?_)
          refine wp_of e129 c129_33 (xa_I (so := 0) (pc' := 34) hW g38071 sh_24 (by decide) (ty_24 _) (by omega) (by omega) rfl (fun b38078 b38079 => ?_))
          refine wp_of e129 c129_34 (xa_I (so := 0) (pc' := 35) hW g38077 sh_23 (by decide) (ty_23 _) (by omega) (by omega) rfl (fun b38080 b38081 => ?_))
          refine wp_of e129 c129_35 (rw_iload_n (pc' := 36) (z := a1) rfl rfl ?_)
          refine wp_of e129 c129_36 (rw_icmp_ne (p1 := 41) (p2 := 39) (by decide) rfl ⟨by omega, by omega⟩ ⟨by omega, by omega⟩ (fun c38082 => ?_) (fun c38082 => ?_))
          · refine wp_of e129 c129_41 (rw_iload_n (pc' := 42) (z := v38062) rfl rfl ?_)
            refine wp_of e129 c129_42 (rw_iconst (pc' := 43) rfl ?_)
            refine wp_of e129 c129_43 (rw_iadd (pc' := 44) rfl ?_)
            refine wp_of e129 c129_44 (rw_sipush (pc' := 47) (z := 1023) rfl (by decide) ?_)
            refine wp_of e129 c129_47 (rw_iand (pc' := 48) rfl ?_)
            obtain ⟨v38083, e38084⟩ : ∃ x : Int, x = wq_and (v38062 + 1) 1023 := ⟨_, rfl⟩
            rw [← e38084]
            have b38085 : 0 ≤ v38083 ∧ v38083 ≤ 1023 := by
              rw [e38084]
              exact wq_and_b _ (by omega) (by omega)
            refine wp_of e129 c129_48 (rw_istore_n (pc' := 49) (z := v38083) (L' := [(2, vI v38083), (3, vI v38061), (0, .ref r0), (1, vI a1)]) rfl rfl rfl ?_)
            refine wp_of e129 c129_49 (rw_iinc (pc' := 52) (z := v38061) (L' := [(3, vI (v38061 + 1)), (2, vI v38083), (0, .ref r0), (1, vI a1)]) rfl rfl rfl rfl ?_)
            refine wp_of e129 c129_52 (rw_goto (p1 := 8) (by decide) ?_)
            exact wp_lc (ks := [3, 2, 0, 1]) (wl_c rfl (wl_c rfl (wl_c rfl (wl_c rfl wl_n)))) rfl (by decide) (ih38060 _ (by omega) (v38061 + 1) v38083 ⟨by omega, by omega⟩ ⟨by omega, by omega⟩ rfl)
          · refine wp_of e129 c129_39 (rw_iload_n (pc' := 40) (z := v38062) rfl rfl ?_)
            exact wp_ireturn e129 c129_40 rfl ⟨rfl, rfl, v38062, rfl, ⟨by omega, by omega⟩⟩
  exact wp_lc (ks := [3, 2, 0, 1]) (wl_c rfl (wl_c rfl (wl_c rfl (wl_c rfl wl_n)))) rfl (by decide) (lp38058 _ 0 v37919 ⟨by omega, by omega⟩ ⟨by omega, by omega⟩ rfl)
/-! StrikeAwake$Asking.tells(LStrikeAwake$Parish;I)Z -/
theorem e127 : wq_en 127 = some (5, 5, false, some FieldType.boolean) := rfl
theorem c127_0 : mc_cd 127 0 = some (.iconst 0, 1) := by decide +kernel
theorem c127_1 : mc_cd 127 1 = some (.istore_n 3, 1) := by decide +kernel
theorem c127_2 : mc_cd 127 2 = some (.iload_n 3, 1) := by decide +kernel
theorem c127_3 : mc_cd 127 3 = some (.sipush 1024, 3) := by decide +kernel
theorem c127_6 : mc_cd 127 6 = some (.if_icmp .ge 16, 3) := by decide +kernel
theorem c127_9 : mc_cd 127 9 = some (.aload_n 0, 1) := by decide +kernel
theorem c127_10 : mc_cd 127 10 = some (.getfield 21, 3) := by decide +kernel
theorem c127_13 : mc_cd 127 13 = some (.iload_n 3, 1) := by decide +kernel
theorem c127_14 : mc_cd 127 14 = some (.iconst (-1), 1) := by decide +kernel
theorem c127_15 : mc_cd 127 15 = some (.iastore, 1) := by decide +kernel
theorem c127_16 : mc_cd 127 16 = some (.iinc 3 1, 3) := by decide +kernel
theorem c127_19 : mc_cd 127 19 = some (.goto (-17), 3) := by decide +kernel
theorem c127_22 : mc_cd 127 22 = some (.iconst 0, 1) := by decide +kernel
theorem c127_23 : mc_cd 127 23 = some (.istore_n 3, 1) := by decide +kernel
theorem c127_24 : mc_cd 127 24 = some (.iload_n 3, 1) := by decide +kernel
theorem c127_25 : mc_cd 127 25 = some (.aload_n 0, 1) := by decide +kernel
theorem c127_26 : mc_cd 127 26 = some (.getfield 28, 3) := by decide +kernel
theorem c127_29 : mc_cd 127 29 = some (.if_icmp .ge 82, 3) := by decide +kernel
theorem c127_32 : mc_cd 127 32 = some (.aload_n 0, 1) := by decide +kernel
theorem c127_33 : mc_cd 127 33 = some (.getfield 18, 3) := by decide +kernel
theorem c127_36 : mc_cd 127 36 = some (.iload_n 3, 1) := by decide +kernel
theorem c127_37 : mc_cd 127 37 = some (.aload_n 1, 1) := by decide +kernel
theorem c127_38 : mc_cd 127 38 = some (.aload_n 0, 1) := by decide +kernel
theorem c127_39 : mc_cd 127 39 = some (.getfield 9, 3) := by decide +kernel
theorem c127_42 : mc_cd 127 42 = some (.iload_n 3, 1) := by decide +kernel
theorem c127_43 : mc_cd 127 43 = some (.iaload, 1) := by decide +kernel
theorem c127_44 : mc_cd 127 44 = some (.iload_n 2, 1) := by decide +kernel
theorem c127_45 : mc_cd 127 45 = some (.invokestatic 61, 3) := by decide +kernel
theorem c127_48 : mc_cd 127 48 = some (.iastore, 1) := by decide +kernel
theorem c127_49 : mc_cd 127 49 = some (.aload_n 0, 1) := by decide +kernel
theorem c127_50 : mc_cd 127 50 = some (.aload_n 0, 1) := by decide +kernel
theorem c127_51 : mc_cd 127 51 = some (.getfield 18, 3) := by decide +kernel
theorem c127_54 : mc_cd 127 54 = some (.iload_n 3, 1) := by decide +kernel
theorem c127_55 : mc_cd 127 55 = some (.iaload, 1) := by decide +kernel
theorem c127_56 : mc_cd 127 56 = some (.invokevirtual 64, 3) := by decide +kernel
theorem c127_59 : mc_cd 127 59 = some (.istore 4, 2) := by decide +kernel
theorem c127_61 : mc_cd 127 61 = some (.aload_n 0, 1) := by decide +kernel
theorem c127_62 : mc_cd 127 62 = some (.getfield 21, 3) := by decide +kernel
theorem c127_65 : mc_cd 127 65 = some (.iload 4, 2) := by decide +kernel
theorem c127_67 : mc_cd 127 67 = some (.iaload, 1) := by decide +kernel
theorem c127_68 : mc_cd 127 68 = some (.ifCond .ge 14, 3) := by decide +kernel
theorem c127_71 : mc_cd 127 71 = some (.aload_n 0, 1) := by decide +kernel
theorem c127_72 : mc_cd 127 72 = some (.getfield 21, 3) := by decide +kernel
theorem c127_75 : mc_cd 127 75 = some (.iload 4, 2) := by decide +kernel
theorem c127_77 : mc_cd 127 77 = some (.iload_n 3, 1) := by decide +kernel
theorem c127_78 : mc_cd 127 78 = some (.iastore, 1) := by decide +kernel
theorem c127_79 : mc_cd 127 79 = some (.goto 26, 3) := by decide +kernel
theorem c127_82 : mc_cd 127 82 = some (.aload_n 0, 1) := by decide +kernel
theorem c127_83 : mc_cd 127 83 = some (.getfield 15, 3) := by decide +kernel
theorem c127_86 : mc_cd 127 86 = some (.aload_n 0, 1) := by decide +kernel
theorem c127_87 : mc_cd 127 87 = some (.getfield 21, 3) := by decide +kernel
theorem c127_90 : mc_cd 127 90 = some (.iload 4, 2) := by decide +kernel
theorem c127_92 : mc_cd 127 92 = some (.iaload, 1) := by decide +kernel
theorem c127_93 : mc_cd 127 93 = some (.iaload, 1) := by decide +kernel
theorem c127_94 : mc_cd 127 94 = some (.aload_n 0, 1) := by decide +kernel
theorem c127_95 : mc_cd 127 95 = some (.getfield 15, 3) := by decide +kernel
theorem c127_98 : mc_cd 127 98 = some (.iload_n 3, 1) := by decide +kernel
theorem c127_99 : mc_cd 127 99 = some (.iaload, 1) := by decide +kernel
theorem c127_100 : mc_cd 127 100 = some (.if_icmp .eq 5, 3) := by decide +kernel
theorem c127_103 : mc_cd 127 103 = some (.iconst 0, 1) := by decide +kernel
theorem c127_104 : mc_cd 127 104 = some (.ireturn, 1) := by decide +kernel
theorem c127_105 : mc_cd 127 105 = some (.iinc 3 1, 3) := by decide +kernel
theorem c127_108 : mc_cd 127 108 = some (.goto (-84), 3) := by decide +kernel
theorem c127_111 : mc_cd 127 111 = some (.iconst 1, 1) := by decide +kernel
theorem c127_112 : mc_cd 127 112 = some (.ireturn, 1) := by decide +kernel
abbrev q_127 (r0 : Nat) (r1 : Nat) (a2 : Int) (T : wq_T) (H : wq_H) : Option Value → wq_T → wq_H → Prop := fun r T' H' => T = T' ∧ WT T H' ∧ wfr [(23, 999), (24, 999)] T H H' ∧ ∃ z : Int, some (vI z) = r ∧ (0 ≤ z ∧ z ≤ 1)
set_option maxHeartbeats 4000000 in
theorem s_127 {kt : Nat → Option mc_E} {T : wq_T} {H : wq_H} {r0 : Nat} {r1 : Nat} {a2 : Int} (hW : WT T H) (g0 : T.2.2.2 r0 = some 20) (g1 : T.2.2.2 r1 = some 27) (i2 : (-2147483648) ≤ a2 ∧ a2 ≤ 2147483647) : wpc kt 3 127 [.ref r0, .ref r1, vI a2] T H (q_127 r0 r1 a2 T H) := by
  refine wp_enter e127 (Nat.le_of_ble_eq_true rfl) rfl ?_
  have f0 : wfr [(23, 999), (24, 999)] T H H := wfr.rf
  show wp _ _ 127 0 [(0, .ref r0), (1, .ref r1), (2, vI a2)] [] _ H _
  refine wp_of e127 c127_0 (rw_iconst (pc' := 1) rfl ?_)
  refine wp_of e127 c127_1 (rw_istore_n (pc' := 2) (z := 0) (L' := [(3, vI 0), (0, .ref r0), (1, .ref r1), (2, vI a2)]) rfl rfl rfl ?_)
  have lp38737 : ∀ (n38738 : Nat) (v38740 : Int) (H38741 : wq_H), WT T H38741 → wfr [(24, 999)] T H H38741 → (0 ≤ v38740 ∧ v38740 ≤ 1024) → (1024 - v38740).toNat = n38738 → wp kt 2 127 2 [(3, vI v38740), (0, .ref r0), (1, .ref r1), (2, vI a2)] [] T H38741 (q_127 r0 r1 a2 T H) := by
    intro n38738
    induction n38738 using Nat.strongRecOn with
    | _ n38738 ih38739 =>
      intro v38740 H38741 w38742 f38743 b38744 m38745
      have f38746 := f0.tr f38743 rfl
      refine wp_of e127 c127_2 (rw_iload_n (pc' := 3) (z := v38740) rfl rfl ?_)
      refine wp_of e127 c127_3 (rw_sipush (pc' := 6) (z := 1024) rfl (by decide) ?_)
      refine wp_of e127 c127_6 (rw_icmp_ge (p1 := 22) (p2 := 9) (by decide) rfl ⟨by omega, by omega⟩ ⟨by omega, by omega⟩ (fun c38747 => ?_) (fun c38747 => ?_))
      · refine wp_of e127 c127_22 (rw_iconst (pc' := 23) rfl ?_)
        refine wp_of e127 c127_23 (rw_istore_n (pc' := 24) (z := 0) (L' := [(3, vI 0), (0, .ref r0), (1, .ref r1), (2, vI a2)]) rfl rfl rfl ?_)
        have lp39220 : ∀ (n39221 : Nat) (v39223 : Int) (H39224 : wq_H), WT T H39224 → wfr [(23, 999), (24, 999)] T H38741 H39224 → (0 ≤ v39223 ∧ v39223 ≤ 400) → (400 - v39223).toNat = n39221 → wp kt 2 127 24 [(3, vI v39223), (0, .ref r0), (1, .ref r1), (2, vI a2)] [] T H39224 (q_127 r0 r1 a2 T H) := by
          intro n39221
          induction n39221 using Nat.strongRecOn with
          | _ n39221 ih39222 =>
            intro v39223 H39224 w39225 f39226 b39227 m39228
            have f39229 := f38746.tr f39226 rfl
            have f39230 := f38743.tr f39226 rfl
            refine wp_of e127 c127_24 (rw_iload_n (pc' := 25) (z := v39223) rfl rfl ?_)
            refine wp_of e127 c127_25 (rw_aload_n (pc' := 26) (v := .ref r0) rfl rfl rfl ?_)
            refine wp_of e127 c127_26 (xg_I (pc' := 29) lf_5_28 w39225 g0 sh_20 (by decide) (by decide) ty_20_4 rfl rfl (fun b39231 b39232 => ?_))
            refine wp_of e127 c127_29 (rw_icmp_ge (p1 := 111) (p2 := 32) (by decide) rfl ⟨by omega, by omega⟩ ⟨by omega, by omega⟩ (fun c39233 => ?_) (fun c39233 => ?_))
            · refine wp_of e127 c127_111 (rw_iconst (pc' := 112) rfl ?_)
              exact wp_zreturn e127 c127_112 rfl (by omega) ⟨rfl, w39225, f39229, 1, rfl, ⟨by omega, by omega⟩⟩
            · refine wp_of e127 c127_32 (rw_aload_n (pc' := 33) (v := .ref r0) rfl rfl rfl ?_)
              refine wp_of e127 c127_33 (xg_R (pc' := 36) lf_5_18 w39225 g0 sh_20 (by decide) (by decide) ty_20_2 rfl rfl (fun r39234 q39235 g39236 => ?_))
              refine wp_of e127 c127_36 (rw_iload_n (pc' := 37) (z := v39223) rfl rfl ?_)
              refine wp_of e127 c127_37 (rw_aload_n (pc' := 38) (v := .ref r1) rfl rfl rfl ?_)
              refine wp_of e127 c127_38 (rw_aload_n (pc' := 39) (v := .ref r0) rfl rfl rfl ?_)
              refine wp_of e127 c127_39 (xg_R (pc' := 42) lf_5_9 w39225 g0 sh_20 (by decide) (by decide) ty_20_0 rfl rfl (fun r39237 q39238 g39239 => ?_))
              refine wp_of e127 c127_42 (rw_iload_n (pc' := 43) (z := v39223) rfl rfl ?_)
              refine wp_of e127 c127_43 (xa_I (so := 0) (pc' := 44) w39225 g39239 sh_21 (by decide) (ty_21 _) (by omega) (by omega) rfl (fun b39240 b39241 => ?_))
              refine wp_of e127 c127_44 (rw_iload_n (pc' := 45) (z := a2) rfl rfl ?_)
              refine wp_of e127 c127_45 (xc_S (pc' := 48) (as := [.ref r1, vI (H39224 r39237 v39223.toNat), vI a2]) (st := [vI v39223, .ref r39234]) (lm_5_61) rfl rfl (Nat.le_of_ble_eq_true rfl) rfl (by decide) (s_128 w39225 g1 ⟨by omega, by omega⟩ ⟨by omega, by omega⟩) (fun R39242 T39243 H39244 p39245 => ?_))
              obtain ⟨e39246, e39248, z39249, e39247, b39250⟩ := p39245
              subst e39246
              subst e39247
              subst e39248
              show wp _ _ 127 48 [(3, vI v39223), (0, .ref r0), (1, .ref r1), (2, vI a2)] [vI z39249, vI v39223, .ref r39234] _ H39224 _
              refine wp_of e127 c127_48 (xs_I (pc' := 49) w39225 g39236 (by decide) sh_23 (by decide) (ty_23 _) (by omega) (by omega) ⟨by omega, by omega⟩ (by omega) (by omega) rfl (fun H39251 e39252 w39253 => ?_))
              have f39254 := f39229.put' e39252 g39236 rfl
              have f39255 := f39230.put' e39252 g39236 rfl
              have f39256 := f39226.put' e39252 g39236 rfl
              refine wp_of e127 c127_49 (rw_aload_n (pc' := 50) (v := .ref r0) rfl rfl rfl ?_)
              refine wp_of e127 c127_50 (rw_aload_n (pc' := 51) (v := .ref r0) rfl rfl rfl ?_)
              have k39257 : H39251 r0 2 = H39224 r0 2 := (wq_u_t e39252 g39236 g0 rfl 2)
              have q39258 : H39251 r0 2 = (r39234 : Int) := k39257.trans q39235
              refine wp_of e127 c127_51 (xg_K (pc' := 54) lf_5_18 w39253 g0 sh_20 (by decide) (by decide) rfl q39258 rfl ?_)
              refine wp_of e127 c127_54 (rw_iload_n (pc' := 55) (z := v39223) rfl rfl ?_)
              refine wp_of e127 c127_55 (xa_I (so := 0) (pc' := 56) w39253 g39236 sh_23 (by decide) (ty_23 _) (by omega) (by omega) rfl (fun b39259 b39260 => ?_))
              refine wp_of e127 c127_56 (xc_V (pc' := 59) (r := r0) (as := [vI (H39251 r39234 v39223.toNat)]) (st := []) (lm_5_64) rfl rfl (Nat.le_of_ble_eq_true rfl) w39253 g0 sh_20 (by decide) rfl (by decide) (s_129 w39253 g0 ⟨by omega, by omega⟩) (fun R39261 T39262 H39263 p39264 => ?_))
              obtain ⟨e39265, e39267, z39268, e39266, b39269⟩ := p39264
              subst e39265
              subst e39266
              subst e39267
              show wp _ _ 127 59 [(3, vI v39223), (0, .ref r0), (1, .ref r1), (2, vI a2)] [vI z39268] _ H39251 _
              refine wp_of e127 c127_59 (rw_istore (pc' := 61) (z := z39268) (L' := [(4, vI z39268), (3, vI v39223), (0, .ref r0), (1, .ref r1), (2, vI a2)]) rfl rfl rfl ?_)
              refine wp_of e127 c127_61 (rw_aload_n (pc' := 62) (v := .ref r0) rfl rfl rfl ?_)
              refine wp_of e127 c127_62 (xg_R (pc' := 65) lf_5_21 w39253 g0 sh_20 (by decide) (by decide) ty_20_3 rfl rfl (fun r39270 q39271 g39272 => ?_))
              refine wp_of e127 c127_65 (rw_iload (pc' := 67) (z := z39268) rfl rfl ?_)
              refine wp_of e127 c127_67 (xa_I (so := 0) (pc' := 68) w39253 g39272 sh_24 (by decide) (ty_24 _) (by omega) (by omega) rfl (fun b39273 b39274 => ?_))
              refine wp_of e127 c127_68 (rw_if_ge (p1 := 82) (p2 := 71) (by decide) rfl ⟨by omega, by omega⟩ (fun c39275 => ?_) (fun c39275 => ?_))
              · refine wp_of e127 c127_82 (rw_aload_n (pc' := 83) (v := .ref r0) rfl rfl rfl ?_)
                refine wp_of e127 c127_83 (xg_R (pc' := 86) lf_5_15 w39253 g0 sh_20 (by decide) (by decide) ty_20_1 rfl rfl (fun r39276 q39277 g39278 => ?_))
                refine wp_of e127 c127_86 (rw_aload_n (pc' := 87) (v := .ref r0) rfl rfl rfl ?_)
                refine wp_of e127 c127_87 (xg_K (pc' := 90) lf_5_21 w39253 g0 sh_20 (by decide) (by decide) rfl q39271 rfl ?_)
                refine wp_of e127 c127_90 (rw_iload (pc' := 92) (z := z39268) rfl rfl ?_)
                refine wp_of e127 c127_92 (xa_I (so := 0) (pc' := 93) w39253 g39272 sh_24 (by decide) (ty_24 _) (by omega) (by omega) rfl (fun b39279 b39280 => ?_))
                refine wp_of e127 c127_93 (xa_I (so := 0) (pc' := 94) w39253 g39278 sh_22 (by decide) (ty_22 _) (by omega) (by omega) rfl (fun b39281 b39282 => ?_))
                refine wp_of e127 c127_94 (rw_aload_n (pc' := 95) (v := .ref r0) rfl rfl rfl ?_)
                refine wp_of e127 c127_95 (xg_K (pc' := 98) lf_5_15 w39253 g0 sh_20 (by decide) (by decide) rfl q39277 rfl ?_)
                refine wp_of e127 c127_98 (rw_iload_n (pc' := 99) (z := v39223) rfl rfl ?_)
                refine wp_of e127 c127_99 (xa_I (so := 0) (pc' := 100) w39253 g39278 sh_22 (by decide) (ty_22 _) (by omega) (by omega) rfl (fun b39283 b39284 => ?_))
                refine wp_of e127 c127_100 (rw_icmp_eq (p1 := 105) (p2 := 103) (by decide) rfl ⟨by omega, by omega⟩ ⟨by omega, by omega⟩ (fun c39285 => ?_) (fun c39285 => ?_))
                · refine wp_of e127 c127_105 (rw_iinc (pc' := 108) (z := v39223) (L' := [(3, vI (v39223 + 1)), (4, vI z39268), (0, .ref r0), (1, .ref r1), (2, vI a2)]) rfl rfl rfl rfl ?_)
                  refine wp_of e127 c127_108 (rw_goto (p1 := 24) (by decide) ?_)
                  exact wp_lc (ks := [3, 4, 0, 1, 2]) (wl_c rfl (wl_c rfl (wl_c rfl (wl_c rfl wl_n)))) rfl (by decide) (ih39222 _ (by omega) (v39223 + 1) H39251 w39253 f39256 ⟨by omega, by omega⟩ rfl)
                · refine wp_of e127 c127_103 (rw_iconst (pc' := 104) rfl ?_)
                  exact wp_zreturn e127 c127_104 rfl (by omega) ⟨rfl, w39253, f39254, 0, rfl, ⟨by omega, by omega⟩⟩
              · refine wp_of e127 c127_71 (rw_aload_n (pc' := 72) (v := .ref r0) rfl rfl rfl ?_)
                refine wp_of e127 c127_72 (xg_K (pc' := 75) lf_5_21 w39253 g0 sh_20 (by decide) (by decide) rfl q39271 rfl ?_)
                refine wp_of e127 c127_75 (rw_iload (pc' := 77) (z := z39268) rfl rfl ?_)
                refine wp_of e127 c127_77 (rw_iload_n (pc' := 78) (z := v39223) rfl rfl ?_)
                refine wp_of e127 c127_78 (xs_I (pc' := 79) w39253 g39272 (by decide) sh_24 (by decide) (ty_24 _) (by omega) (by omega) ⟨by omega, by omega⟩ (by omega) (by omega) rfl (fun H39286 e39287 w39288 => ?_))
                have f39289 := f39254.put' e39287 g39272 rfl
                have f39290 := f39255.put' e39287 g39272 rfl
                have f39291 := f39256.put' e39287 g39272 rfl
                refine wp_of e127 c127_79 (rw_goto (p1 := 105) (by decide) ?_)
                refine wp_of e127 c127_105 (rw_iinc (pc' := 108) (z := v39223) (L' := [(3, vI (v39223 + 1)), (4, vI z39268), (0, .ref r0), (1, .ref r1), (2, vI a2)]) rfl rfl rfl rfl ?_)
                refine wp_of e127 c127_108 (rw_goto (p1 := 24) (by decide) ?_)
                exact wp_lc (ks := [3, 4, 0, 1, 2]) (wl_c rfl (wl_c rfl (wl_c rfl (wl_c rfl wl_n)))) rfl (by decide) (ih39222 _ (by omega) (v39223 + 1) H39286 w39288 f39291 ⟨by omega, by omega⟩ rfl)
        exact wp_lc (ks := [3, 0, 1, 2]) (wl_c rfl (wl_c rfl (wl_c rfl (wl_c rfl wl_n)))) rfl (by decide) (lp39220 _ 0 H38741 w38742 wfr.rf ⟨by omega, by omega⟩ rfl)
      · refine wp_of e127 c127_9 (rw_aload_n (pc' := 10) (v := .ref r0) rfl rfl rfl ?_)
        refine wp_of e127 c127_10 (xg_R (pc' := 13) lf_5_21 w38742 g0 sh_20 (by decide) (by decide) ty_20_3 rfl rfl (fun r39292 q39293 g39294 => ?_))
        refine wp_of e127 c127_13 (rw_iload_n (pc' := 14) (z := v38740) rfl rfl ?_)
        refine wp_of e127 c127_14 (rw_iconst (pc' := 15) rfl ?_)
        refine wp_of e127 c127_15 (xs_I (pc' := 16) w38742 g39294 (by decide) sh_24 (by decide) (ty_24 _) (by omega) (by omega) ⟨by omega, by omega⟩ (by omega) (by omega) rfl (fun H39295 e39296 w39297 => ?_))
        have f39298 := f38746.put' e39296 g39294 rfl
        have f39299 := f38743.put' e39296 g39294 rfl
        refine wp_of e127 c127_16 (rw_iinc (pc' := 19) (z := v38740) (L' := [(3, vI (v38740 + 1)), (0, .ref r0), (1, .ref r1), (2, vI a2)]) rfl rfl rfl rfl ?_)
        refine wp_of e127 c127_19 (rw_goto (p1 := 2) (by decide) ?_)
        exact wp_lc (ks := [3, 0, 1, 2]) (wl_c rfl (wl_c rfl (wl_c rfl (wl_c rfl wl_n)))) rfl (by decide) (ih38739 _ (by omega) (v38740 + 1) H39295 w39297 f39299 ⟨by omega, by omega⟩ rfl)
  exact wp_lc (ks := [3, 0, 1, 2]) (wl_c rfl (wl_c rfl (wl_c rfl (wl_c rfl wl_n)))) rfl (by decide) (lp38737 _ 0 H hW wfr.rf ⟨by omega, by omega⟩ rfl)
/-! StrikeAwake$Asking.fewest(LStrikeAwake$Parish;)I -/
theorem e125 : wq_en 125 = some (5, 5, false, some FieldType.int) := rfl
theorem c125_0 : mc_cd 125 0 = some (.iconst 1, 1) := by decide +kernel
theorem c125_1 : mc_cd 125 1 = some (.aload_n 1, 1) := by decide +kernel
theorem c125_2 : mc_cd 125 2 = some (.getfield 46, 3) := by decide +kernel
theorem c125_5 : mc_cd 125 5 = some (.ishl, 1) := by decide +kernel
theorem c125_6 : mc_cd 125 6 = some (.iconst 1, 1) := by decide +kernel
theorem c125_7 : mc_cd 125 7 = some (.isub, 1) := by decide +kernel
theorem c125_8 : mc_cd 125 8 = some (.istore_n 2, 1) := by decide +kernel
theorem c125_9 : mc_cd 125 9 = some (.iconst 0, 1) := by decide +kernel
theorem c125_10 : mc_cd 125 10 = some (.istore_n 3, 1) := by decide +kernel
theorem c125_11 : mc_cd 125 11 = some (.iload_n 3, 1) := by decide +kernel
theorem c125_12 : mc_cd 125 12 = some (.aload_n 1, 1) := by decide +kernel
theorem c125_13 : mc_cd 125 13 = some (.getfield 46, 3) := by decide +kernel
theorem c125_16 : mc_cd 125 16 = some (.if_icmp .ge 46, 3) := by decide +kernel
theorem c125_19 : mc_cd 125 19 = some (.iconst 0, 1) := by decide +kernel
theorem c125_20 : mc_cd 125 20 = some (.istore 4, 2) := by decide +kernel
theorem c125_22 : mc_cd 125 22 = some (.iload 4, 2) := by decide +kernel
theorem c125_24 : mc_cd 125 24 = some (.iload_n 2, 1) := by decide +kernel
theorem c125_25 : mc_cd 125 25 = some (.if_icmp .ge 31, 3) := by decide +kernel
theorem c125_28 : mc_cd 125 28 = some (.iload 4, 2) := by decide +kernel
theorem c125_30 : mc_cd 125 30 = some (.invokestatic 51, 3) := by decide +kernel
theorem c125_33 : mc_cd 125 33 = some (.iload_n 3, 1) := by decide +kernel
theorem c125_34 : mc_cd 125 34 = some (.if_icmp .ne 16, 3) := by decide +kernel
theorem c125_37 : mc_cd 125 37 = some (.aload_n 0, 1) := by decide +kernel
theorem c125_38 : mc_cd 125 38 = some (.aload_n 1, 1) := by decide +kernel
theorem c125_39 : mc_cd 125 39 = some (.iload 4, 2) := by decide +kernel
theorem c125_41 : mc_cd 125 41 = some (.invokevirtual 57, 3) := by decide +kernel
theorem c125_44 : mc_cd 125 44 = some (.ifCond .eq 6, 3) := by decide +kernel
theorem c125_47 : mc_cd 125 47 = some (.iload 4, 2) := by decide +kernel
theorem c125_49 : mc_cd 125 49 = some (.ireturn, 1) := by decide +kernel
theorem c125_50 : mc_cd 125 50 = some (.iinc 4 1, 3) := by decide +kernel
theorem c125_53 : mc_cd 125 53 = some (.goto (-31), 3) := by decide +kernel
theorem c125_56 : mc_cd 125 56 = some (.iinc 3 1, 3) := by decide +kernel
theorem c125_59 : mc_cd 125 59 = some (.goto (-48), 3) := by decide +kernel
theorem c125_62 : mc_cd 125 62 = some (.iload_n 2, 1) := by decide +kernel
theorem c125_63 : mc_cd 125 63 = some (.ireturn, 1) := by decide +kernel
abbrev q_125 (r0 : Nat) (r1 : Nat) (T : wq_T) (H : wq_H) : Option Value → wq_T → wq_H → Prop := fun r T' H' => T = T' ∧ WT T H' ∧ wfr [(23, 999), (24, 999)] T H H' ∧ ∃ z : Int, some (vI z) = r ∧ ((-2147483648) ≤ z ∧ z ≤ 2147483647)
set_option maxHeartbeats 4000000 in
theorem s_125 {kt : Nat → Option mc_E} {T : wq_T} {H : wq_H} {r0 : Nat} {r1 : Nat} (hW : WT T H) (g0 : T.2.2.2 r0 = some 20) (g1 : T.2.2.2 r1 = some 27) : wpc kt 4 125 [.ref r0, .ref r1] T H (q_125 r0 r1 T H) := by
  refine wp_enter e125 (Nat.le_of_ble_eq_true rfl) rfl ?_
  have f0 : wfr [(23, 999), (24, 999)] T H H := wfr.rf
  show wp _ _ 125 0 [(0, .ref r0), (1, .ref r1)] [] _ H _
  refine wp_of e125 c125_0 (rw_iconst (pc' := 1) rfl ?_)
  refine wp_of e125 c125_1 (rw_aload_n (pc' := 2) (v := .ref r1) rfl rfl rfl ?_)
  refine wp_of e125 c125_2 (xg_I (pc' := 5) lf_5_46 hW g1 sh_27 (by decide) (by decide) ty_27_10 rfl rfl (fun b41003 b41004 => ?_))
  refine wp_of e125 c125_5 (rw_ishl (pc' := 6) rfl ?_)
  obtain ⟨v41005, e41006⟩ : ∃ x : Int, x = wq_shl 1 (H r1 10) := ⟨_, rfl⟩
  rw [← e41006]
  have b41007 : -2147483648 ≤ v41005 ∧ v41005 ≤ 2147483647 := by
    rw [e41006]
    exact wI_shl _ _
  refine wp_of e125 c125_6 (rw_iconst (pc' := 7) rfl ?_)
  refine wp_of e125 c125_7 (rw_isubw (pc' := 8) rfl ?_)
  obtain ⟨v41008, e41009⟩ : ∃ x : Int, x = wq_w (v41005 - 1) := ⟨_, rfl⟩
  rw [← e41009]
  have b41010 : -2147483648 ≤ v41008 ∧ v41008 ≤ 2147483647 := by
    rw [e41009]
    exact wI_w _
  refine wp_of e125 c125_8 (rw_istore_n (pc' := 9) (z := v41008) (L' := [(2, vI v41008), (0, .ref r0), (1, .ref r1)]) rfl rfl rfl ?_)
  refine wp_of e125 c125_9 (rw_iconst (pc' := 10) rfl ?_)
  refine wp_of e125 c125_10 (rw_istore_n (pc' := 11) (z := 0) (L' := [(3, vI 0), (2, vI v41008), (0, .ref r0), (1, .ref r1)]) rfl rfl rfl ?_)
  have lp42495 : ∀ (n42496 : Nat) (v42498 : Int) (H42499 : wq_H), WT T H42499 → wfr [(23, 999), (24, 999)] T H H42499 → (0 ≤ v42498 ∧ v42498 ≤ 6) → (6 - v42498).toNat = n42496 → wp kt 3 125 11 [(3, vI v42498), (2, vI v41008), (0, .ref r0), (1, .ref r1)] [] T H42499 (q_125 r0 r1 T H) := by
    intro n42496
    induction n42496 using Nat.strongRecOn with
    | _ n42496 ih42497 =>
      intro v42498 H42499 w42500 f42501 b42502 m42503
      have f42504 := f0.tr f42501 rfl
      refine wp_of e125 c125_11 (rw_iload_n (pc' := 12) (z := v42498) rfl rfl ?_)
      refine wp_of e125 c125_12 (rw_aload_n (pc' := 13) (v := .ref r1) rfl rfl rfl ?_)
      have k42505 : H42499 r1 10 = H r1 10 := (f42501 r1 10 _ g1 rfl)
      refine wp_of e125 c125_13 (xg_I (pc' := 16) lf_5_46 w42500 g1 sh_27 (by decide) (by decide) ty_27_10 rfl rfl (fun b42506 b42507 => ?_))
      refine wp_of e125 c125_16 (rw_icmp_ge (p1 := 62) (p2 := 19) (by decide) rfl ⟨by omega, by omega⟩ ⟨by omega, by omega⟩ (fun c42508 => ?_) (fun c42508 => ?_))
      · refine wp_of e125 c125_62 (rw_iload_n (pc' := 63) (z := v41008) rfl rfl ?_)
        exact wp_ireturn e125 c125_63 rfl ⟨rfl, w42500, f42504, v41008, rfl, ⟨by omega, by omega⟩⟩
      · refine wp_of e125 c125_19 (rw_iconst (pc' := 20) rfl ?_)
        refine wp_of e125 c125_20 (rw_istore (pc' := 22) (z := 0) (L' := [(4, vI 0), (3, vI v42498), (2, vI v41008), (0, .ref r0), (1, .ref r1)]) rfl rfl rfl ?_)
        have lp42701 : ∀ (n42702 : Nat) (v42704 : Int) (H42705 : wq_H), WT T H42705 → wfr [(23, 999), (24, 999)] T H42499 H42705 → (0 ≤ v42704 ∧ v42704 ≤ 2147483647) → (2147483647 - v42704).toNat = n42702 → wp kt 3 125 22 [(4, vI v42704), (3, vI v42498), (2, vI v41008), (0, .ref r0), (1, .ref r1)] [] T H42705 (q_125 r0 r1 T H) := by
          intro n42702
          induction n42702 using Nat.strongRecOn with
          | _ n42702 ih42703 =>
            intro v42704 H42705 w42706 f42707 b42708 m42709
            have f42710 := f42504.tr f42707 rfl
            have f42711 := f42501.tr f42707 rfl
            refine wp_of e125 c125_22 (rw_iload (pc' := 24) (z := v42704) rfl rfl ?_)
            refine wp_of e125 c125_24 (rw_iload_n (pc' := 25) (z := v41008) rfl rfl ?_)
            refine wp_of e125 c125_25 (rw_icmp_ge (p1 := 56) (p2 := 28) (by decide) rfl ⟨by omega, by omega⟩ ⟨by omega, by omega⟩ (fun c42712 => ?_) (fun c42712 => ?_))
            · refine wp_of e125 c125_56 (rw_iinc (pc' := 59) (z := v42498) (L' := [(3, vI (v42498 + 1)), (4, vI v42704), (2, vI v41008), (0, .ref r0), (1, .ref r1)]) rfl rfl rfl rfl ?_)
              refine wp_of e125 c125_59 (rw_goto (p1 := 11) (by decide) ?_)
              exact wp_lc (ks := [3, 4, 2, 0, 1]) (wl_c rfl (wl_c rfl (wl_c rfl (wl_c rfl wl_n)))) rfl (by decide) (ih42497 _ (by omega) (v42498 + 1) H42705 w42706 f42711 ⟨by omega, by omega⟩ rfl)
            · refine wp_of e125 c125_28 (rw_iload (pc' := 30) (z := v42704) rfl rfl ?_)
              refine wp_of e125 c125_30 (xc_S (pc' := 33) (as := [vI v42704]) (st := []) (lm_5_51) rfl rfl (Nat.le_of_ble_eq_true rfl) rfl (by decide) (s_126 w42706 ⟨by omega, by omega⟩) (fun R42713 T42714 H42715 p42716 => ?_))
              obtain ⟨e42717, e42719, z42720, e42718, b42721⟩ := p42716
              subst e42717
              subst e42718
              subst e42719
              show wp _ _ 125 33 [(4, vI v42704), (3, vI v42498), (2, vI v41008), (0, .ref r0), (1, .ref r1)] [vI z42720] _ H42705 _
              refine wp_of e125 c125_33 (rw_iload_n (pc' := 34) (z := v42498) rfl rfl ?_)
              refine wp_of e125 c125_34 (rw_icmp_ne (p1 := 50) (p2 := 37) (by decide) rfl ⟨by omega, by omega⟩ ⟨by omega, by omega⟩ (fun c42722 => ?_) (fun c42722 => ?_))
              · refine wp_of e125 c125_50 (rw_iinc (pc' := 53) (z := v42704) (L' := [(4, vI (v42704 + 1)), (3, vI v42498), (2, vI v41008), (0, .ref r0), (1, .ref r1)]) rfl rfl rfl rfl ?_)
                refine wp_of e125 c125_53 (rw_goto (p1 := 22) (by decide) ?_)
                exact wp_lc (ks := [4, 3, 2, 0, 1]) (wl_c rfl (wl_c rfl (wl_c rfl (wl_c rfl (wl_c rfl wl_n))))) rfl (by decide) (ih42703 _ (by omega) (v42704 + 1) H42705 w42706 f42707 ⟨by omega, by omega⟩ rfl)
              · refine wp_of e125 c125_37 (rw_aload_n (pc' := 38) (v := .ref r0) rfl rfl rfl ?_)
                refine wp_of e125 c125_38 (rw_aload_n (pc' := 39) (v := .ref r1) rfl rfl rfl ?_)
                refine wp_of e125 c125_39 (rw_iload (pc' := 41) (z := v42704) rfl rfl ?_)
                refine wp_of e125 c125_41 (xc_V (pc' := 44) (r := r0) (as := [.ref r1, vI v42704]) (st := []) (lm_5_57) rfl rfl (Nat.le_of_ble_eq_true rfl) w42706 g0 sh_20 (by decide) rfl (by decide) (s_127 w42706 g0 g1 ⟨by omega, by omega⟩) (fun R42723 T42724 H42725 p42726 => ?_))
                obtain ⟨e42727, w42729, f42730, z42731, e42728, b42732⟩ := p42726
                subst e42727
                subst e42728
                have f42733 := f42710.tr f42730 rfl
                have f42734 := f42711.tr f42730 rfl
                have f42735 := f42707.tr f42730 rfl
                show wp _ _ 125 44 [(4, vI v42704), (3, vI v42498), (2, vI v41008), (0, .ref r0), (1, .ref r1)] [vI z42731] _ H42725 _
                refine wp_of e125 c125_44 (rw_if_eq (p1 := 50) (p2 := 47) (by decide) rfl ⟨by omega, by omega⟩ (fun c42736 => ?_) (fun c42736 => ?_))
                · refine wp_of e125 c125_50 (rw_iinc (pc' := 53) (z := v42704) (L' := [(4, vI (v42704 + 1)), (3, vI v42498), (2, vI v41008), (0, .ref r0), (1, .ref r1)]) rfl rfl rfl rfl ?_)
                  refine wp_of e125 c125_53 (rw_goto (p1 := 22) (by decide) ?_)
                  exact wp_lc (ks := [4, 3, 2, 0, 1]) (wl_c rfl (wl_c rfl (wl_c rfl (wl_c rfl (wl_c rfl wl_n))))) rfl (by decide) (ih42703 _ (by omega) (v42704 + 1) H42725 w42729 f42735 ⟨by omega, by omega⟩ rfl)
                · refine wp_of e125 c125_47 (rw_iload (pc' := 49) (z := v42704) rfl rfl ?_)
                  exact wp_ireturn e125 c125_49 rfl ⟨rfl, w42729, f42733, v42704, rfl, ⟨by omega, by omega⟩⟩
        exact wp_lc (ks := [4, 3, 2, 0, 1]) (wl_c rfl (wl_c rfl (wl_c rfl (wl_c rfl (wl_c rfl wl_n))))) rfl (by decide) (lp42701 _ 0 H42499 w42500 wfr.rf ⟨by omega, by omega⟩ rfl)
  exact wp_lc (ks := [3, 2, 0, 1]) (wl_c rfl (wl_c rfl (wl_c rfl (wl_c rfl wl_n)))) rfl (by decide) (lp42495 _ 0 H hW wfr.rf ⟨by omega, by omega⟩ rfl)
/-! StrikeAwake$Asking.fewestForAll(LStrikeAwake$Parish;LStrikeAwake$Census;)I -/
theorem e122 : wq_en 122 = some (5, 4, false, some FieldType.int) := rfl
theorem c122_0 : mc_cd 122 0 = some (.aload_n 0, 1) := by decide +kernel
theorem c122_1 : mc_cd 122 1 = some (.aload_n 1, 1) := by decide +kernel
theorem c122_2 : mc_cd 122 2 = some (.aload_n 2, 1) := by decide +kernel
theorem c122_3 : mc_cd 122 3 = some (.invokevirtual 24, 3) := by decide +kernel
theorem c122_6 : mc_cd 122 6 = some (.iconst 0, 1) := by decide +kernel
theorem c122_7 : mc_cd 122 7 = some (.istore_n 3, 1) := by decide +kernel
theorem c122_8 : mc_cd 122 8 = some (.iload_n 3, 1) := by decide +kernel
theorem c122_9 : mc_cd 122 9 = some (.aload_n 0, 1) := by decide +kernel
theorem c122_10 : mc_cd 122 10 = some (.getfield 28, 3) := by decide +kernel
theorem c122_13 : mc_cd 122 13 = some (.if_icmp .ge 21, 3) := by decide +kernel
theorem c122_16 : mc_cd 122 16 = some (.aload_n 0, 1) := by decide +kernel
theorem c122_17 : mc_cd 122 17 = some (.getfield 15, 3) := by decide +kernel
theorem c122_20 : mc_cd 122 20 = some (.iload_n 3, 1) := by decide +kernel
theorem c122_21 : mc_cd 122 21 = some (.aload_n 0, 1) := by decide +kernel
theorem c122_22 : mc_cd 122 22 = some (.getfield 9, 3) := by decide +kernel
theorem c122_25 : mc_cd 122 25 = some (.iload_n 3, 1) := by decide +kernel
theorem c122_26 : mc_cd 122 26 = some (.iaload, 1) := by decide +kernel
theorem c122_27 : mc_cd 122 27 = some (.iastore, 1) := by decide +kernel
theorem c122_28 : mc_cd 122 28 = some (.iinc 3 1, 3) := by decide +kernel
theorem c122_31 : mc_cd 122 31 = some (.goto (-23), 3) := by decide +kernel
theorem c122_34 : mc_cd 122 34 = some (.aload_n 0, 1) := by decide +kernel
theorem c122_35 : mc_cd 122 35 = some (.aload_n 1, 1) := by decide +kernel
theorem c122_36 : mc_cd 122 36 = some (.invokevirtual 32, 3) := by decide +kernel
theorem c122_39 : mc_cd 122 39 = some (.ireturn, 1) := by decide +kernel
abbrev q_122 (r0 : Nat) (r1 : Nat) (r2 : Nat) (T : wq_T) (H : wq_H) : Option Value → wq_T → wq_H → Prop := fun r T' H' => T = T' ∧ WT T H' ∧ wfr [(20, 4), (22, 999), (23, 999), (21, 999), (24, 999)] T H H' ∧ ∃ z : Int, some (vI z) = r ∧ ((-2147483648) ≤ z ∧ z ≤ 2147483647)
set_option maxHeartbeats 4000000 in
theorem s_122 {kt : Nat → Option mc_E} {T : wq_T} {H : wq_H} {r0 : Nat} {r1 : Nat} {r2 : Nat} (hW : WT T H) (g0 : T.2.2.2 r0 = some 20) (g1 : T.2.2.2 r1 = some 27) (g2 : T.2.2.2 r2 = some 12) : wpc kt 5 122 [.ref r0, .ref r1, .ref r2] T H (q_122 r0 r1 r2 T H) := by
  refine wp_enter e122 (Nat.le_of_ble_eq_true rfl) rfl ?_
  have f0 : wfr [(20, 4), (22, 999), (23, 999), (21, 999), (24, 999)] T H H := wfr.rf
  show wp _ _ 122 0 [(0, .ref r0), (1, .ref r1), (2, .ref r2)] [] _ H _
  refine wp_of e122 c122_0 (rw_aload_n (pc' := 1) (v := .ref r0) rfl rfl rfl ?_)
  refine wp_of e122 c122_1 (rw_aload_n (pc' := 2) (v := .ref r1) rfl rfl rfl ?_)
  refine wp_of e122 c122_2 (rw_aload_n (pc' := 3) (v := .ref r2) rfl rfl rfl ?_)
  refine wp_of e122 c122_3 (xc_V (pc' := 6) (r := r0) (as := [.ref r1, .ref r2]) (st := []) (lm_5_24) rfl rfl (Nat.le_of_ble_eq_true rfl) hW g0 sh_20 (by decide) rfl (by decide) (s_123 hW g0 g1 g2) (fun R42893 T42894 H42895 p42896 => ?_))
  obtain ⟨e42897, w42899, f42900, e42898⟩ := p42896
  subst e42897
  subst e42898
  have f42901 := f0.tr f42900 rfl
  show wp _ _ 122 6 [(0, .ref r0), (1, .ref r1), (2, .ref r2)] [] _ H42895 _
  refine wp_of e122 c122_6 (rw_iconst (pc' := 7) rfl ?_)
  refine wp_of e122 c122_7 (rw_istore_n (pc' := 8) (z := 0) (L' := [(3, vI 0), (0, .ref r0), (1, .ref r1), (2, .ref r2)]) rfl rfl rfl ?_)
  have lp43022 : ∀ (n43023 : Nat) (v43025 : Int) (H43026 : wq_H), WT T H43026 → wfr [(22, 999)] T H42895 H43026 → (0 ≤ v43025 ∧ v43025 ≤ 400) → (400 - v43025).toNat = n43023 → wp kt 4 122 8 [(3, vI v43025), (0, .ref r0), (1, .ref r1)] [] T H43026 (q_122 r0 r1 r2 T H) := by
    intro n43023
    induction n43023 using Nat.strongRecOn with
    | _ n43023 ih43024 =>
      intro v43025 H43026 w43027 f43028 b43029 m43030
      have f43031 := f42901.tr f43028 rfl
      refine wp_of e122 c122_8 (rw_iload_n (pc' := 9) (z := v43025) rfl rfl ?_)
      refine wp_of e122 c122_9 (rw_aload_n (pc' := 10) (v := .ref r0) rfl rfl rfl ?_)
      refine wp_of e122 c122_10 (xg_I (pc' := 13) lf_5_28 w43027 g0 sh_20 (by decide) (by decide) ty_20_4 rfl rfl (fun b43032 b43033 => ?_))
      refine wp_of e122 c122_13 (rw_icmp_ge (p1 := 34) (p2 := 16) (by decide) rfl ⟨by omega, by omega⟩ ⟨by omega, by omega⟩ (fun c43034 => ?_) (fun c43034 => ?_))
      · refine wp_of e122 c122_34 (rw_aload_n (pc' := 35) (v := .ref r0) rfl rfl rfl ?_)
        refine wp_of e122 c122_35 (rw_aload_n (pc' := 36) (v := .ref r1) rfl rfl rfl ?_)
        refine wp_of e122 c122_36 (xc_V (pc' := 39) (r := r0) (as := [.ref r1]) (st := []) (lm_5_32) rfl rfl (Nat.le_of_ble_eq_true rfl) w43027 g0 sh_20 (by decide) rfl (by decide) (s_125 w43027 g0 g1) (fun R43035 T43036 H43037 p43038 => ?_))
        obtain ⟨e43039, w43041, f43042, z43043, e43040, b43044⟩ := p43038
        subst e43039
        subst e43040
        have f43045 := f43031.tr f43042 rfl
        have f43046 := f43028.tr f43042 rfl
        show wp _ _ 122 39 [(3, vI v43025), (0, .ref r0), (1, .ref r1)] [vI z43043] _ H43037 _
        exact wp_ireturn e122 c122_39 rfl ⟨rfl, w43041, f43045, z43043, rfl, ⟨by omega, by omega⟩⟩
      · refine wp_of e122 c122_16 (rw_aload_n (pc' := 17) (v := .ref r0) rfl rfl rfl ?_)
        refine wp_of e122 c122_17 (xg_R (pc' := 20) lf_5_15 w43027 g0 sh_20 (by decide) (by decide) ty_20_1 rfl rfl (fun r43047 q43048 g43049 => ?_))
        refine wp_of e122 c122_20 (rw_iload_n (pc' := 21) (z := v43025) rfl rfl ?_)
        refine wp_of e122 c122_21 (rw_aload_n (pc' := 22) (v := .ref r0) rfl rfl rfl ?_)
        refine wp_of e122 c122_22 (xg_R (pc' := 25) lf_5_9 w43027 g0 sh_20 (by decide) (by decide) ty_20_0 rfl rfl (fun r43050 q43051 g43052 => ?_))
        refine wp_of e122 c122_25 (rw_iload_n (pc' := 26) (z := v43025) rfl rfl ?_)
        refine wp_of e122 c122_26 (xa_I (so := 0) (pc' := 27) w43027 g43052 sh_21 (by decide) (ty_21 _) (by omega) (by omega) rfl (fun b43053 b43054 => ?_))
        refine wp_of e122 c122_27 (xs_I (pc' := 28) w43027 g43049 (by decide) sh_22 (by decide) (ty_22 _) (by omega) (by omega) ⟨by omega, by omega⟩ (by omega) (by omega) rfl (fun H43055 e43056 w43057 => ?_))
        have f43058 := f43031.put' e43056 g43049 rfl
        have f43059 := f43028.put' e43056 g43049 rfl
        refine wp_of e122 c122_28 (rw_iinc (pc' := 31) (z := v43025) (L' := [(3, vI (v43025 + 1)), (0, .ref r0), (1, .ref r1)]) rfl rfl rfl rfl ?_)
        refine wp_of e122 c122_31 (rw_goto (p1 := 8) (by decide) ?_)
        exact wp_lc (ks := [3, 0, 1]) (wl_c rfl (wl_c rfl (wl_c rfl wl_n))) rfl (by decide) (ih43024 _ (by omega) (v43025 + 1) H43055 w43057 f43059 ⟨by omega, by omega⟩ rfl)
  exact wp_lc (ks := [3, 0, 1, 2]) (wl_c rfl (wl_c rfl (wl_c rfl wl_n))) rfl (by decide) (lp43022 _ 0 H42895 w42899 wfr.rf ⟨by omega, by omega⟩ rfl)
/-! StrikeAwake.ask()I -/
theorem e120 : wq_en 120 = some (0, 2, false, some FieldType.int) := rfl
theorem c120_0 : mc_cd 120 0 = some (.aload_n 0, 1) := by decide +kernel
theorem c120_1 : mc_cd 120 1 = some (.aload_n 0, 1) := by decide +kernel
theorem c120_2 : mc_cd 120 2 = some (.getfield 58, 3) := by decide +kernel
theorem c120_5 : mc_cd 120 5 = some (.invokevirtual 227, 3) := by decide +kernel
theorem c120_8 : mc_cd 120 8 = some (.istore_n 1, 1) := by decide +kernel
theorem c120_9 : mc_cd 120 9 = some (.iload_n 1, 1) := by decide +kernel
theorem c120_10 : mc_cd 120 10 = some (.ifCond .eq 9, 3) := by decide +kernel
theorem c120_13 : mc_cd 120 13 = some (.aload_n 0, 1) := by decide +kernel
theorem c120_14 : mc_cd 120 14 = some (.iload_n 1, 1) := by decide +kernel
theorem c120_15 : mc_cd 120 15 = some (.invokevirtual 70, 3) := by decide +kernel
theorem c120_18 : mc_cd 120 18 = some (.ireturn, 1) := by decide +kernel
theorem c120_19 : mc_cd 120 19 = some (.aload_n 0, 1) := by decide +kernel
theorem c120_20 : mc_cd 120 20 = some (.aload_n 0, 1) := by decide +kernel
theorem c120_21 : mc_cd 120 21 = some (.getfield 37, 3) := by decide +kernel
theorem c120_24 : mc_cd 120 24 = some (.aload_n 0, 1) := by decide +kernel
theorem c120_25 : mc_cd 120 25 = some (.getfield 51, 3) := by decide +kernel
theorem c120_28 : mc_cd 120 28 = some (.aload_n 0, 1) := by decide +kernel
theorem c120_29 : mc_cd 120 29 = some (.getfield 30, 3) := by decide +kernel
theorem c120_32 : mc_cd 120 32 = some (.invokevirtual 230, 3) := by decide +kernel
theorem c120_35 : mc_cd 120 35 = some (.invokevirtual 99, 3) := by decide +kernel
theorem c120_38 : mc_cd 120 38 = some (.ireturn, 1) := by decide +kernel
abbrev q_120 (r0 : Nat) (T : wq_T) (H : wq_H) : Option Value → wq_T → wq_H → Prop := fun r T' H' => T = T' ∧ WT T H' ∧ wfr [(20, 4), (12, 5), (12, 6), (12, 7), (12, 8), (12, 9), (1, 10), (6, 5), (8, 999), (10, 999), (15, 999), (22, 999), (9, 999), (18, 999), (23, 999), (19, 999), (21, 999), (7, 999), (11, 999), (24, 999), (17, 999), (13, 999)] T H H' ∧ ∃ z : Int, some (vI z) = r ∧ ((-2147483648) ≤ z ∧ z ≤ 2147483647)
set_option maxHeartbeats 4000000 in
theorem s_120 {kt : Nat → Option mc_E} {T : wq_T} {H : wq_H} {r0 : Nat} (hW : WT T H) (g0 : T.2.2.2 r0 = some 1) : wpc kt 7 120 [.ref r0] T H (q_120 r0 T H) := by
  refine wp_enter e120 (Nat.le_of_ble_eq_true rfl) rfl ?_
  have f0 : wfr [(20, 4), (12, 5), (12, 6), (12, 7), (12, 8), (12, 9), (1, 10), (6, 5), (8, 999), (10, 999), (15, 999), (22, 999), (9, 999), (18, 999), (23, 999), (19, 999), (21, 999), (7, 999), (11, 999), (24, 999), (17, 999), (13, 999)] T H H := wfr.rf
  show wp _ _ 120 0 [(0, .ref r0)] [] _ H _
  refine wp_of e120 c120_0 (rw_aload_n (pc' := 1) (v := .ref r0) rfl rfl rfl ?_)
  refine wp_of e120 c120_1 (rw_aload_n (pc' := 2) (v := .ref r0) rfl rfl rfl ?_)
  refine wp_of e120 c120_2 (xg_I (pc' := 5) lf_0_58 hW g0 sh_1 (by decide) (by decide) ty_1_8 rfl rfl (fun b43117 b43118 => ?_))
  refine wp_of e120 c120_5 (xc_V (pc' := 8) (r := r0) (as := [vI (H r0 8)]) (st := []) (lm_0_227) rfl rfl (Nat.le_of_ble_eq_true rfl) hW g0 sh_1 (by decide) rfl (by decide) (s_121 hW g0 ⟨by omega, by omega⟩) (fun R43119 T43120 H43121 p43122 => ?_))
  obtain ⟨e43123, w43125, f43126, z43128, e43124, b43129, p43127⟩ := p43122
  subst e43123
  subst e43124
  have f43130 := f0.tr f43126 rfl
  show wp _ _ 120 8 [(0, .ref r0)] [vI z43128] _ H43121 _
  refine wp_of e120 c120_8 (rw_istore_n (pc' := 9) (z := z43128) (L' := [(1, vI z43128), (0, .ref r0)]) rfl rfl rfl ?_)
  refine wp_of e120 c120_9 (rw_iload_n (pc' := 10) (z := z43128) rfl rfl ?_)
  refine wp_of e120 c120_10 (rw_if_eq (p1 := 19) (p2 := 13) (by decide) rfl ⟨by omega, by omega⟩ (fun c43131 => ?_) (fun c43131 => ?_))
  · refine wp_of e120 c120_19 (rw_aload_n (pc' := 20) (v := .ref r0) rfl rfl rfl ?_)
    refine wp_of e120 c120_20 (rw_aload_n (pc' := 21) (v := .ref r0) rfl rfl rfl ?_)
    refine wp_of e120 c120_21 (xg_R (pc' := 24) lf_0_37 w43125 g0 sh_1 (by decide) (by decide) ty_1_4 rfl rfl (fun r43132 q43133 g43134 => ?_))
    refine wp_of e120 c120_24 (rw_aload_n (pc' := 25) (v := .ref r0) rfl rfl rfl ?_)
    refine wp_of e120 c120_25 (xg_R (pc' := 28) lf_0_51 w43125 g0 sh_1 (by decide) (by decide) ty_1_6 rfl rfl (fun r43135 q43136 g43137 => ?_))
    refine wp_of e120 c120_28 (rw_aload_n (pc' := 29) (v := .ref r0) rfl rfl rfl ?_)
    refine wp_of e120 c120_29 (xg_R (pc' := 32) lf_0_30 w43125 g0 sh_1 (by decide) (by decide) ty_1_3 rfl rfl (fun r43138 q43139 g43140 => ?_))
    refine wp_of e120 c120_32 (xc_V (pc' := 35) (r := r43132) (as := [.ref r43135, .ref r43138]) (st := [.ref r0]) (lm_0_230) rfl rfl (Nat.le_of_ble_eq_true rfl) w43125 g43134 sh_20 (by decide) rfl (by decide) (s_122 w43125 g43134 g43137 g43140) (fun R43141 T43142 H43143 p43144 => ?_))
    obtain ⟨e43145, w43147, f43148, z43149, e43146, b43150⟩ := p43144
    subst e43145
    subst e43146
    have f43151 := f43130.tr f43148 rfl
    show wp _ _ 120 35 [(1, vI z43128), (0, .ref r0)] [vI z43149, .ref r0] _ H43143 _
    refine wp_of e120 c120_35 (xc_V (pc' := 38) (r := r0) (as := [vI z43149]) (st := []) (lm_0_99) rfl rfl (Nat.le_of_ble_eq_true rfl) w43147 g0 sh_1 (by decide) rfl (by decide) (s_51 w43147 g0 ⟨by omega, by omega⟩) (fun R43152 T43153 H43154 p43155 => ?_))
    obtain ⟨e43156, w43158, f43159, z43160, e43157, b43161⟩ := p43155
    subst e43156
    subst e43157
    have f43162 := f43151.tr f43159 rfl
    show wp _ _ 120 38 [(1, vI z43128), (0, .ref r0)] [vI z43160] _ H43154 _
    exact wp_ireturn e120 c120_38 rfl ⟨rfl, w43158, f43162, z43160, rfl, ⟨by omega, by omega⟩⟩
  · refine wp_of e120 c120_13 (rw_aload_n (pc' := 14) (v := .ref r0) rfl rfl rfl ?_)
    refine wp_of e120 c120_14 (rw_iload_n (pc' := 15) (z := z43128) rfl rfl ?_)
    refine wp_of e120 c120_15 (xc_V (pc' := 18) (r := r0) (as := [vI z43128]) (st := []) (lm_0_70) rfl rfl (Nat.le_of_ble_eq_true rfl) w43125 g0 sh_1 (by decide) rfl (by decide) (s_12 w43125 g0 ⟨by omega, by omega⟩) (fun R43163 T43164 H43165 p43166 => ?_))
    obtain ⟨e43167, w43169, f43170, z43171, e43168, b43172⟩ := p43166
    subst e43167
    subst e43168
    have f43173 := f43130.tr f43170 rfl
    show wp _ _ 120 18 [(1, vI z43128), (0, .ref r0)] [vI z43171] _ H43165 _
    exact wp_ireturn e120 c120_18 rfl ⟨rfl, w43169, f43173, z43171, rfl, ⟨by omega, by omega⟩⟩
