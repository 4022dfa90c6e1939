/-! methods (own work, written by wip/gen2/sx.py) -/
/-! StrikeAwake$Census.awakeBeside(LStrikeAwake$Parish;II)I -/
theorem e115 : wq_en 115 = some (4, 7, false, some FieldType.int) := rfl
theorem c115_0 : mc_cd 115 0 = some (.iconst 0, 1) := by decide +kernel
theorem c115_1 : mc_cd 115 1 = some (.istore 4, 2) := by decide +kernel
theorem c115_3 : mc_cd 115 3 = some (.iconst 0, 1) := by decide +kernel
theorem c115_4 : mc_cd 115 4 = some (.istore 5, 2) := by decide +kernel
theorem c115_6 : mc_cd 115 6 = some (.iload 5, 2) := by decide +kernel
theorem c115_8 : mc_cd 115 8 = some (.i2l, 1) := by decide +kernel
theorem c115_9 : mc_cd 115 9 = some (.aload_n 1, 1) := by decide +kernel
theorem c115_10 : mc_cd 115 10 = some (.getfield 45, 3) := by decide +kernel
theorem c115_13 : mc_cd 115 13 = some (.lcmp, 1) := by decide +kernel
theorem c115_14 : mc_cd 115 14 = some (.ifCond .ge 75, 3) := by decide +kernel
theorem c115_17 : mc_cd 115 17 = some (.iload 5, 2) := by decide +kernel
theorem c115_19 : mc_cd 115 19 = some (.sipush 20000, 3) := by decide +kernel
theorem c115_22 : mc_cd 115 22 = some (.if_icmp .ge 67, 3) := by decide +kernel
theorem c115_25 : mc_cd 115 25 = some (.aload_n 0, 1) := by decide +kernel
theorem c115_26 : mc_cd 115 26 = some (.iload 5, 2) := by decide +kernel
theorem c115_28 : mc_cd 115 28 = some (.invokevirtual 113, 3) := by decide +kernel
theorem c115_31 : mc_cd 115 31 = some (.ifCond .eq 13, 3) := by decide +kernel
theorem c115_34 : mc_cd 115 34 = some (.aload_n 1, 1) := by decide +kernel
theorem c115_35 : mc_cd 115 35 = some (.iload 5, 2) := by decide +kernel
theorem c115_37 : mc_cd 115 37 = some (.iload_n 2, 1) := by decide +kernel
theorem c115_38 : mc_cd 115 38 = some (.invokevirtual 135, 3) := by decide +kernel
theorem c115_41 : mc_cd 115 41 = some (.goto 4, 3) := by decide +kernel
theorem c115_44 : mc_cd 115 44 = some (.iconst (-1), 1) := by decide +kernel
theorem c115_45 : mc_cd 115 45 = some (.istore 6, 2) := by decide +kernel
theorem c115_47 : mc_cd 115 47 = some (.iload 6, 2) := by decide +kernel
theorem c115_49 : mc_cd 115 49 = some (.ifCond .lt 34, 3) := by decide +kernel
theorem c115_52 : mc_cd 115 52 = some (.aload_n 1, 1) := by decide +kernel
theorem c115_53 : mc_cd 115 53 = some (.getfield 78, 3) := by decide +kernel
theorem c115_56 : mc_cd 115 56 = some (.iload_n 2, 1) := by decide +kernel
theorem c115_57 : mc_cd 115 57 = some (.aaload, 1) := by decide +kernel
theorem c115_58 : mc_cd 115 58 = some (.getfield 138, 3) := by decide +kernel
theorem c115_61 : mc_cd 115 61 = some (.iload 6, 2) := by decide +kernel
theorem c115_63 : mc_cd 115 63 = some (.iaload, 1) := by decide +kernel
theorem c115_64 : mc_cd 115 64 = some (.iload_n 3, 1) := by decide +kernel
theorem c115_65 : mc_cd 115 65 = some (.invokestatic 122, 3) := by decide +kernel
theorem c115_68 : mc_cd 115 68 = some (.ifCond .eq 15, 3) := by decide +kernel
theorem c115_71 : mc_cd 115 71 = some (.iload 4, 2) := by decide +kernel
theorem c115_73 : mc_cd 115 73 = some (.aload_n 1, 1) := by decide +kernel
theorem c115_74 : mc_cd 115 74 = some (.iload 5, 2) := by decide +kernel
theorem c115_76 : mc_cd 115 76 = some (.iload_n 3, 1) := by decide +kernel
theorem c115_77 : mc_cd 115 77 = some (.invokestatic 141, 3) := by decide +kernel
theorem c115_80 : mc_cd 115 80 = some (.ior, 1) := by decide +kernel
theorem c115_81 : mc_cd 115 81 = some (.istore 4, 2) := by decide +kernel
theorem c115_83 : mc_cd 115 83 = some (.iinc 5 1, 3) := by decide +kernel
theorem c115_86 : mc_cd 115 86 = some (.goto (-80), 3) := by decide +kernel
theorem c115_89 : mc_cd 115 89 = some (.iload 4, 2) := by decide +kernel
theorem c115_91 : mc_cd 115 91 = some (.ireturn, 1) := by decide +kernel
abbrev q_115 (r0 : Nat) (r1 : Nat) (a2 : Int) (a3 : Int) (T : wq_T) (H : wq_H) : Option Value → wq_T → wq_H → Prop := fun r T' H' => T = T' ∧ H = H' ∧ ∃ z : Int, some (vI z) = r ∧ ((-2147483648) ≤ z ∧ z ≤ 2147483647)
set_option maxHeartbeats 4000000 in
theorem s_115 {kt : Nat → Option mc_E} {T : wq_T} {H : wq_H} {r0 : Nat} {r1 : Nat} {a2 : Int} {a3 : Int} (hW : WT T H) (g0 : T.2.2.2 r0 = some 12) (g1 : T.2.2.2 r1 = some 27) (i2 : 0 ≤ a2 ∧ a2 ≤ 5) (i3 : (-2147483648) ≤ a3 ∧ a3 ≤ 2147483647) : wpc kt 4 115 [.ref r0, .ref r1, vI a2, vI a3] T H (q_115 r0 r1 a2 a3 T H) := by
  refine wp_enter e115 (Nat.le_of_ble_eq_true rfl) rfl ?_
  show wp _ _ 115 0 [(0, .ref r0), (1, .ref r1), (2, vI a2), (3, vI a3)] [] _ H _
  refine wp_of e115 c115_0 (rw_iconst (pc' := 1) rfl ?_)
  refine wp_of e115 c115_1 (rw_istore (pc' := 3) (z := 0) (L' := [(4, vI 0), (0, .ref r0), (1, .ref r1), (2, vI a2), (3, vI a3)]) rfl rfl rfl ?_)
  refine wp_of e115 c115_3 (rw_iconst (pc' := 4) rfl ?_)
  refine wp_of e115 c115_4 (rw_istore (pc' := 6) (z := 0) (L' := [(5, vI 0), (4, vI 0), (0, .ref r0), (1, .ref r1), (2, vI a2), (3, vI a3)]) rfl rfl rfl ?_)
  have lp34045 : ∀ (n34046 : Nat) (v34048 : Int) (v34049 : Int), (0 ≤ v34048 ∧ v34048 ≤ 20000) → ((-2147483648) ≤ v34049 ∧ v34049 ≤ 2147483647) → (20000 - v34048).toNat = n34046 → wp kt 3 115 6 [(5, vI v34048), (4, vI v34049), (0, .ref r0), (1, .ref r1), (2, vI a2), (3, vI a3)] [] T H (q_115 r0 r1 a2 a3 T H) := by
    intro n34046
    induction n34046 using Nat.strongRecOn with
    | _ n34046 ih34047 =>
      intro v34048 v34049 b34052 b34053 m34054
      refine wp_of e115 c115_6 (rw_iload (pc' := 8) (z := v34048) rfl rfl ?_)
      refine wp_of e115 c115_8 (rw_i2l (pc' := 9) rfl ⟨by omega, by omega⟩ ?_)
      refine wp_of e115 c115_9 (rw_aload_n (pc' := 10) (v := .ref r1) rfl rfl rfl ?_)
      refine wp_of e115 c115_10 (xg_L (pc' := 13) lf_4_45 hW g1 sh_27 (by decide) (by decide) ty_27_18 rfl rfl (fun b34055 b34056 => ?_))
      refine wp_of e115 c115_13 (rw_lcmp (pc' := 14) rfl ⟨by omega, by omega⟩ ⟨by omega, by omega⟩ ?_)
      have b34057 := wq_cmp_b v34048 (H r1 18)
      refine wp_of e115 c115_14 (rw_if_ge (p1 := 89) (p2 := 17) (by decide) rfl ⟨by omega, by omega⟩ (fun c34058 => ?_) (fun c34058 => ?_))
      · refine wp_of e115 c115_89 (rw_iload (pc' := 91) (z := v34049) rfl rfl ?_)
        exact wp_ireturn e115 c115_91 rfl ⟨rfl, rfl, v34049, rfl, ⟨by omega, by omega⟩⟩
      · refine wp_of e115 c115_17 (rw_iload (pc' := 19) (z := v34048) rfl rfl ?_)
        refine wp_of e115 c115_19 (rw_sipush (pc' := 22) (z := 20000) rfl (by decide) ?_)
        refine wp_of e115 c115_22 (rw_icmp_ge (p1 := 89) (p2 := 25) (by decide) rfl ⟨by omega, by omega⟩ ⟨by omega, by omega⟩ (fun c34059 => ?_) (fun c34059 => ?_))
        · refine wp_of e115 c115_89 (rw_iload (pc' := 91) (z := v34049) rfl rfl ?_)
          exact wp_ireturn e115 c115_91 rfl ⟨rfl, rfl, v34049, rfl, ⟨by omega, by omega⟩⟩
        · refine wp_of e115 c115_25 (rw_aload_n (pc' := 26) (v := .ref r0) rfl rfl rfl ?_)
          refine wp_of e115 c115_26 (rw_iload (pc' := 28) (z := v34048) rfl rfl ?_)
          refine wp_of e115 c115_28 (xc_V (pc' := 31) (r := r0) (as := [vI v34048]) (st := []) (lm_4_113) rfl rfl (Nat.le_of_ble_eq_true rfl) hW g0 sh_12 (by decide) rfl (by decide) (s_95 hW g0 ⟨by omega, by omega⟩) (fun R34060 T34061 H34062 p34063 => ?_))
          obtain ⟨e34064, e34066, z34067, e34065, b34068⟩ := p34063
          subst e34064
          subst e34065
          subst e34066
          show wp _ _ 115 31 [(5, vI v34048), (4, vI v34049), (0, .ref r0), (1, .ref r1), (2, vI a2), (3, vI a3)] [vI z34067] _ H _
          refine wp_of e115 c115_31 (rw_if_eq (p1 := 44) (p2 := 34) (by decide) rfl ⟨by omega, by omega⟩ (fun c34069 => ?_) (fun c34069 => ?_))
          · refine wp_of e115 c115_44 (rw_iconst (pc' := 45) rfl ?_)
            refine wp_of e115 c115_45 (rw_istore (pc' := 47) (z := -1) (L' := [(6, vI (-1)), (5, vI v34048), (4, vI v34049), (0, .ref r0), (1, .ref r1), (2, vI a2), (3, vI a3)]) rfl rfl rfl ?_)
            refine wp_of e115 c115_47 (rw_iload (pc' := 49) (z := -1) rfl rfl ?_)
            refine wp_of e115 c115_49 (rw_if_lt (p1 := 83) (p2 := 52) (by decide) rfl ⟨by omega, by omega⟩ (fun c34070 => ?_) (fun c34070 => ?_))
            · refine wp_of e115 c115_83 (rw_iinc (pc' := 86) (z := v34048) (L' := [(5, vI (v34048 + 1)), (6, vI (-1)), (4, vI v34049), (0, .ref r0), (1, .ref r1), (2, vI a2), (3, vI a3)]) rfl rfl rfl rfl ?_)
              refine wp_of e115 c115_86 (rw_goto (p1 := 6) (by decide) ?_)
              exact wp_lc (ks := [5, 6, 4, 0, 1, 2, 3]) (wl_c rfl (wl_c rfl (wl_c rfl (wl_c rfl (wl_c rfl (wl_c rfl wl_n)))))) rfl (by decide) (ih34047 _ (by omega) (v34048 + 1) v34049 ⟨by omega, by omega⟩ ⟨by omega, by omega⟩ rfl)
            · exfalso
              omega
          · refine wp_of e115 c115_34 (rw_aload_n (pc' := 35) (v := .ref r1) rfl rfl rfl ?_)
            refine wp_of e115 c115_35 (rw_iload (pc' := 37) (z := v34048) rfl rfl ?_)
            refine wp_of e115 c115_37 (rw_iload_n (pc' := 38) (z := a2) rfl rfl ?_)
            refine wp_of e115 c115_38 (xc_V (pc' := 41) (r := r1) (as := [vI v34048, vI a2]) (st := []) (lm_4_135) rfl rfl (Nat.le_of_ble_eq_true rfl) hW g1 sh_27 (by decide) rfl (by decide) (s_96 hW g1 ⟨by omega, by omega⟩ ⟨by omega, by omega⟩) (fun R34071 T34072 H34073 p34074 => ?_))
            obtain ⟨e34075, e34077, z34078, e34076, b34079⟩ := p34074
            subst e34075
            subst e34076
            subst e34077
            show wp _ _ 115 41 [(5, vI v34048), (4, vI v34049), (0, .ref r0), (1, .ref r1), (2, vI a2), (3, vI a3)] [vI z34078] _ H _
            refine wp_of e115 c115_41 (rw_goto (p1 := 45) (by decide) ?_)
            refine wp_of e115 c115_45 (rw_istore (pc' := 47) (z := z34078) (L' := [(6, vI z34078), (5, vI v34048), (4, vI v34049), (0, .ref r0), (1, .ref r1), (2, vI a2), (3, vI a3)]) rfl rfl rfl ?_)
            refine wp_of e115 c115_47 (rw_iload (pc' := 49) (z := z34078) rfl rfl ?_)
            refine wp_of e115 c115_49 (rw_if_lt (p1 := 83) (p2 := 52) (by decide) rfl ⟨by omega, by omega⟩ (fun c34080 => ?_) (fun c34080 => ?_))
            · refine wp_of e115 c115_83 (rw_iinc (pc' := 86) (z := v34048) (L' := [(5, vI (v34048 + 1)), (6, vI z34078), (4, vI v34049), (0, .ref r0), (1, .ref r1), (2, vI a2), (3, vI a3)]) rfl rfl rfl rfl ?_)
              refine wp_of e115 c115_86 (rw_goto (p1 := 6) (by decide) ?_)
              exact wp_lc (ks := [5, 6, 4, 0, 1, 2, 3]) (wl_c rfl (wl_c rfl (wl_c rfl (wl_c rfl (wl_c rfl (wl_c rfl wl_n)))))) rfl (by decide) (ih34047 _ (by omega) (v34048 + 1) v34049 ⟨by omega, by omega⟩ ⟨by omega, by omega⟩ rfl)
            · refine wp_of e115 c115_52 (rw_aload_n (pc' := 53) (v := .ref r1) rfl rfl rfl ?_)
              refine wp_of e115 c115_53 (xg_R (pc' := 56) lf_4_78 hW g1 sh_27 (by decide) (by decide) ty_27_0 rfl rfl (fun r34081 q34082 g34083 => ?_))
              refine wp_of e115 c115_56 (rw_iload_n (pc' := 57) (z := a2) rfl rfl ?_)
              refine wp_of e115 c115_57 (xa_R (pc' := 58) (by decide) hW g34083 sh_28 (by decide) (ty_28 _) (by omega) (by omega) rfl (fun r34084 q34085 g34086 => ?_))
              refine wp_of e115 c115_58 (xg_R (pc' := 61) lf_4_138 hW g34086 sh_35 (by decide) (by decide) ty_35_2 rfl rfl (fun r34087 q34088 g34089 => ?_))
              refine wp_of e115 c115_61 (rw_iload (pc' := 63) (z := z34078) rfl rfl ?_)
              refine wp_of e115 c115_63 (xa_I (so := 0) (pc' := 64) hW g34089 sh_38 (by decide) (ty_38 _) (by omega) (by omega) rfl (fun b34090 b34091 => ?_))
              refine wp_of e115 c115_64 (rw_iload_n (pc' := 65) (z := a3) rfl rfl ?_)
              refine wp_of e115 c115_65 (xc_S (pc' := 68) (as := [vI (H r34087 (z34078.toNat)), vI a3]) (st := []) (lm_4_122) rfl rfl (Nat.le_of_ble_eq_true rfl) rfl (by decide) (s_36 hW ⟨by omega, by omega⟩ ⟨by omega, by omega⟩) (fun R34092 T34093 H34094 p34095 => ?_))
              obtain ⟨e34096, e34098, z34099, e34097, b34100⟩ := p34095
              subst e34096
              subst e34097
              subst e34098
              show wp _ _ 115 68 [(6, vI z34078), (5, vI v34048), (4, vI v34049), (0, .ref r0), (1, .ref r1), (2, vI a2), (3, vI a3)] [vI z34099] _ H _
              refine wp_of e115 c115_68 (rw_if_eq (p1 := 83) (p2 := 71) (by decide) rfl ⟨by omega, by omega⟩ (fun c34101 => ?_) (fun c34101 => ?_))
              · refine wp_of e115 c115_83 (rw_iinc (pc' := 86) (z := v34048) (L' := [(5, vI (v34048 + 1)), (6, vI z34078), (4, vI v34049), (0, .ref r0), (1, .ref r1), (2, vI a2), (3, vI a3)]) rfl rfl rfl rfl ?_)
                refine wp_of e115 c115_86 (rw_goto (p1 := 6) (by decide) ?_)
                exact wp_lc (ks := [5, 6, 4, 0, 1, 2, 3]) (wl_c rfl (wl_c rfl (wl_c rfl (wl_c rfl (wl_c rfl (wl_c rfl wl_n)))))) rfl (by decide) (ih34047 _ (by omega) (v34048 + 1) v34049 ⟨by omega, by omega⟩ ⟨by omega, by omega⟩ rfl)
              · refine wp_of e115 c115_71 (rw_iload (pc' := 73) (z := v34049) rfl rfl ?_)
                refine wp_of e115 c115_73 (rw_aload_n (pc' := 74) (v := .ref r1) rfl rfl rfl ?_)
                refine wp_of e115 c115_74 (rw_iload (pc' := 76) (z := v34048) rfl rfl ?_)
                refine wp_of e115 c115_76 (rw_iload_n (pc' := 77) (z := a3) rfl rfl ?_)
                refine wp_of e115 c115_77 (xc_S (pc' := 80) (as := [.ref r1, vI v34048, vI a3]) (st := [vI v34049]) (lm_4_141) rfl rfl (Nat.le_of_ble_eq_true rfl) rfl (by decide) (s_116 hW g1 ⟨by omega, by omega⟩ ⟨by omega, by omega⟩) (fun R34102 T34103 H34104 p34105 => ?_))
                obtain ⟨e34106, e34108, z34109, e34107, b34110⟩ := p34105
                subst e34106
                subst e34107
                subst e34108
                show wp _ _ 115 80 [(6, vI z34078), (5, vI v34048), (4, vI v34049), (0, .ref r0), (1, .ref r1), (2, vI a2), (3, vI a3)] [vI z34109, vI v34049] _ H _
                refine wp_of e115 c115_80 (rw_ior (pc' := 81) rfl ?_)
                obtain ⟨v34111, e34112⟩ : ∃ x : Int, x = wq_or v34049 z34109 := ⟨_, rfl⟩
                rw [← e34112]
                have b34113 : -2147483648 ≤ v34111 ∧ v34111 ≤ 2147483647 := by
                  rw [e34112]
                  exact wI_or _ _
                refine wp_of e115 c115_81 (rw_istore (pc' := 83) (z := v34111) (L' := [(4, vI v34111), (6, vI z34078), (5, vI v34048), (0, .ref r0), (1, .ref r1), (2, vI a2), (3, vI a3)]) rfl rfl rfl ?_)
                refine wp_of e115 c115_83 (rw_iinc (pc' := 86) (z := v34048) (L' := [(5, vI (v34048 + 1)), (4, vI v34111), (6, vI z34078), (0, .ref r0), (1, .ref r1), (2, vI a2), (3, vI a3)]) rfl rfl rfl rfl ?_)
                refine wp_of e115 c115_86 (rw_goto (p1 := 6) (by decide) ?_)
                exact wp_lc (ks := [5, 4, 6, 0, 1, 2, 3]) (wl_c rfl (wl_c rfl (wl_c rfl (wl_c rfl (wl_c rfl (wl_c rfl wl_n)))))) rfl (by decide) (ih34047 _ (by omega) (v34048 + 1) v34111 ⟨by omega, by omega⟩ ⟨by omega, by omega⟩ rfl)
  exact wp_lc (ks := [5, 4, 0, 1, 2, 3]) (wl_c rfl (wl_c rfl (wl_c rfl (wl_c rfl (wl_c rfl (wl_c rfl wl_n)))))) rfl (by decide) (lp34045 _ 0 0 ⟨by omega, by omega⟩ ⟨by omega, by omega⟩ rfl)
/-! StrikeAwake.hiding(II)I -/
theorem e114 : wq_en 114 = some (0, 4, false, some FieldType.int) := rfl
theorem c114_0 : mc_cd 114 0 = some (.aload_n 0, 1) := by decide +kernel
theorem c114_1 : mc_cd 114 1 = some (.aload_n 0, 1) := by decide +kernel
theorem c114_2 : mc_cd 114 2 = some (.iload_n 1, 1) := by decide +kernel
theorem c114_3 : mc_cd 114 3 = some (.invokevirtual 105, 3) := by decide +kernel
theorem c114_6 : mc_cd 114 6 = some (.ifCond .eq 15, 3) := by decide +kernel
theorem c114_9 : mc_cd 114 9 = some (.aload_n 0, 1) := by decide +kernel
theorem c114_10 : mc_cd 114 10 = some (.iload_n 2, 1) := by decide +kernel
theorem c114_11 : mc_cd 114 11 = some (.invokevirtual 132, 3) := by decide +kernel
theorem c114_14 : mc_cd 114 14 = some (.ifCond .eq 7, 3) := by decide +kernel
theorem c114_17 : mc_cd 114 17 = some (.iconst 1, 1) := by decide +kernel
theorem c114_18 : mc_cd 114 18 = some (.goto 4, 3) := by decide +kernel
theorem c114_21 : mc_cd 114 21 = some (.iconst 0, 1) := by decide +kernel
theorem c114_22 : mc_cd 114 22 = some (.invokevirtual 174, 3) := by decide +kernel
theorem c114_25 : mc_cd 114 25 = some (.istore_n 3, 1) := by decide +kernel
theorem c114_26 : mc_cd 114 26 = some (.iload_n 3, 1) := by decide +kernel
theorem c114_27 : mc_cd 114 27 = some (.ifCond .eq 9, 3) := by decide +kernel
theorem c114_30 : mc_cd 114 30 = some (.aload_n 0, 1) := by decide +kernel
theorem c114_31 : mc_cd 114 31 = some (.iload_n 3, 1) := by decide +kernel
theorem c114_32 : mc_cd 114 32 = some (.invokevirtual 70, 3) := by decide +kernel
theorem c114_35 : mc_cd 114 35 = some (.ireturn, 1) := by decide +kernel
theorem c114_36 : mc_cd 114 36 = some (.aload_n 0, 1) := by decide +kernel
theorem c114_37 : mc_cd 114 37 = some (.aload_n 0, 1) := by decide +kernel
theorem c114_38 : mc_cd 114 38 = some (.getfield 30, 3) := by decide +kernel
theorem c114_41 : mc_cd 114 41 = some (.aload_n 0, 1) := by decide +kernel
theorem c114_42 : mc_cd 114 42 = some (.getfield 51, 3) := by decide +kernel
theorem c114_45 : mc_cd 114 45 = some (.iload_n 1, 1) := by decide +kernel
theorem c114_46 : mc_cd 114 46 = some (.iload_n 2, 1) := by decide +kernel
theorem c114_47 : mc_cd 114 47 = some (.invokevirtual 220, 3) := by decide +kernel
theorem c114_50 : mc_cd 114 50 = some (.invokevirtual 99, 3) := by decide +kernel
theorem c114_53 : mc_cd 114 53 = some (.ireturn, 1) := by decide +kernel
abbrev q_114 (r0 : Nat) (a1 : Int) (a2 : Int) (T : wq_T) (H : wq_H) : Option Value → wq_T → wq_H → Prop := fun r T' H' => T = T' ∧ WT T H' ∧ wfr [(12, 5), (12, 6), (12, 7), (12, 8), (12, 9), (1, 10), (6, 5), (8, 999), (10, 999), (15, 999), (9, 999), (18, 999), (19, 999), (7, 999), (11, 999), (17, 999), (13, 999)] T H H' ∧ ∃ z : Int, some (vI z) = r ∧ ((-2147483648) ≤ z ∧ z ≤ 2147483647)
set_option maxHeartbeats 4000000 in
theorem s_114 {kt : Nat → Option mc_E} {T : wq_T} {H : wq_H} {r0 : Nat} {a1 : Int} {a2 : Int} (hW : WT T H) (g0 : T.2.2.2 r0 = some 1) (i1 : (-2147483648) ≤ a1 ∧ a1 ≤ 2147483647) (i2 : (-2147483648) ≤ a2 ∧ a2 ≤ 2147483647) : wpc kt 6 114 [.ref r0, vI a1, vI a2] T H (q_114 r0 a1 a2 T H) := by
  refine wp_enter e114 (Nat.le_of_ble_eq_true rfl) rfl ?_
  have f0 : wfr [(12, 5), (12, 6), (12, 7), (12, 8), (12, 9), (1, 10), (6, 5), (8, 999), (10, 999), (15, 999), (9, 999), (18, 999), (19, 999), (7, 999), (11, 999), (17, 999), (13, 999)] T H H := wfr.rf
  show wp _ _ 114 0 [(0, .ref r0), (1, vI a1), (2, vI a2)] [] _ H _
  refine wp_of e114 c114_0 (rw_aload_n (pc' := 1) (v := .ref r0) rfl rfl rfl ?_)
  refine wp_of e114 c114_1 (rw_aload_n (pc' := 2) (v := .ref r0) rfl rfl rfl ?_)
  refine wp_of e114 c114_2 (rw_iload_n (pc' := 3) (z := a1) rfl rfl ?_)
  refine wp_of e114 c114_3 (xc_V (pc' := 6) (r := r0) (as := [vI a1]) (st := [.ref r0]) (lm_0_105) rfl rfl (Nat.le_of_ble_eq_true rfl) hW g0 sh_1 (by decide) rfl (by decide) (s_55 hW g0 ⟨by omega, by omega⟩) (fun R34234 T34235 H34236 p34237 => ?_))
  obtain ⟨e34238, e34240, z34242, e34239, b34243, p34241⟩ := p34237
  subst e34238
  subst e34239
  subst e34240
  show wp _ _ 114 6 [(0, .ref r0), (1, vI a1), (2, vI a2)] [vI z34242, .ref r0] _ H _
  refine wp_of e114 c114_6 (rw_if_eq (p1 := 21) (p2 := 9) (by decide) rfl ⟨by omega, by omega⟩ (fun c34244 => ?_) (fun c34244 => ?_))
  · refine wp_of e114 c114_21 (rw_iconst (pc' := 22) rfl ?_)
    refine wp_of e114 c114_22 (xc_V (pc' := 25) (r := r0) (as := [vI 0]) (st := []) (lm_0_174) rfl rfl (Nat.le_of_ble_eq_true rfl) hW g0 sh_1 (by decide) rfl (by decide) (s_83 hW g0 ⟨by omega, by omega⟩) (fun R34245 T34246 H34247 p34248 => ?_))
    obtain ⟨e34249, w34251, f34252, z34254, e34250, b34255, p34253⟩ := p34248
    subst e34249
    subst e34250
    have f34256 := f0.tr f34252 rfl
    show wp _ _ 114 25 [(0, .ref r0), (1, vI a1), (2, vI a2)] [vI z34254] _ H34247 _
    refine wp_of e114 c114_25 (rw_istore_n (pc' := 26) (z := z34254) (L' := [(3, vI z34254), (0, .ref r0), (1, vI a1), (2, vI a2)]) rfl rfl rfl ?_)
    refine wp_of e114 c114_26 (rw_iload_n (pc' := 27) (z := z34254) rfl rfl ?_)
    refine wp_of e114 c114_27 (rw_if_eq (p1 := 36) (p2 := 30) (by decide) rfl ⟨by omega, by omega⟩ (fun c34257 => ?_) (fun c34257 => ?_))
    · exfalso
      omega
    · refine wp_of e114 c114_30 (rw_aload_n (pc' := 31) (v := .ref r0) rfl rfl rfl ?_)
      refine wp_of e114 c114_31 (rw_iload_n (pc' := 32) (z := z34254) rfl rfl ?_)
      refine wp_of e114 c114_32 (xc_V (pc' := 35) (r := r0) (as := [vI z34254]) (st := []) (lm_0_70) rfl rfl (Nat.le_of_ble_eq_true rfl) w34251 g0 sh_1 (by decide) rfl (by decide) (s_12 w34251 g0 ⟨by omega, by omega⟩) (fun R34258 T34259 H34260 p34261 => ?_))
      obtain ⟨e34262, w34264, f34265, z34266, e34263, b34267⟩ := p34261
      subst e34262
      subst e34263
      have f34268 := f34256.tr f34265 rfl
      show wp _ _ 114 35 [(3, vI z34254), (0, .ref r0), (1, vI a1), (2, vI a2)] [vI z34266] _ H34260 _
      exact wp_ireturn e114 c114_35 rfl ⟨rfl, w34264, f34268, z34266, rfl, ⟨by omega, by omega⟩⟩
  · refine wp_of e114 c114_9 (rw_aload_n (pc' := 10) (v := .ref r0) rfl rfl rfl ?_)
    refine wp_of e114 c114_10 (rw_iload_n (pc' := 11) (z := a2) rfl rfl ?_)
    refine wp_of e114 c114_11 (xc_V (pc' := 14) (r := r0) (as := [vI a2]) (st := [.ref r0]) (lm_0_132) rfl rfl (Nat.le_of_ble_eq_true rfl) hW g0 sh_1 (by decide) rfl (by decide) (s_60 hW g0 ⟨by omega, by omega⟩) (fun R34269 T34270 H34271 p34272 => ?_))
    obtain ⟨e34273, e34275, z34277, e34274, b34278, p34276⟩ := p34272
    subst e34273
    subst e34274
    subst e34275
    show wp _ _ 114 14 [(0, .ref r0), (1, vI a1), (2, vI a2)] [vI z34277, .ref r0] _ H _
    refine wp_of e114 c114_14 (rw_if_eq (p1 := 21) (p2 := 17) (by decide) rfl ⟨by omega, by omega⟩ (fun c34279 => ?_) (fun c34279 => ?_))
    · refine wp_of e114 c114_21 (rw_iconst (pc' := 22) rfl ?_)
      refine wp_of e114 c114_22 (xc_V (pc' := 25) (r := r0) (as := [vI 0]) (st := []) (lm_0_174) rfl rfl (Nat.le_of_ble_eq_true rfl) hW g0 sh_1 (by decide) rfl (by decide) (s_83 hW g0 ⟨by omega, by omega⟩) (fun R34280 T34281 H34282 p34283 => ?_))
      obtain ⟨e34284, w34286, f34287, z34289, e34285, b34290, p34288⟩ := p34283
      subst e34284
      subst e34285
      have f34291 := f0.tr f34287 rfl
      show wp _ _ 114 25 [(0, .ref r0), (1, vI a1), (2, vI a2)] [vI z34289] _ H34282 _
      refine wp_of e114 c114_25 (rw_istore_n (pc' := 26) (z := z34289) (L' := [(3, vI z34289), (0, .ref r0), (1, vI a1), (2, vI a2)]) rfl rfl rfl ?_)
      refine wp_of e114 c114_26 (rw_iload_n (pc' := 27) (z := z34289) rfl rfl ?_)
      refine wp_of e114 c114_27 (rw_if_eq (p1 := 36) (p2 := 30) (by decide) rfl ⟨by omega, by omega⟩ (fun c34292 => ?_) (fun c34292 => ?_))
      · exfalso
        omega
      · refine wp_of e114 c114_30 (rw_aload_n (pc' := 31) (v := .ref r0) rfl rfl rfl ?_)
        refine wp_of e114 c114_31 (rw_iload_n (pc' := 32) (z := z34289) rfl rfl ?_)
        refine wp_of e114 c114_32 (xc_V (pc' := 35) (r := r0) (as := [vI z34289]) (st := []) (lm_0_70) rfl rfl (Nat.le_of_ble_eq_true rfl) w34286 g0 sh_1 (by decide) rfl (by decide) (s_12 w34286 g0 ⟨by omega, by omega⟩) (fun R34293 T34294 H34295 p34296 => ?_))
        obtain ⟨e34297, w34299, f34300, z34301, e34298, b34302⟩ := p34296
        subst e34297
        subst e34298
        have f34303 := f34291.tr f34300 rfl
        show wp _ _ 114 35 [(3, vI z34289), (0, .ref r0), (1, vI a1), (2, vI a2)] [vI z34301] _ H34295 _
        exact wp_ireturn e114 c114_35 rfl ⟨rfl, w34299, f34303, z34301, rfl, ⟨by omega, by omega⟩⟩
    · refine wp_of e114 c114_17 (rw_iconst (pc' := 18) rfl ?_)
      refine wp_of e114 c114_18 (rw_goto (p1 := 22) (by decide) ?_)
      refine wp_of e114 c114_22 (xc_V (pc' := 25) (r := r0) (as := [vI 1]) (st := []) (lm_0_174) rfl rfl (Nat.le_of_ble_eq_true rfl) hW g0 sh_1 (by decide) rfl (by decide) (s_83 hW g0 ⟨by omega, by omega⟩) (fun R34304 T34305 H34306 p34307 => ?_))
      obtain ⟨e34308, w34310, f34311, z34313, e34309, b34314, p34312⟩ := p34307
      subst e34308
      subst e34309
      have f34315 := f0.tr f34311 rfl
      show wp _ _ 114 25 [(0, .ref r0), (1, vI a1), (2, vI a2)] [vI z34313] _ H34306 _
      refine wp_of e114 c114_25 (rw_istore_n (pc' := 26) (z := z34313) (L' := [(3, vI z34313), (0, .ref r0), (1, vI a1), (2, vI a2)]) rfl rfl rfl ?_)
      refine wp_of e114 c114_26 (rw_iload_n (pc' := 27) (z := z34313) rfl rfl ?_)
      refine wp_of e114 c114_27 (rw_if_eq (p1 := 36) (p2 := 30) (by decide) rfl ⟨by omega, by omega⟩ (fun c34316 => ?_) (fun c34316 => ?_))
      · refine wp_of e114 c114_36 (rw_aload_n (pc' := 37) (v := .ref r0) rfl rfl rfl ?_)
        refine wp_of e114 c114_37 (rw_aload_n (pc' := 38) (v := .ref r0) rfl rfl rfl ?_)
        refine wp_of e114 c114_38 (xg_R (pc' := 41) lf_0_30 w34310 g0 sh_1 (by decide) (by decide) ty_1_3 rfl rfl (fun r34317 q34318 g34319 => ?_))
        refine wp_of e114 c114_41 (rw_aload_n (pc' := 42) (v := .ref r0) rfl rfl rfl ?_)
        refine wp_of e114 c114_42 (xg_R (pc' := 45) lf_0_51 w34310 g0 sh_1 (by decide) (by decide) ty_1_6 rfl rfl (fun r34320 q34321 g34322 => ?_))
        refine wp_of e114 c114_45 (rw_iload_n (pc' := 46) (z := a1) rfl rfl ?_)
        refine wp_of e114 c114_46 (rw_iload_n (pc' := 47) (z := a2) rfl rfl ?_)
        refine wp_of e114 c114_47 (xc_V (pc' := 50) (r := r34317) (as := [.ref r34320, vI a1, vI a2]) (st := [.ref r0]) (lm_0_220) rfl rfl (Nat.le_of_ble_eq_true rfl) w34310 g34319 sh_12 (by decide) rfl (by decide) (s_115 w34310 g34319 g34322 ⟨by omega, by omega⟩ ⟨by omega, by omega⟩) (fun R34323 T34324 H34325 p34326 => ?_))
        obtain ⟨e34327, e34329, z34330, e34328, b34331⟩ := p34326
        subst e34327
        subst e34328
        subst e34329
        show wp _ _ 114 50 [(3, vI z34313), (0, .ref r0), (1, vI a1), (2, vI a2)] [vI z34330, .ref r0] _ H34306 _
        refine wp_of e114 c114_50 (xc_V (pc' := 53) (r := r0) (as := [vI z34330]) (st := []) (lm_0_99) rfl rfl (Nat.le_of_ble_eq_true rfl) w34310 g0 sh_1 (by decide) rfl (by decide) (s_51 w34310 g0 ⟨by omega, by omega⟩) (fun R34332 T34333 H34334 p34335 => ?_))
        obtain ⟨e34336, w34338, f34339, z34340, e34337, b34341⟩ := p34335
        subst e34336
        subst e34337
        have f34342 := f34315.tr f34339 rfl
        show wp _ _ 114 53 [(3, vI z34313), (0, .ref r0), (1, vI a1), (2, vI a2)] [vI z34340] _ H34334 _
        exact wp_ireturn e114 c114_53 rfl ⟨rfl, w34338, f34342, z34340, rfl, ⟨by omega, by omega⟩⟩
      · refine wp_of e114 c114_30 (rw_aload_n (pc' := 31) (v := .ref r0) rfl rfl rfl ?_)
        refine wp_of e114 c114_31 (rw_iload_n (pc' := 32) (z := z34313) rfl rfl ?_)
        refine wp_of e114 c114_32 (xc_V (pc' := 35) (r := r0) (as := [vI z34313]) (st := []) (lm_0_70) rfl rfl (Nat.le_of_ble_eq_true rfl) w34310 g0 sh_1 (by decide) rfl (by decide) (s_12 w34310 g0 ⟨by omega, by omega⟩) (fun R34343 T34344 H34345 p34346 => ?_))
        obtain ⟨e34347, w34349, f34350, z34351, e34348, b34352⟩ := p34346
        subst e34347
        subst e34348
        have f34353 := f34315.tr f34350 rfl
        show wp _ _ 114 35 [(3, vI z34313), (0, .ref r0), (1, vI a1), (2, vI a2)] [vI z34351] _ H34345 _
        exact wp_ireturn e114 c114_35 rfl ⟨rfl, w34349, f34353, z34351, rfl, ⟨by omega, by omega⟩⟩
/-! StrikeAwake$Census.outermost([IIZ)I -/
theorem e118 : wq_en 118 = some (4, 6, false, some FieldType.int) := rfl
theorem c118_0 : mc_cd 118 0 = some (.iconst (-1), 1) := by decide +kernel
theorem c118_1 : mc_cd 118 1 = some (.istore 4, 2) := by decide +kernel
theorem c118_3 : mc_cd 118 3 = some (.iconst 0, 1) := by decide +kernel
theorem c118_4 : mc_cd 118 4 = some (.istore 5, 2) := by decide +kernel
theorem c118_6 : mc_cd 118 6 = some (.iload 5, 2) := by decide +kernel
theorem c118_8 : mc_cd 118 8 = some (.bipush 40, 2) := by decide +kernel
theorem c118_10 : mc_cd 118 10 = some (.if_icmp .ge 64, 3) := by decide +kernel
theorem c118_13 : mc_cd 118 13 = some (.iload 5, 2) := by decide +kernel
theorem c118_15 : mc_cd 118 15 = some (.aload_n 1, 1) := by decide +kernel
theorem c118_16 : mc_cd 118 16 = some (.arraylength, 1) := by decide +kernel
theorem c118_17 : mc_cd 118 17 = some (.if_icmp .ge 57, 3) := by decide +kernel
theorem c118_20 : mc_cd 118 20 = some (.aload_n 0, 1) := by decide +kernel
theorem c118_21 : mc_cd 118 21 = some (.getfield 17, 3) := by decide +kernel
theorem c118_24 : mc_cd 118 24 = some (.iload_n 2, 1) := by decide +kernel
theorem c118_25 : mc_cd 118 25 = some (.aaload, 1) := by decide +kernel
theorem c118_26 : mc_cd 118 26 = some (.iload 5, 2) := by decide +kernel
theorem c118_28 : mc_cd 118 28 = some (.iaload, 1) := by decide +kernel
theorem c118_29 : mc_cd 118 29 = some (.ifCond .le 39, 3) := by decide +kernel
theorem c118_32 : mc_cd 118 32 = some (.iload 4, 2) := by decide +kernel
theorem c118_34 : mc_cd 118 34 = some (.ifCond .lt 28, 3) := by decide +kernel
theorem c118_37 : mc_cd 118 37 = some (.iload_n 3, 1) := by decide +kernel
theorem c118_38 : mc_cd 118 38 = some (.ifCond .eq 15, 3) := by decide +kernel
theorem c118_41 : mc_cd 118 41 = some (.aload_n 1, 1) := by decide +kernel
theorem c118_42 : mc_cd 118 42 = some (.iload 5, 2) := by decide +kernel
theorem c118_44 : mc_cd 118 44 = some (.iaload, 1) := by decide +kernel
theorem c118_45 : mc_cd 118 45 = some (.iload 4, 2) := by decide +kernel
theorem c118_47 : mc_cd 118 47 = some (.if_icmp .le 21, 3) := by decide +kernel
theorem c118_50 : mc_cd 118 50 = some (.goto 12, 3) := by decide +kernel
theorem c118_53 : mc_cd 118 53 = some (.aload_n 1, 1) := by decide +kernel
theorem c118_54 : mc_cd 118 54 = some (.iload 5, 2) := by decide +kernel
theorem c118_56 : mc_cd 118 56 = some (.iaload, 1) := by decide +kernel
theorem c118_57 : mc_cd 118 57 = some (.iload 4, 2) := by decide +kernel
theorem c118_59 : mc_cd 118 59 = some (.if_icmp .ge 9, 3) := by decide +kernel
theorem c118_62 : mc_cd 118 62 = some (.aload_n 1, 1) := by decide +kernel
theorem c118_63 : mc_cd 118 63 = some (.iload 5, 2) := by decide +kernel
theorem c118_65 : mc_cd 118 65 = some (.iaload, 1) := by decide +kernel
theorem c118_66 : mc_cd 118 66 = some (.istore 4, 2) := by decide +kernel
theorem c118_68 : mc_cd 118 68 = some (.iinc 5 1, 3) := by decide +kernel
theorem c118_71 : mc_cd 118 71 = some (.goto (-65), 3) := by decide +kernel
theorem c118_74 : mc_cd 118 74 = some (.iload 4, 2) := by decide +kernel
theorem c118_76 : mc_cd 118 76 = some (.ireturn, 1) := by decide +kernel
abbrev q_118_b (r0 : Nat) (r1 : Nat) (a2 : Int) (a3 : Int) (T : wq_T) (H : wq_H) : Option Value → wq_T → wq_H → Prop := fun r T' H' => T = T' ∧ H = H' ∧ ∃ z : Int, some (vI z) = r ∧ ((-2147483648) ≤ z ∧ z ≤ 2147483647)
set_option maxHeartbeats 4000000 in
theorem s_118_b {kt : Nat → Option mc_E} {T : wq_T} {H : wq_H} {r0 : Nat} {r1 : Nat} {a2 : Int} {a3 : Int} (hW : WT T H) (g0 : T.2.2.2 r0 = some 12) (g1 : T.2.2.2 r1 = some 36) (i2 : 0 ≤ a2 ∧ a2 ≤ 5) (i3 : 0 ≤ a3 ∧ a3 ≤ 1) : wpc kt 1 118 [.ref r0, .ref r1, vI a2, vI a3] T H (q_118_b r0 r1 a2 a3 T H) := by
  refine wp_enter e118 (Nat.le_of_ble_eq_true rfl) rfl ?_
  show wp _ _ 118 0 [(0, .ref r0), (1, .ref r1), (2, vI a2), (3, vI a3)] [] _ H _
  refine wp_of e118 c118_0 (rw_iconst (pc' := 1) rfl ?_)
  refine wp_of e118 c118_1 (rw_istore (pc' := 3) (z := -1) (L' := [(4, vI (-1)), (0, .ref r0), (1, .ref r1), (2, vI a2), (3, vI a3)]) rfl rfl rfl ?_)
  refine wp_of e118 c118_3 (rw_iconst (pc' := 4) rfl ?_)
  refine wp_of e118 c118_4 (rw_istore (pc' := 6) (z := 0) (L' := [(5, vI 0), (4, vI (-1)), (0, .ref r0), (1, .ref r1), (2, vI a2), (3, vI a3)]) rfl rfl rfl ?_)
  have lp34758 : ∀ (n34759 : Nat) (v34761 : Int) (v34762 : Int), (0 ≤ v34761 ∧ v34761 ≤ 40) → ((-1) ≤ v34762 ∧ v34762 ≤ 24) → (40 - v34761).toNat = n34759 → wp kt 0 118 6 [(5, vI v34761), (4, vI v34762), (0, .ref r0), (1, .ref r1), (2, vI a2), (3, vI a3)] [] T H (q_118_b r0 r1 a2 a3 T H) := by
    intro n34759
    induction n34759 using Nat.strongRecOn with
    | _ n34759 ih34760 =>
      intro v34761 v34762 b34765 b34766 m34767
      refine wp_of e118 c118_6 (rw_iload (pc' := 8) (z := v34761) rfl rfl ?_)
      refine wp_of e118 c118_8 (rw_bipush (pc' := 10) (z := 40) rfl (by decide) ?_)
      refine wp_of e118 c118_10 (rw_icmp_ge (p1 := 74) (p2 := 13) (by decide) rfl ⟨by omega, by omega⟩ ⟨by omega, by omega⟩ (fun c34768 => ?_) (fun c34768 => ?_))
      · refine wp_of e118 c118_74 (rw_iload (pc' := 76) (z := v34762) rfl rfl ?_)
        exact wp_ireturn e118 c118_76 rfl ⟨rfl, rfl, v34762, rfl, ⟨by omega, by omega⟩⟩
      · refine wp_of e118 c118_13 (rw_iload (pc' := 15) (z := v34761) rfl rfl ?_)
        refine wp_of e118 c118_15 (rw_aload_n (pc' := 16) (v := .ref r1) rfl rfl rfl ?_)
        refine wp_of e118 c118_16 (xa_N (pc' := 17) (n := 40) hW g1 sh_36 (by decide) rfl ?_)
        refine wp_of e118 c118_17 (rw_icmp_ge (p1 := 74) (p2 := 20) (by decide) rfl ⟨by omega, by omega⟩ ⟨by omega, by omega⟩ (fun c34769 => ?_) (fun c34769 => ?_))
        · exfalso
          omega
        · refine wp_of e118 c118_20 (rw_aload_n (pc' := 21) (v := .ref r0) rfl rfl rfl ?_)
          refine wp_of e118 c118_21 (xg_R (pc' := 24) lf_4_17 hW g0 sh_12 (by decide) (by decide) ty_12_1 rfl rfl (fun r34770 q34771 g34772 => ?_))
          refine wp_of e118 c118_24 (rw_iload_n (pc' := 25) (z := a2) rfl rfl ?_)
          refine wp_of e118 c118_25 (xa_R (pc' := 26) (by decide) hW g34772 sh_14 (by decide) (ty_14 _) (by omega) (by omega) rfl (fun r34773 q34774 g34775 => ?_))
          refine wp_of e118 c118_26 (rw_iload (pc' := 28) (z := v34761) rfl rfl ?_)
          refine wp_of e118 c118_28 (xa_I (so := 0) (pc' := 29) hW g34775 sh_15 (by decide) (ty_15 _) (by omega) (by omega) rfl (fun b34776 b34777 => ?_))
          refine wp_of e118 c118_29 (rw_if_le (p1 := 68) (p2 := 32) (by decide) rfl ⟨by omega, by omega⟩ (fun c34778 => ?_) (fun c34778 => ?_))
          · refine wp_of e118 c118_68 (rw_iinc (pc' := 71) (z := v34761) (L' := [(5, vI (v34761 + 1)), (4, vI v34762), (0, .ref r0), (1, .ref r1), (2, vI a2), (3, vI a3)]) rfl rfl rfl rfl ?_)
            refine wp_of e118 c118_71 (rw_goto (p1 := 6) (by decide) ?_)
            exact wp_lc (ks := [5, 4, 0, 1, 2, 3]) (wl_c rfl (wl_c rfl (wl_c rfl (wl_c rfl (wl_c rfl (wl_c rfl wl_n)))))) rfl (by decide) (ih34760 _ (by omega) (v34761 + 1) v34762 ⟨by omega, by omega⟩ ⟨by omega, by omega⟩ rfl)
          · refine wp_of e118 c118_32 (rw_iload (pc' := 34) (z := v34762) rfl rfl ?_)
            refine wp_of e118 c118_34 (rw_if_lt (p1 := 62) (p2 := 37) (by decide) rfl ⟨by omega, by omega⟩ (fun c34779 => ?_) (fun c34779 => ?_))
            · refine wp_of e118 c118_62 (rw_aload_n (pc' := 63) (v := .ref r1) rfl rfl rfl ?_)
              refine wp_of e118 c118_63 (rw_iload (pc' := 65) (z := v34761) rfl rfl ?_)
              refine wp_of e118 c118_65 (xa_I (so := 0) (pc' := 66) hW g1 sh_36 (by decide) (ty_36 _) (by omega) (by omega) rfl (fun b34780 b34781 => ?_))
              refine wp_of e118 c118_66 (rw_istore (pc' := 68) (z := H r1 (v34761.toNat)) (L' := [(4, vI (H r1 (v34761.toNat))), (5, vI v34761), (0, .ref r0), (1, .ref r1), (2, vI a2), (3, vI a3)]) rfl rfl rfl ?_)
              refine wp_of e118 c118_68 (rw_iinc (pc' := 71) (z := v34761) (L' := [(5, vI (v34761 + 1)), (4, vI (H r1 (v34761.toNat))), (0, .ref r0), (1, .ref r1), (2, vI a2), (3, vI a3)]) rfl rfl rfl rfl ?_)
              refine wp_of e118 c118_71 (rw_goto (p1 := 6) (by decide) ?_)
              exact wp_lc (ks := [5, 4, 0, 1, 2, 3]) (wl_c rfl (wl_c rfl (wl_c rfl (wl_c rfl (wl_c rfl (wl_c rfl wl_n)))))) rfl (by decide) (ih34760 _ (by omega) (v34761 + 1) (H r1 (v34761.toNat)) ⟨by omega, by omega⟩ ⟨by omega, by omega⟩ rfl)
            · refine wp_of e118 c118_37 (rw_iload_n (pc' := 38) (z := a3) rfl rfl ?_)
              refine wp_of e118 c118_38 (rw_if_eq (p1 := 53) (p2 := 41) (by decide) rfl ⟨by omega, by omega⟩ (fun c34782 => ?_) (fun c34782 => ?_))
              · refine wp_of e118 c118_53 (rw_aload_n (pc' := 54) (v := .ref r1) rfl rfl rfl ?_)
                refine wp_of e118 c118_54 (rw_iload (pc' := 56) (z := v34761) rfl rfl ?_)
                refine wp_of e118 c118_56 (xa_I (so := 0) (pc' := 57) hW g1 sh_36 (by decide) (ty_36 _) (by omega) (by omega) rfl (fun b34783 b34784 => ?_))
                refine wp_of e118 c118_57 (rw_iload (pc' := 59) (z := v34762) rfl rfl ?_)
                refine wp_of e118 c118_59 (rw_icmp_ge (p1 := 68) (p2 := 62) (by decide) rfl ⟨by omega, by omega⟩ ⟨by omega, by omega⟩ (fun c34785 => ?_) (fun c34785 => ?_))
                · refine wp_of e118 c118_68 (rw_iinc (pc' := 71) (z := v34761) (L' := [(5, vI (v34761 + 1)), (4, vI v34762), (0, .ref r0), (1, .ref r1), (2, vI a2), (3, vI a3)]) rfl rfl rfl rfl ?_)
                  refine wp_of e118 c118_71 (rw_goto (p1 := 6) (by decide) ?_)
                  exact wp_lc (ks := [5, 4, 0, 1, 2, 3]) (wl_c rfl (wl_c rfl (wl_c rfl (wl_c rfl (wl_c rfl (wl_c rfl wl_n)))))) rfl (by decide) (ih34760 _ (by omega) (v34761 + 1) v34762 ⟨by omega, by omega⟩ ⟨by omega, by omega⟩ rfl)
                · refine wp_of e118 c118_62 (rw_aload_n (pc' := 63) (v := .ref r1) rfl rfl rfl ?_)
                  refine wp_of e118 c118_63 (rw_iload (pc' := 65) (z := v34761) rfl rfl ?_)
                  refine wp_of e118 c118_65 (xa_I (so := 0) (pc' := 66) hW g1 sh_36 (by decide) (ty_36 _) (by omega) (by omega) rfl (fun b34786 b34787 => ?_))
                  refine wp_of e118 c118_66 (rw_istore (pc' := 68) (z := H r1 (v34761.toNat)) (L' := [(4, vI (H r1 (v34761.toNat))), (5, vI v34761), (0, .ref r0), (1, .ref r1), (2, vI a2), (3, vI a3)]) rfl rfl rfl ?_)
                  refine wp_of e118 c118_68 (rw_iinc (pc' := 71) (z := v34761) (L' := [(5, vI (v34761 + 1)), (4, vI (H r1 (v34761.toNat))), (0, .ref r0), (1, .ref r1), (2, vI a2), (3, vI a3)]) rfl rfl rfl rfl ?_)
                  refine wp_of e118 c118_71 (rw_goto (p1 := 6) (by decide) ?_)
                  exact wp_lc (ks := [5, 4, 0, 1, 2, 3]) (wl_c rfl (wl_c rfl (wl_c rfl (wl_c rfl (wl_c rfl (wl_c rfl wl_n)))))) rfl (by decide) (ih34760 _ (by omega) (v34761 + 1) (H r1 (v34761.toNat)) ⟨by omega, by omega⟩ ⟨by omega, by omega⟩ rfl)
              · refine wp_of e118 c118_41 (rw_aload_n (pc' := 42) (v := .ref r1) rfl rfl rfl ?_)
                refine wp_of e118 c118_42 (rw_iload (pc' := 44) (z := v34761) rfl rfl ?_)
                refine wp_of e118 c118_44 (xa_I (so := 0) (pc' := 45) hW g1 sh_36 (by decide) (ty_36 _) (by omega) (by omega) rfl (fun b34788 b34789 => ?_))
                refine wp_of e118 c118_45 (rw_iload (pc' := 47) (z := v34762) rfl rfl ?_)
                refine wp_of e118 c118_47 (rw_icmp_le (p1 := 68) (p2 := 50) (by decide) rfl ⟨by omega, by omega⟩ ⟨by omega, by omega⟩ (fun c34790 => ?_) (fun c34790 => ?_))
                · refine wp_of e118 c118_68 (rw_iinc (pc' := 71) (z := v34761) (L' := [(5, vI (v34761 + 1)), (4, vI v34762), (0, .ref r0), (1, .ref r1), (2, vI a2), (3, vI a3)]) rfl rfl rfl rfl ?_)
                  refine wp_of e118 c118_71 (rw_goto (p1 := 6) (by decide) ?_)
                  exact wp_lc (ks := [5, 4, 0, 1, 2, 3]) (wl_c rfl (wl_c rfl (wl_c rfl (wl_c rfl (wl_c rfl (wl_c rfl wl_n)))))) rfl (by decide) (ih34760 _ (by omega) (v34761 + 1) v34762 ⟨by omega, by omega⟩ ⟨by omega, by omega⟩ rfl)
                · refine wp_of e118 c118_50 (rw_goto (p1 := 62) (by decide) ?_)
                  refine wp_of e118 c118_62 (rw_aload_n (pc' := 63) (v := .ref r1) rfl rfl rfl ?_)
                  refine wp_of e118 c118_63 (rw_iload (pc' := 65) (z := v34761) rfl rfl ?_)
                  refine wp_of e118 c118_65 (xa_I (so := 0) (pc' := 66) hW g1 sh_36 (by decide) (ty_36 _) (by omega) (by omega) rfl (fun b34791 b34792 => ?_))
                  refine wp_of e118 c118_66 (rw_istore (pc' := 68) (z := H r1 (v34761.toNat)) (L' := [(4, vI (H r1 (v34761.toNat))), (5, vI v34761), (0, .ref r0), (1, .ref r1), (2, vI a2), (3, vI a3)]) rfl rfl rfl ?_)
                  refine wp_of e118 c118_68 (rw_iinc (pc' := 71) (z := v34761) (L' := [(5, vI (v34761 + 1)), (4, vI (H r1 (v34761.toNat))), (0, .ref r0), (1, .ref r1), (2, vI a2), (3, vI a3)]) rfl rfl rfl rfl ?_)
                  refine wp_of e118 c118_71 (rw_goto (p1 := 6) (by decide) ?_)
                  exact wp_lc (ks := [5, 4, 0, 1, 2, 3]) (wl_c rfl (wl_c rfl (wl_c rfl (wl_c rfl (wl_c rfl (wl_c rfl wl_n)))))) rfl (by decide) (ih34760 _ (by omega) (v34761 + 1) (H r1 (v34761.toNat)) ⟨by omega, by omega⟩ ⟨by omega, by omega⟩ rfl)
  exact wp_lc (ks := [5, 4, 0, 1, 2, 3]) (wl_c rfl (wl_c rfl (wl_c rfl (wl_c rfl (wl_c rfl (wl_c rfl wl_n)))))) rfl (by decide) (lp34758 _ 0 (-1) ⟨by omega, by omega⟩ ⟨by omega, by omega⟩ rfl)

/-! StrikeAwake$Census.outermost([IIZ)I -/
abbrev q_118_s (r0 : Nat) (r1 : Nat) (a2 : Int) (a3 : Int) (T : wq_T) (H : wq_H) : Option Value → wq_T → wq_H → Prop := fun r T' H' => T = T' ∧ H = H' ∧ ∃ z : Int, some (vI z) = r ∧ ((-2147483648) ≤ z ∧ z ≤ 2147483647)
set_option maxHeartbeats 4000000 in
theorem s_118_s {kt : Nat → Option mc_E} {T : wq_T} {H : wq_H} {r0 : Nat} {r1 : Nat} {a2 : Int} {a3 : Int} (hW : WT T H) (g0 : T.2.2.2 r0 = some 12) (g1 : T.2.2.2 r1 = some 37) (i2 : 0 ≤ a2 ∧ a2 ≤ 5) (i3 : 0 ≤ a3 ∧ a3 ≤ 1) : wpc kt 1 118 [.ref r0, .ref r1, vI a2, vI a3] T H (q_118_s r0 r1 a2 a3 T H) := by
  refine wp_enter e118 (Nat.le_of_ble_eq_true rfl) rfl ?_
  show wp _ _ 118 0 [(0, .ref r0), (1, .ref r1), (2, vI a2), (3, vI a3)] [] _ H _
  refine wp_of e118 c118_0 (rw_iconst (pc' := 1) rfl ?_)
  refine wp_of e118 c118_1 (rw_istore (pc' := 3) (z := -1) (L' := [(4, vI (-1)), (0, .ref r0), (1, .ref r1), (2, vI a2), (3, vI a3)]) rfl rfl rfl ?_)
  refine wp_of e118 c118_3 (rw_iconst (pc' := 4) rfl ?_)
  refine wp_of e118 c118_4 (rw_istore (pc' := 6) (z := 0) (L' := [(5, vI 0), (4, vI (-1)), (0, .ref r0), (1, .ref r1), (2, vI a2), (3, vI a3)]) rfl rfl rfl ?_)
  have lp35197 : ∀ (n35198 : Nat) (v35200 : Int) (v35201 : Int), (0 ≤ v35200 ∧ v35200 ≤ 40) → ((-1) ≤ v35201 ∧ v35201 ≤ 24) → (40 - v35200).toNat = n35198 → wp kt 0 118 6 [(5, vI v35200), (4, vI v35201), (0, .ref r0), (1, .ref r1), (2, vI a2), (3, vI a3)] [] T H (q_118_s r0 r1 a2 a3 T H) := by
    intro n35198
    induction n35198 using Nat.strongRecOn with
    | _ n35198 ih35199 =>
      intro v35200 v35201 b35204 b35205 m35206
      refine wp_of e118 c118_6 (rw_iload (pc' := 8) (z := v35200) rfl rfl ?_)
      refine wp_of e118 c118_8 (rw_bipush (pc' := 10) (z := 40) rfl (by decide) ?_)
      refine wp_of e118 c118_10 (rw_icmp_ge (p1 := 74) (p2 := 13) (by decide) rfl ⟨by omega, by omega⟩ ⟨by omega, by omega⟩ (fun c35207 => ?_) (fun c35207 => ?_))
      · refine wp_of e118 c118_74 (rw_iload (pc' := 76) (z := v35201) rfl rfl ?_)
        exact wp_ireturn e118 c118_76 rfl ⟨rfl, rfl, v35201, rfl, ⟨by omega, by omega⟩⟩
      · refine wp_of e118 c118_13 (rw_iload (pc' := 15) (z := v35200) rfl rfl ?_)
        refine wp_of e118 c118_15 (rw_aload_n (pc' := 16) (v := .ref r1) rfl rfl rfl ?_)
        refine wp_of e118 c118_16 (xa_N (pc' := 17) (n := 40) hW g1 sh_37 (by decide) rfl ?_)
        refine wp_of e118 c118_17 (rw_icmp_ge (p1 := 74) (p2 := 20) (by decide) rfl ⟨by omega, by omega⟩ ⟨by omega, by omega⟩ (fun c35208 => ?_) (fun c35208 => ?_))
        · exfalso
          omega
        · refine wp_of e118 c118_20 (rw_aload_n (pc' := 21) (v := .ref r0) rfl rfl rfl ?_)
          refine wp_of e118 c118_21 (xg_R (pc' := 24) lf_4_17 hW g0 sh_12 (by decide) (by decide) ty_12_1 rfl rfl (fun r35209 q35210 g35211 => ?_))
          refine wp_of e118 c118_24 (rw_iload_n (pc' := 25) (z := a2) rfl rfl ?_)
          refine wp_of e118 c118_25 (xa_R (pc' := 26) (by decide) hW g35211 sh_14 (by decide) (ty_14 _) (by omega) (by omega) rfl (fun r35212 q35213 g35214 => ?_))
          refine wp_of e118 c118_26 (rw_iload (pc' := 28) (z := v35200) rfl rfl ?_)
          refine wp_of e118 c118_28 (xa_I (so := 0) (pc' := 29) hW g35214 sh_15 (by decide) (ty_15 _) (by omega) (by omega) rfl (fun b35215 b35216 => ?_))
          refine wp_of e118 c118_29 (rw_if_le (p1 := 68) (p2 := 32) (by decide) rfl ⟨by omega, by omega⟩ (fun c35217 => ?_) (fun c35217 => ?_))
          · refine wp_of e118 c118_68 (rw_iinc (pc' := 71) (z := v35200) (L' := [(5, vI (v35200 + 1)), (4, vI v35201), (0, .ref r0), (1, .ref r1), (2, vI a2), (3, vI a3)]) rfl rfl rfl rfl ?_)
            refine wp_of e118 c118_71 (rw_goto (p1 := 6) (by decide) ?_)
            exact wp_lc (ks := [5, 4, 0, 1, 2, 3]) (wl_c rfl (wl_c rfl (wl_c rfl (wl_c rfl (wl_c rfl (wl_c rfl wl_n)))))) rfl (by decide) (ih35199 _ (by omega) (v35200 + 1) v35201 ⟨by omega, by omega⟩ ⟨by omega, by omega⟩ rfl)
          · refine wp_of e118 c118_32 (rw_iload (pc' := 34) (z := v35201) rfl rfl ?_)
            refine wp_of e118 c118_34 (rw_if_lt (p1 := 62) (p2 := 37) (by decide) rfl ⟨by omega, by omega⟩ (fun c35218 => ?_) (fun c35218 => ?_))
            · refine wp_of e118 c118_62 (rw_aload_n (pc' := 63) (v := .ref r1) rfl rfl rfl ?_)
              refine wp_of e118 c118_63 (rw_iload (pc' := 65) (z := v35200) rfl rfl ?_)
              refine wp_of e118 c118_65 (xa_I (so := 0) (pc' := 66) hW g1 sh_37 (by decide) (ty_37 _) (by omega) (by omega) rfl (fun b35219 b35220 => ?_))
              refine wp_of e118 c118_66 (rw_istore (pc' := 68) (z := H r1 (v35200.toNat)) (L' := [(4, vI (H r1 (v35200.toNat))), (5, vI v35200), (0, .ref r0), (1, .ref r1), (2, vI a2), (3, vI a3)]) rfl rfl rfl ?_)
              refine wp_of e118 c118_68 (rw_iinc (pc' := 71) (z := v35200) (L' := [(5, vI (v35200 + 1)), (4, vI (H r1 (v35200.toNat))), (0, .ref r0), (1, .ref r1), (2, vI a2), (3, vI a3)]) rfl rfl rfl rfl ?_)
              refine wp_of e118 c118_71 (rw_goto (p1 := 6) (by decide) ?_)
              exact wp_lc (ks := [5, 4, 0, 1, 2, 3]) (wl_c rfl (wl_c rfl (wl_c rfl (wl_c rfl (wl_c rfl (wl_c rfl wl_n)))))) rfl (by decide) (ih35199 _ (by omega) (v35200 + 1) (H r1 (v35200.toNat)) ⟨by omega, by omega⟩ ⟨by omega, by omega⟩ rfl)
            · refine wp_of e118 c118_37 (rw_iload_n (pc' := 38) (z := a3) rfl rfl ?_)
              refine wp_of e118 c118_38 (rw_if_eq (p1 := 53) (p2 := 41) (by decide) rfl ⟨by omega, by omega⟩ (fun c35221 => ?_) (fun c35221 => ?_))
              · refine wp_of e118 c118_53 (rw_aload_n (pc' := 54) (v := .ref r1) rfl rfl rfl ?_)
                refine wp_of e118 c118_54 (rw_iload (pc' := 56) (z := v35200) rfl rfl ?_)
                refine wp_of e118 c118_56 (xa_I (so := 0) (pc' := 57) hW g1 sh_37 (by decide) (ty_37 _) (by omega) (by omega) rfl (fun b35222 b35223 => ?_))
                refine wp_of e118 c118_57 (rw_iload (pc' := 59) (z := v35201) rfl rfl ?_)
                refine wp_of e118 c118_59 (rw_icmp_ge (p1 := 68) (p2 := 62) (by decide) rfl ⟨by omega, by omega⟩ ⟨by omega, by omega⟩ (fun c35224 => ?_) (fun c35224 => ?_))
                · refine wp_of e118 c118_68 (rw_iinc (pc' := 71) (z := v35200) (L' := [(5, vI (v35200 + 1)), (4, vI v35201), (0, .ref r0), (1, .ref r1), (2, vI a2), (3, vI a3)]) rfl rfl rfl rfl ?_)
                  refine wp_of e118 c118_71 (rw_goto (p1 := 6) (by decide) ?_)
                  exact wp_lc (ks := [5, 4, 0, 1, 2, 3]) (wl_c rfl (wl_c rfl (wl_c rfl (wl_c rfl (wl_c rfl (wl_c rfl wl_n)))))) rfl (by decide) (ih35199 _ (by omega) (v35200 + 1) v35201 ⟨by omega, by omega⟩ ⟨by omega, by omega⟩ rfl)
                · refine wp_of e118 c118_62 (rw_aload_n (pc' := 63) (v := .ref r1) rfl rfl rfl ?_)
                  refine wp_of e118 c118_63 (rw_iload (pc' := 65) (z := v35200) rfl rfl ?_)
                  refine wp_of e118 c118_65 (xa_I (so := 0) (pc' := 66) hW g1 sh_37 (by decide) (ty_37 _) (by omega) (by omega) rfl (fun b35225 b35226 => ?_))
                  refine wp_of e118 c118_66 (rw_istore (pc' := 68) (z := H r1 (v35200.toNat)) (L' := [(4, vI (H r1 (v35200.toNat))), (5, vI v35200), (0, .ref r0), (1, .ref r1), (2, vI a2), (3, vI a3)]) rfl rfl rfl ?_)
                  refine wp_of e118 c118_68 (rw_iinc (pc' := 71) (z := v35200) (L' := [(5, vI (v35200 + 1)), (4, vI (H r1 (v35200.toNat))), (0, .ref r0), (1, .ref r1), (2, vI a2), (3, vI a3)]) rfl rfl rfl rfl ?_)
                  refine wp_of e118 c118_71 (rw_goto (p1 := 6) (by decide) ?_)
                  exact wp_lc (ks := [5, 4, 0, 1, 2, 3]) (wl_c rfl (wl_c rfl (wl_c rfl (wl_c rfl (wl_c rfl (wl_c rfl wl_n)))))) rfl (by decide) (ih35199 _ (by omega) (v35200 + 1) (H r1 (v35200.toNat)) ⟨by omega, by omega⟩ ⟨by omega, by omega⟩ rfl)
              · refine wp_of e118 c118_41 (rw_aload_n (pc' := 42) (v := .ref r1) rfl rfl rfl ?_)
                refine wp_of e118 c118_42 (rw_iload (pc' := 44) (z := v35200) rfl rfl ?_)
                refine wp_of e118 c118_44 (xa_I (so := 0) (pc' := 45) hW g1 sh_37 (by decide) (ty_37 _) (by omega) (by omega) rfl (fun b35227 b35228 => ?_))
                refine wp_of e118 c118_45 (rw_iload (pc' := 47) (z := v35201) rfl rfl ?_)
                refine wp_of e118 c118_47 (rw_icmp_le (p1 := 68) (p2 := 50) (by decide) rfl ⟨by omega, by omega⟩ ⟨by omega, by omega⟩ (fun c35229 => ?_) (fun c35229 => ?_))
                · refine wp_of e118 c118_68 (rw_iinc (pc' := 71) (z := v35200) (L' := [(5, vI (v35200 + 1)), (4, vI v35201), (0, .ref r0), (1, .ref r1), (2, vI a2), (3, vI a3)]) rfl rfl rfl rfl ?_)
                  refine wp_of e118 c118_71 (rw_goto (p1 := 6) (by decide) ?_)
                  exact wp_lc (ks := [5, 4, 0, 1, 2, 3]) (wl_c rfl (wl_c rfl (wl_c rfl (wl_c rfl (wl_c rfl (wl_c rfl wl_n)))))) rfl (by decide) (ih35199 _ (by omega) (v35200 + 1) v35201 ⟨by omega, by omega⟩ ⟨by omega, by omega⟩ rfl)
                · refine wp_of e118 c118_50 (rw_goto (p1 := 62) (by decide) ?_)
                  refine wp_of e118 c118_62 (rw_aload_n (pc' := 63) (v := .ref r1) rfl rfl rfl ?_)
                  refine wp_of e118 c118_63 (rw_iload (pc' := 65) (z := v35200) rfl rfl ?_)
                  refine wp_of e118 c118_65 (xa_I (so := 0) (pc' := 66) hW g1 sh_37 (by decide) (ty_37 _) (by omega) (by omega) rfl (fun b35230 b35231 => ?_))
                  refine wp_of e118 c118_66 (rw_istore (pc' := 68) (z := H r1 (v35200.toNat)) (L' := [(4, vI (H r1 (v35200.toNat))), (5, vI v35200), (0, .ref r0), (1, .ref r1), (2, vI a2), (3, vI a3)]) rfl rfl rfl ?_)
                  refine wp_of e118 c118_68 (rw_iinc (pc' := 71) (z := v35200) (L' := [(5, vI (v35200 + 1)), (4, vI (H r1 (v35200.toNat))), (0, .ref r0), (1, .ref r1), (2, vI a2), (3, vI a3)]) rfl rfl rfl rfl ?_)
                  refine wp_of e118 c118_71 (rw_goto (p1 := 6) (by decide) ?_)
                  exact wp_lc (ks := [5, 4, 0, 1, 2, 3]) (wl_c rfl (wl_c rfl (wl_c rfl (wl_c rfl (wl_c rfl (wl_c rfl wl_n)))))) rfl (by decide) (ih35199 _ (by omega) (v35200 + 1) (H r1 (v35200.toNat)) ⟨by omega, by omega⟩ ⟨by omega, by omega⟩ rfl)
  exact wp_lc (ks := [5, 4, 0, 1, 2, 3]) (wl_c rfl (wl_c rfl (wl_c rfl (wl_c rfl (wl_c rfl (wl_c rfl wl_n)))))) rfl (by decide) (lp35197 _ 0 (-1) ⟨by omega, by omega⟩ ⟨by omega, by omega⟩ rfl)
/-! StrikeAwake.bed(IZ)I -/
theorem e117 : wq_en 117 = some (0, 4, false, some FieldType.int) := rfl
theorem c117_0 : mc_cd 117 0 = some (.aload_n 0, 1) := by decide +kernel
theorem c117_1 : mc_cd 117 1 = some (.aload_n 0, 1) := by decide +kernel
theorem c117_2 : mc_cd 117 2 = some (.iload_n 1, 1) := by decide +kernel
theorem c117_3 : mc_cd 117 3 = some (.invokevirtual 105, 3) := by decide +kernel
theorem c117_6 : mc_cd 117 6 = some (.invokevirtual 198, 3) := by decide +kernel
theorem c117_9 : mc_cd 117 9 = some (.istore_n 3, 1) := by decide +kernel
theorem c117_10 : mc_cd 117 10 = some (.iload_n 3, 1) := by decide +kernel
theorem c117_11 : mc_cd 117 11 = some (.ifCond .eq 9, 3) := by decide +kernel
theorem c117_14 : mc_cd 117 14 = some (.aload_n 0, 1) := by decide +kernel
theorem c117_15 : mc_cd 117 15 = some (.iload_n 3, 1) := by decide +kernel
theorem c117_16 : mc_cd 117 16 = some (.invokevirtual 70, 3) := by decide +kernel
theorem c117_19 : mc_cd 117 19 = some (.ireturn, 1) := by decide +kernel
theorem c117_20 : mc_cd 117 20 = some (.aload_n 0, 1) := by decide +kernel
theorem c117_21 : mc_cd 117 21 = some (.aload_n 0, 1) := by decide +kernel
theorem c117_22 : mc_cd 117 22 = some (.getfield 30, 3) := by decide +kernel
theorem c117_25 : mc_cd 117 25 = some (.aload_n 0, 1) := by decide +kernel
theorem c117_26 : mc_cd 117 26 = some (.getfield 51, 3) := by decide +kernel
theorem c117_29 : mc_cd 117 29 = some (.getfield 109, 3) := by decide +kernel
theorem c117_32 : mc_cd 117 32 = some (.iload_n 1, 1) := by decide +kernel
theorem c117_33 : mc_cd 117 33 = some (.aaload, 1) := by decide +kernel
theorem c117_34 : mc_cd 117 34 = some (.getfield 125, 3) := by decide +kernel
theorem c117_37 : mc_cd 117 37 = some (.iload_n 1, 1) := by decide +kernel
theorem c117_38 : mc_cd 117 38 = some (.iload_n 2, 1) := by decide +kernel
theorem c117_39 : mc_cd 117 39 = some (.invokevirtual 223, 3) := by decide +kernel
theorem c117_42 : mc_cd 117 42 = some (.invokevirtual 99, 3) := by decide +kernel
theorem c117_45 : mc_cd 117 45 = some (.ireturn, 1) := by decide +kernel
abbrev q_117 (r0 : Nat) (a1 : Int) (a2 : Int) (T : wq_T) (H : wq_H) : Option Value → wq_T → wq_H → Prop := fun r T' H' => T = T' ∧ WT T H' ∧ wfr [(12, 5), (12, 6), (12, 7), (12, 8), (12, 9), (1, 10), (6, 5), (8, 999), (10, 999), (15, 999), (9, 999), (18, 999), (19, 999), (7, 999), (11, 999), (17, 999), (13, 999)] T H H' ∧ ∃ z : Int, some (vI z) = r ∧ ((-2147483648) ≤ z ∧ z ≤ 2147483647)
set_option maxHeartbeats 4000000 in
theorem s_117 {kt : Nat → Option mc_E} {T : wq_T} {H : wq_H} {r0 : Nat} {a1 : Int} {a2 : Int} (hW : WT T H) (g0 : T.2.2.2 r0 = some 1) (i1 : (-2147483648) ≤ a1 ∧ a1 ≤ 2147483647) (i2 : 0 ≤ a2 ∧ a2 ≤ 1) : wpc kt 7 117 [.ref r0, vI a1, vI a2] T H (q_117 r0 a1 a2 T H) := by
  refine wp_enter e117 (Nat.le_of_ble_eq_true rfl) rfl ?_
  have f0 : wfr [(12, 5), (12, 6), (12, 7), (12, 8), (12, 9), (1, 10), (6, 5), (8, 999), (10, 999), (15, 999), (9, 999), (18, 999), (19, 999), (7, 999), (11, 999), (17, 999), (13, 999)] T H H := wfr.rf
  show wp _ _ 117 0 [(0, .ref r0), (1, vI a1), (2, vI a2)] [] _ H _
  refine wp_of e117 c117_0 (rw_aload_n (pc' := 1) (v := .ref r0) rfl rfl rfl ?_)
  refine wp_of e117 c117_1 (rw_aload_n (pc' := 2) (v := .ref r0) rfl rfl rfl ?_)
  refine wp_of e117 c117_2 (rw_iload_n (pc' := 3) (z := a1) rfl rfl ?_)
  refine wp_of e117 c117_3 (xc_V (pc' := 6) (r := r0) (as := [vI a1]) (st := [.ref r0]) (lm_0_105) rfl rfl (Nat.le_of_ble_eq_true rfl) hW g0 sh_1 (by decide) rfl (by decide) (s_55 hW g0 ⟨by omega, by omega⟩) (fun R35301 T35302 H35303 p35304 => ?_))
  obtain ⟨e35305, e35307, z35309, e35306, b35310, p35308⟩ := p35304
  subst e35305
  subst e35306
  subst e35307
  show wp _ _ 117 6 [(0, .ref r0), (1, vI a1), (2, vI a2)] [vI z35309, .ref r0] _ H _
  refine wp_of e117 c117_6 (xc_V (pc' := 9) (r := r0) (as := [vI z35309]) (st := []) (lm_0_198) rfl rfl (Nat.le_of_ble_eq_true rfl) hW g0 sh_1 (by decide) rfl (by decide) (s_102 hW g0 ⟨by omega, by omega⟩) (fun R35311 T35312 H35313 p35314 => ?_))
  obtain ⟨e35315, w35317, f35318, z35320, e35316, b35321, p35319⟩ := p35314
  subst e35315
  subst e35316
  have f35322 := f0.tr f35318 rfl
  show wp _ _ 117 9 [(0, .ref r0), (1, vI a1), (2, vI a2)] [vI z35320] _ H35313 _
  refine wp_of e117 c117_9 (rw_istore_n (pc' := 10) (z := z35320) (L' := [(3, vI z35320), (0, .ref r0), (1, vI a1), (2, vI a2)]) rfl rfl rfl ?_)
  refine wp_of e117 c117_10 (rw_iload_n (pc' := 11) (z := z35320) rfl rfl ?_)
  refine wp_of e117 c117_11 (rw_if_eq (p1 := 20) (p2 := 14) (by decide) rfl ⟨by omega, by omega⟩ (fun c35323 => ?_) (fun c35323 => ?_))
  · refine wp_of e117 c117_20 (rw_aload_n (pc' := 21) (v := .ref r0) rfl rfl rfl ?_)
    refine wp_of e117 c117_21 (rw_aload_n (pc' := 22) (v := .ref r0) rfl rfl rfl ?_)
    refine wp_of e117 c117_22 (xg_R (pc' := 25) lf_0_30 w35317 g0 sh_1 (by decide) (by decide) ty_1_3 rfl rfl (fun r35324 q35325 g35326 => ?_))
    refine wp_of e117 c117_25 (rw_aload_n (pc' := 26) (v := .ref r0) rfl rfl rfl ?_)
    refine wp_of e117 c117_26 (xg_R (pc' := 29) lf_0_51 w35317 g0 sh_1 (by decide) (by decide) ty_1_6 rfl rfl (fun r35327 q35328 g35329 => ?_))
    refine wp_of e117 c117_29 (xg_R (pc' := 32) lf_0_109 w35317 g35329 sh_27 (by decide) (by decide) ty_27_0 rfl rfl (fun r35330 q35331 g35332 => ?_))
    refine wp_of e117 c117_32 (rw_iload_n (pc' := 33) (z := a1) rfl rfl ?_)
    refine wp_of e117 c117_33 (xa_R (pc' := 34) (by decide) w35317 g35332 sh_28 (by decide) (ty_28 _) (by omega) (by omega) rfl (fun r35333 q35334 g35335 => ?_))
    refine wp_of e117 c117_34 (xg_R (pc' := 37) lf_0_125 w35317 g35335 sh_35 (by decide) (by decide) ty_35_0 rfl rfl (fun r35336 q35337 g35338 => ?_))
    refine wp_of e117 c117_37 (rw_iload_n (pc' := 38) (z := a1) rfl rfl ?_)
    refine wp_of e117 c117_38 (rw_iload_n (pc' := 39) (z := a2) rfl rfl ?_)
    refine wp_of e117 c117_39 (xc_V (pc' := 42) (r := r35324) (as := [.ref r35336, vI a1, vI a2]) (st := [.ref r0]) (lm_0_223) rfl rfl (Nat.le_of_ble_eq_true rfl) w35317 g35326 sh_12 (by decide) rfl (by decide) (s_118_b w35317 g35326 g35338 ⟨by omega, by omega⟩ ⟨by omega, by omega⟩) (fun R35339 T35340 H35341 p35342 => ?_))
    obtain ⟨e35343, e35345, z35346, e35344, b35347⟩ := p35342
    subst e35343
    subst e35344
    subst e35345
    show wp _ _ 117 42 [(3, vI z35320), (0, .ref r0), (1, vI a1), (2, vI a2)] [vI z35346, .ref r0] _ H35313 _
    refine wp_of e117 c117_42 (xc_V (pc' := 45) (r := r0) (as := [vI z35346]) (st := []) (lm_0_99) rfl rfl (Nat.le_of_ble_eq_true rfl) w35317 g0 sh_1 (by decide) rfl (by decide) (s_51 w35317 g0 ⟨by omega, by omega⟩) (fun R35348 T35349 H35350 p35351 => ?_))
    obtain ⟨e35352, w35354, f35355, z35356, e35353, b35357⟩ := p35351
    subst e35352
    subst e35353
    have f35358 := f35322.tr f35355 rfl
    show wp _ _ 117 45 [(3, vI z35320), (0, .ref r0), (1, vI a1), (2, vI a2)] [vI z35356] _ H35350 _
    exact wp_ireturn e117 c117_45 rfl ⟨rfl, w35354, f35358, z35356, rfl, ⟨by omega, by omega⟩⟩
  · refine wp_of e117 c117_14 (rw_aload_n (pc' := 15) (v := .ref r0) rfl rfl rfl ?_)
    refine wp_of e117 c117_15 (rw_iload_n (pc' := 16) (z := z35320) rfl rfl ?_)
    refine wp_of e117 c117_16 (xc_V (pc' := 19) (r := r0) (as := [vI z35320]) (st := []) (lm_0_70) rfl rfl (Nat.le_of_ble_eq_true rfl) w35317 g0 sh_1 (by decide) rfl (by decide) (s_12 w35317 g0 ⟨by omega, by omega⟩) (fun R35359 T35360 H35361 p35362 => ?_))
    obtain ⟨e35363, w35365, f35366, z35367, e35364, b35368⟩ := p35362
    subst e35363
    subst e35364
    have f35369 := f35322.tr f35366 rfl
    show wp _ _ 117 19 [(3, vI z35320), (0, .ref r0), (1, vI a1), (2, vI a2)] [vI z35367] _ H35361 _
    exact wp_ireturn e117 c117_19 rfl ⟨rfl, w35365, f35369, z35367, rfl, ⟨by omega, by omega⟩⟩
/-! StrikeAwake.sleeps(IZ)I -/
theorem e119 : wq_en 119 = some (0, 4, false, some FieldType.int) := rfl
theorem c119_0 : mc_cd 119 0 = some (.aload_n 0, 1) := by decide +kernel
theorem c119_1 : mc_cd 119 1 = some (.aload_n 0, 1) := by decide +kernel
theorem c119_2 : mc_cd 119 2 = some (.iload_n 1, 1) := by decide +kernel
theorem c119_3 : mc_cd 119 3 = some (.invokevirtual 105, 3) := by decide +kernel
theorem c119_6 : mc_cd 119 6 = some (.invokevirtual 198, 3) := by decide +kernel
theorem c119_9 : mc_cd 119 9 = some (.istore_n 3, 1) := by decide +kernel
theorem c119_10 : mc_cd 119 10 = some (.iload_n 3, 1) := by decide +kernel
theorem c119_11 : mc_cd 119 11 = some (.ifCond .eq 9, 3) := by decide +kernel
theorem c119_14 : mc_cd 119 14 = some (.aload_n 0, 1) := by decide +kernel
theorem c119_15 : mc_cd 119 15 = some (.iload_n 3, 1) := by decide +kernel
theorem c119_16 : mc_cd 119 16 = some (.invokevirtual 70, 3) := by decide +kernel
theorem c119_19 : mc_cd 119 19 = some (.ireturn, 1) := by decide +kernel
theorem c119_20 : mc_cd 119 20 = some (.aload_n 0, 1) := by decide +kernel
theorem c119_21 : mc_cd 119 21 = some (.aload_n 0, 1) := by decide +kernel
theorem c119_22 : mc_cd 119 22 = some (.getfield 30, 3) := by decide +kernel
theorem c119_25 : mc_cd 119 25 = some (.aload_n 0, 1) := by decide +kernel
theorem c119_26 : mc_cd 119 26 = some (.getfield 51, 3) := by decide +kernel
theorem c119_29 : mc_cd 119 29 = some (.getfield 109, 3) := by decide +kernel
theorem c119_32 : mc_cd 119 32 = some (.iload_n 1, 1) := by decide +kernel
theorem c119_33 : mc_cd 119 33 = some (.aaload, 1) := by decide +kernel
theorem c119_34 : mc_cd 119 34 = some (.getfield 129, 3) := by decide +kernel
theorem c119_37 : mc_cd 119 37 = some (.iload_n 1, 1) := by decide +kernel
theorem c119_38 : mc_cd 119 38 = some (.iload_n 2, 1) := by decide +kernel
theorem c119_39 : mc_cd 119 39 = some (.invokevirtual 223, 3) := by decide +kernel
theorem c119_42 : mc_cd 119 42 = some (.invokevirtual 99, 3) := by decide +kernel
theorem c119_45 : mc_cd 119 45 = some (.ireturn, 1) := by decide +kernel
abbrev q_119 (r0 : Nat) (a1 : Int) (a2 : Int) (T : wq_T) (H : wq_H) : Option Value → wq_T → wq_H → Prop := fun r T' H' => T = T' ∧ WT T H' ∧ wfr [(12, 5), (12, 6), (12, 7), (12, 8), (12, 9), (1, 10), (6, 5), (8, 999), (10, 999), (15, 999), (9, 999), (18, 999), (19, 999), (7, 999), (11, 999), (17, 999), (13, 999)] T H H' ∧ ∃ z : Int, some (vI z) = r ∧ ((-2147483648) ≤ z ∧ z ≤ 2147483647)
set_option maxHeartbeats 4000000 in
theorem s_119 {kt : Nat → Option mc_E} {T : wq_T} {H : wq_H} {r0 : Nat} {a1 : Int} {a2 : Int} (hW : WT T H) (g0 : T.2.2.2 r0 = some 1) (i1 : (-2147483648) ≤ a1 ∧ a1 ≤ 2147483647) (i2 : 0 ≤ a2 ∧ a2 ≤ 1) : wpc kt 7 119 [.ref r0, vI a1, vI a2] T H (q_119 r0 a1 a2 T H) := by
  refine wp_enter e119 (Nat.le_of_ble_eq_true rfl) rfl ?_
  have f0 : wfr [(12, 5), (12, 6), (12, 7), (12, 8), (12, 9), (1, 10), (6, 5), (8, 999), (10, 999), (15, 999), (9, 999), (18, 999), (19, 999), (7, 999), (11, 999), (17, 999), (13, 999)] T H H := wfr.rf
  show wp _ _ 119 0 [(0, .ref r0), (1, vI a1), (2, vI a2)] [] _ H _
  refine wp_of e119 c119_0 (rw_aload_n (pc' := 1) (v := .ref r0) rfl rfl rfl ?_)
  refine wp_of e119 c119_1 (rw_aload_n (pc' := 2) (v := .ref r0) rfl rfl rfl ?_)
  refine wp_of e119 c119_2 (rw_iload_n (pc' := 3) (z := a1) rfl rfl ?_)
  refine wp_of e119 c119_3 (xc_V (pc' := 6) (r := r0) (as := [vI a1]) (st := [.ref r0]) (lm_0_105) rfl rfl (Nat.le_of_ble_eq_true rfl) hW g0 sh_1 (by decide) rfl (by decide) (s_55 hW g0 ⟨by omega, by omega⟩) (fun R35439 T35440 H35441 p35442 => ?_))
  obtain ⟨e35443, e35445, z35447, e35444, b35448, p35446⟩ := p35442
  subst e35443
  subst e35444
  subst e35445
  show wp _ _ 119 6 [(0, .ref r0), (1, vI a1), (2, vI a2)] [vI z35447, .ref r0] _ H _
  refine wp_of e119 c119_6 (xc_V (pc' := 9) (r := r0) (as := [vI z35447]) (st := []) (lm_0_198) rfl rfl (Nat.le_of_ble_eq_true rfl) hW g0 sh_1 (by decide) rfl (by decide) (s_102 hW g0 ⟨by omega, by omega⟩) (fun R35449 T35450 H35451 p35452 => ?_))
  obtain ⟨e35453, w35455, f35456, z35458, e35454, b35459, p35457⟩ := p35452
  subst e35453
  subst e35454
  have f35460 := f0.tr f35456 rfl
  show wp _ _ 119 9 [(0, .ref r0), (1, vI a1), (2, vI a2)] [vI z35458] _ H35451 _
  refine wp_of e119 c119_9 (rw_istore_n (pc' := 10) (z := z35458) (L' := [(3, vI z35458), (0, .ref r0), (1, vI a1), (2, vI a2)]) rfl rfl rfl ?_)
  refine wp_of e119 c119_10 (rw_iload_n (pc' := 11) (z := z35458) rfl rfl ?_)
  refine wp_of e119 c119_11 (rw_if_eq (p1 := 20) (p2 := 14) (by decide) rfl ⟨by omega, by omega⟩ (fun c35461 => ?_) (fun c35461 => ?_))
  · refine wp_of e119 c119_20 (rw_aload_n (pc' := 21) (v := .ref r0) rfl rfl rfl ?_)
    refine wp_of e119 c119_21 (rw_aload_n (pc' := 22) (v := .ref r0) rfl rfl rfl ?_)
    refine wp_of e119 c119_22 (xg_R (pc' := 25) lf_0_30 w35455 g0 sh_1 (by decide) (by decide) ty_1_3 rfl rfl (fun r35462 q35463 g35464 => ?_))
    refine wp_of e119 c119_25 (rw_aload_n (pc' := 26) (v := .ref r0) rfl rfl rfl ?_)
    refine wp_of e119 c119_26 (xg_R (pc' := 29) lf_0_51 w35455 g0 sh_1 (by decide) (by decide) ty_1_6 rfl rfl (fun r35465 q35466 g35467 => ?_))
    refine wp_of e119 c119_29 (xg_R (pc' := 32) lf_0_109 w35455 g35467 sh_27 (by decide) (by decide) ty_27_0 rfl rfl (fun r35468 q35469 g35470 => ?_))
    refine wp_of e119 c119_32 (rw_iload_n (pc' := 33) (z := a1) rfl rfl ?_)
    refine wp_of e119 c119_33 (xa_R (pc' := 34) (by decide) w35455 g35470 sh_28 (by decide) (ty_28 _) (by omega) (by omega) rfl (fun r35471 q35472 g35473 => ?_))
    refine wp_of e119 c119_34 (xg_R (pc' := 37) lf_0_129 w35455 g35473 sh_35 (by decide) (by decide) ty_35_1 rfl rfl (fun r35474 q35475 g35476 => ?_))
    refine wp_of e119 c119_37 (rw_iload_n (pc' := 38) (z := a1) rfl rfl ?_)
    refine wp_of e119 c119_38 (rw_iload_n (pc' := 39) (z := a2) rfl rfl ?_)
    refine wp_of e119 c119_39 (xc_V (pc' := 42) (r := r35462) (as := [.ref r35474, vI a1, vI a2]) (st := [.ref r0]) (lm_0_223) rfl rfl (Nat.le_of_ble_eq_true rfl) w35455 g35464 sh_12 (by decide) rfl (by decide) (s_118_s w35455 g35464 g35476 ⟨by omega, by omega⟩ ⟨by omega, by omega⟩) (fun R35477 T35478 H35479 p35480 => ?_))
    obtain ⟨e35481, e35483, z35484, e35482, b35485⟩ := p35480
    subst e35481
    subst e35482
    subst e35483
    show wp _ _ 119 42 [(3, vI z35458), (0, .ref r0), (1, vI a1), (2, vI a2)] [vI z35484, .ref r0] _ H35451 _
    refine wp_of e119 c119_42 (xc_V (pc' := 45) (r := r0) (as := [vI z35484]) (st := []) (lm_0_99) rfl rfl (Nat.le_of_ble_eq_true rfl) w35455 g0 sh_1 (by decide) rfl (by decide) (s_51 w35455 g0 ⟨by omega, by omega⟩) (fun R35486 T35487 H35488 p35489 => ?_))
    obtain ⟨e35490, w35492, f35493, z35494, e35491, b35495⟩ := p35489
    subst e35490
    subst e35491
    have f35496 := f35460.tr f35493 rfl
    show wp _ _ 119 45 [(3, vI z35458), (0, .ref r0), (1, vI a1), (2, vI a2)] [vI z35494] _ H35488 _
    exact wp_ireturn e119 c119_45 rfl ⟨rfl, w35492, f35496, z35494, rfl, ⟨by omega, by omega⟩⟩
  · refine wp_of e119 c119_14 (rw_aload_n (pc' := 15) (v := .ref r0) rfl rfl rfl ?_)
    refine wp_of e119 c119_15 (rw_iload_n (pc' := 16) (z := z35458) rfl rfl ?_)
    refine wp_of e119 c119_16 (xc_V (pc' := 19) (r := r0) (as := [vI z35458]) (st := []) (lm_0_70) rfl rfl (Nat.le_of_ble_eq_true rfl) w35455 g0 sh_1 (by decide) rfl (by decide) (s_12 w35455 g0 ⟨by omega, by omega⟩) (fun R35497 T35498 H35499 p35500 => ?_))
    obtain ⟨e35501, w35503, f35504, z35505, e35502, b35506⟩ := p35500
    subst e35501
    subst e35502
    have f35507 := f35460.tr f35504 rfl
    show wp _ _ 119 19 [(3, vI z35458), (0, .ref r0), (1, vI a1), (2, vI a2)] [vI z35505] _ H35499 _
    exact wp_ireturn e119 c119_19 rfl ⟨rfl, w35503, f35507, z35505, rfl, ⟨by omega, by omega⟩⟩
/-! StrikeAwake.barOfAsking(Z)I -/
theorem e121 : wq_en 121 = some (0, 3, false, some FieldType.int) := rfl
theorem c121_0 : mc_cd 121 0 = some (.aload_n 0, 1) := by decide +kernel
theorem c121_1 : mc_cd 121 1 = some (.iload_n 1, 1) := by decide +kernel
theorem c121_2 : mc_cd 121 2 = some (.invokevirtual 174, 3) := by decide +kernel
theorem c121_5 : mc_cd 121 5 = some (.istore_n 2, 1) := by decide +kernel
theorem c121_6 : mc_cd 121 6 = some (.iload_n 2, 1) := by decide +kernel
theorem c121_7 : mc_cd 121 7 = some (.ifCond .eq 5, 3) := by decide +kernel
theorem c121_10 : mc_cd 121 10 = some (.iload_n 2, 1) := by decide +kernel
theorem c121_11 : mc_cd 121 11 = some (.ireturn, 1) := by decide +kernel
theorem c121_12 : mc_cd 121 12 = some (.aload_n 0, 1) := by decide +kernel
theorem c121_13 : mc_cd 121 13 = some (.getfield 30, 3) := by decide +kernel
theorem c121_16 : mc_cd 121 16 = some (.getfield 177, 3) := by decide +kernel
theorem c121_19 : mc_cd 121 19 = some (.sipush 400, 3) := by decide +kernel
theorem c121_22 : mc_cd 121 22 = some (.if_icmp .le 5, 3) := by decide +kernel
theorem c121_25 : mc_cd 121 25 = some (.iconst 3, 1) := by decide +kernel
theorem c121_26 : mc_cd 121 26 = some (.ireturn, 1) := by decide +kernel
theorem c121_27 : mc_cd 121 27 = some (.aload_n 0, 1) := by decide +kernel
theorem c121_28 : mc_cd 121 28 = some (.getfield 30, 3) := by decide +kernel
theorem c121_31 : mc_cd 121 31 = some (.getfield 177, 3) := by decide +kernel
theorem c121_34 : mc_cd 121 34 = some (.ifCond .ne 8, 3) := by decide +kernel
theorem c121_37 : mc_cd 121 37 = some (.bipush 6, 2) := by decide +kernel
theorem c121_39 : mc_cd 121 39 = some (.goto 4, 3) := by decide +kernel
theorem c121_42 : mc_cd 121 42 = some (.iconst 0, 1) := by decide +kernel
theorem c121_43 : mc_cd 121 43 = some (.ireturn, 1) := by decide +kernel
abbrev q_121 (r0 : Nat) (a1 : Int) (T : wq_T) (H : wq_H) : Option Value → wq_T → wq_H → Prop := fun r T' H' => T = T' ∧ WT T H' ∧ wfr [(12, 5), (12, 6), (12, 7), (12, 8), (12, 9), (6, 5), (8, 999), (10, 999), (15, 999), (9, 999), (18, 999), (19, 999), (7, 999), (11, 999), (17, 999), (13, 999)] T H H' ∧ ∃ z : Int, some (vI z) = r ∧ (0 ≤ z ∧ z ≤ 6) ∧ (z ≠ 0 ∨ a1 = 1)
set_option maxHeartbeats 4000000 in
theorem s_121 {kt : Nat → Option mc_E} {T : wq_T} {H : wq_H} {r0 : Nat} {a1 : Int} (hW : WT T H) (g0 : T.2.2.2 r0 = some 1) (i1 : 0 ≤ a1 ∧ a1 ≤ 1) : wpc kt 6 121 [.ref r0, vI a1] T H (q_121 r0 a1 T H) := by
  refine wp_enter e121 (Nat.le_of_ble_eq_true rfl) rfl ?_
  have f0 : wfr [(12, 5), (12, 6), (12, 7), (12, 8), (12, 9), (6, 5), (8, 999), (10, 999), (15, 999), (9, 999), (18, 999), (19, 999), (7, 999), (11, 999), (17, 999), (13, 999)] T H H := wfr.rf
  show wp _ _ 121 0 [(0, .ref r0), (1, vI a1)] [] _ H _
  refine wp_of e121 c121_0 (rw_aload_n (pc' := 1) (v := .ref r0) rfl rfl rfl ?_)
  refine wp_of e121 c121_1 (rw_iload_n (pc' := 2) (z := a1) rfl rfl ?_)
  refine wp_of e121 c121_2 (xc_V (pc' := 5) (r := r0) (as := [vI a1]) (st := []) (lm_0_174) rfl rfl (Nat.le_of_ble_eq_true rfl) hW g0 sh_1 (by decide) rfl (by decide) (s_83 hW g0 ⟨by omega, by omega⟩) (fun R35530 T35531 H35532 p35533 => ?_))
  obtain ⟨e35534, w35536, f35537, z35539, e35535, b35540, p35538⟩ := p35533
  subst e35534
  subst e35535
  have f35541 := f0.tr f35537 rfl
  show wp _ _ 121 5 [(0, .ref r0), (1, vI a1)] [vI z35539] _ H35532 _
  refine wp_of e121 c121_5 (rw_istore_n (pc' := 6) (z := z35539) (L' := [(2, vI z35539), (0, .ref r0), (1, vI a1)]) rfl rfl rfl ?_)
  refine wp_of e121 c121_6 (rw_iload_n (pc' := 7) (z := z35539) rfl rfl ?_)
  refine wp_of e121 c121_7 (rw_if_eq (p1 := 12) (p2 := 10) (by decide) rfl ⟨by omega, by omega⟩ (fun c35542 => ?_) (fun c35542 => ?_))
  · refine wp_of e121 c121_12 (rw_aload_n (pc' := 13) (v := .ref r0) rfl rfl rfl ?_)
    refine wp_of e121 c121_13 (xg_R (pc' := 16) lf_0_30 w35536 g0 sh_1 (by decide) (by decide) ty_1_3 rfl rfl (fun r35543 q35544 g35545 => ?_))
    refine wp_of e121 c121_16 (xg_I (pc' := 19) lf_0_177 w35536 g35545 sh_12 (by decide) (by decide) ty_12_5 rfl rfl (fun b35546 b35547 => ?_))
    refine wp_of e121 c121_19 (rw_sipush (pc' := 22) (z := 400) rfl (by decide) ?_)
    refine wp_of e121 c121_22 (rw_icmp_le (p1 := 27) (p2 := 25) (by decide) rfl ⟨by omega, by omega⟩ ⟨by omega, by omega⟩ (fun c35548 => ?_) (fun c35548 => ?_))
    · refine wp_of e121 c121_27 (rw_aload_n (pc' := 28) (v := .ref r0) rfl rfl rfl ?_)
      refine wp_of e121 c121_28 (xg_K (pc' := 31) lf_0_30 w35536 g0 sh_1 (by decide) (by decide) rfl q35544 rfl ?_)
      refine wp_of e121 c121_31 (xg_I (pc' := 34) lf_0_177 w35536 g35545 sh_12 (by decide) (by decide) ty_12_5 rfl rfl (fun b35549 b35550 => ?_))
      refine wp_of e121 c121_34 (rw_if_ne (p1 := 42) (p2 := 37) (by decide) rfl ⟨by omega, by omega⟩ (fun c35551 => ?_) (fun c35551 => ?_))
      · refine wp_of e121 c121_42 (rw_iconst (pc' := 43) rfl ?_)
        exact wp_ireturn e121 c121_43 rfl ⟨rfl, w35536, f35541, 0, rfl, ⟨by omega, by omega⟩, by omega⟩
      · refine wp_of e121 c121_37 (rw_bipush (pc' := 39) (z := 6) rfl (by decide) ?_)
        refine wp_of e121 c121_39 (rw_goto (p1 := 43) (by decide) ?_)
        exact wp_ireturn e121 c121_43 rfl ⟨rfl, w35536, f35541, 6, rfl, ⟨by omega, by omega⟩, by omega⟩
    · refine wp_of e121 c121_25 (rw_iconst (pc' := 26) rfl ?_)
      exact wp_ireturn e121 c121_26 rfl ⟨rfl, w35536, f35541, 3, rfl, ⟨by omega, by omega⟩, by omega⟩
  · refine wp_of e121 c121_10 (rw_iload_n (pc' := 11) (z := z35539) rfl rfl ?_)
    exact wp_ireturn e121 c121_11 rfl ⟨rfl, w35536, f35541, z35539, rfl, ⟨by omega, by omega⟩, by omega⟩
/-! StrikeAwake$Census.nextFrom(ILStrikeAwake$Parish;)I -/
theorem e124 : wq_en 124 = some (4, 4, false, some FieldType.int) := rfl
theorem c124_0 : mc_cd 124 0 = some (.iload_n 1, 1) := by decide +kernel
theorem c124_1 : mc_cd 124 1 = some (.istore_n 3, 1) := by decide +kernel
theorem c124_2 : mc_cd 124 2 = some (.iload_n 3, 1) := by decide +kernel
theorem c124_3 : mc_cd 124 3 = some (.i2l, 1) := by decide +kernel
theorem c124_4 : mc_cd 124 4 = some (.aload_n 2, 1) := by decide +kernel
theorem c124_5 : mc_cd 124 5 = some (.getfield 45, 3) := by decide +kernel
theorem c124_8 : mc_cd 124 8 = some (.lcmp, 1) := by decide +kernel
theorem c124_9 : mc_cd 124 9 = some (.ifCond .ge 26, 3) := by decide +kernel
theorem c124_12 : mc_cd 124 12 = some (.iload_n 3, 1) := by decide +kernel
theorem c124_13 : mc_cd 124 13 = some (.sipush 20000, 3) := by decide +kernel
theorem c124_16 : mc_cd 124 16 = some (.if_icmp .ge 19, 3) := by decide +kernel
theorem c124_19 : mc_cd 124 19 = some (.aload_n 0, 1) := by decide +kernel
theorem c124_20 : mc_cd 124 20 = some (.iload_n 3, 1) := by decide +kernel
theorem c124_21 : mc_cd 124 21 = some (.invokevirtual 113, 3) := by decide +kernel
theorem c124_24 : mc_cd 124 24 = some (.ifCond .eq 5, 3) := by decide +kernel
theorem c124_27 : mc_cd 124 27 = some (.iload_n 3, 1) := by decide +kernel
theorem c124_28 : mc_cd 124 28 = some (.ireturn, 1) := by decide +kernel
theorem c124_29 : mc_cd 124 29 = some (.iinc 3 1, 3) := by decide +kernel
theorem c124_32 : mc_cd 124 32 = some (.goto (-30), 3) := by decide +kernel
theorem c124_35 : mc_cd 124 35 = some (.iconst (-1), 1) := by decide +kernel
theorem c124_36 : mc_cd 124 36 = some (.ireturn, 1) := by decide +kernel
abbrev q_124 (r0 : Nat) (a1 : Int) (r2 : Nat) (T : wq_T) (H : wq_H) : Option Value → wq_T → wq_H → Prop := fun r T' H' => T = T' ∧ H = H' ∧ ∃ z : Int, some (vI z) = r ∧ ((-1) ≤ z ∧ z ≤ 19999)
set_option maxHeartbeats 4000000 in
theorem s_124 {kt : Nat → Option mc_E} {T : wq_T} {H : wq_H} {r0 : Nat} {a1 : Int} {r2 : Nat} (hW : WT T H) (g0 : T.2.2.2 r0 = some 12) (i1 : 0 ≤ a1 ∧ a1 ≤ 2147483647) (g2 : T.2.2.2 r2 = some 27) : wpc kt 2 124 [.ref r0, vI a1, .ref r2] T H (q_124 r0 a1 r2 T H) := by
  refine wp_enter e124 (Nat.le_of_ble_eq_true rfl) rfl ?_
  show wp _ _ 124 0 [(0, .ref r0), (1, vI a1), (2, .ref r2)] [] _ H _
  refine wp_of e124 c124_0 (rw_iload_n (pc' := 1) (z := a1) rfl rfl ?_)
  refine wp_of e124 c124_1 (rw_istore_n (pc' := 2) (z := a1) (L' := [(3, vI a1), (0, .ref r0), (1, vI a1), (2, .ref r2)]) rfl rfl rfl ?_)
  have lp35598 : ∀ (n35599 : Nat) (v35601 : Int), (0 ≤ v35601 ∧ v35601 ≤ 2147483647) → (2147483647 - v35601).toNat = n35599 → wp kt 1 124 2 [(3, vI v35601), (0, .ref r0), (2, .ref r2)] [] T H (q_124 r0 a1 r2 T H) := by
    intro n35599
    induction n35599 using Nat.strongRecOn with
    | _ n35599 ih35600 =>
      intro v35601 b35604 m35605
      refine wp_of e124 c124_2 (rw_iload_n (pc' := 3) (z := v35601) rfl rfl ?_)
      refine wp_of e124 c124_3 (rw_i2l (pc' := 4) rfl ⟨by omega, by omega⟩ ?_)
      refine wp_of e124 c124_4 (rw_aload_n (pc' := 5) (v := .ref r2) rfl rfl rfl ?_)
      refine wp_of e124 c124_5 (xg_L (pc' := 8) lf_4_45 hW g2 sh_27 (by decide) (by decide) ty_27_18 rfl rfl (fun b35606 b35607 => ?_))
      refine wp_of e124 c124_8 (rw_lcmp (pc' := 9) rfl ⟨by omega, by omega⟩ ⟨by omega, by omega⟩ ?_)
      have b35608 := wq_cmp_b v35601 (H r2 18)
      refine wp_of e124 c124_9 (rw_if_ge (p1 := 35) (p2 := 12) (by decide) rfl ⟨by omega, by omega⟩ (fun c35609 => ?_) (fun c35609 => ?_))
      · refine wp_of e124 c124_35 (rw_iconst (pc' := 36) rfl ?_)
        exact wp_ireturn e124 c124_36 rfl ⟨rfl, rfl, -1, rfl, ⟨by omega, by omega⟩⟩
      · refine wp_of e124 c124_12 (rw_iload_n (pc' := 13) (z := v35601) rfl rfl ?_)
        refine wp_of e124 c124_13 (rw_sipush (pc' := 16) (z := 20000) rfl (by decide) ?_)
        refine wp_of e124 c124_16 (rw_icmp_ge (p1 := 35) (p2 := 19) (by decide) rfl ⟨by omega, by omega⟩ ⟨by omega, by omega⟩ (fun c35610 => ?_) (fun c35610 => ?_))
        · refine wp_of e124 c124_35 (rw_iconst (pc' := 36) rfl ?_)
          exact wp_ireturn e124 c124_36 rfl ⟨rfl, rfl, -1, rfl, ⟨by omega, by omega⟩⟩
        · refine wp_of e124 c124_19 (rw_aload_n (pc' := 20) (v := .ref r0) rfl rfl rfl ?_)
          refine wp_of e124 c124_20 (rw_iload_n (pc' := 21) (z := v35601) rfl rfl ?_)
          refine wp_of e124 c124_21 (xc_V (pc' := 24) (r := r0) (as := [vI v35601]) (st := []) (lm_4_113) rfl rfl (Nat.le_of_ble_eq_true rfl) hW g0 sh_12 (by decide) rfl (by decide) (s_95 hW g0 ⟨by omega, by omega⟩) (fun R35611 T35612 H35613 p35614 => ?_))
          obtain ⟨e35615, e35617, z35618, e35616, b35619⟩ := p35614
          subst e35615
          subst e35616
          subst e35617
          show wp _ _ 124 24 [(3, vI v35601), (0, .ref r0), (2, .ref r2)] [vI z35618] _ H _
          refine wp_of e124 c124_24 (rw_if_eq (p1 := 29) (p2 := 27) (by decide) rfl ⟨by omega, by omega⟩ (fun c35620 => ?_) (fun c35620 => ?_))
          · refine wp_of e124 c124_29 (rw_iinc (pc' := 32) (z := v35601) (L' := [(3, vI (v35601 + 1)), (0, .ref r0), (2, .ref r2)]) rfl rfl rfl rfl ?_)
            refine wp_of e124 c124_32 (rw_goto (p1 := 2) (by decide) ?_)
            exact wp_lc (ks := [3, 0, 2]) (wl_c rfl (wl_c rfl (wl_c rfl wl_n))) rfl (by decide) (ih35600 _ (by omega) (v35601 + 1) ⟨by omega, by omega⟩ rfl)
          · refine wp_of e124 c124_27 (rw_iload_n (pc' := 28) (z := v35601) rfl rfl ?_)
            exact wp_ireturn e124 c124_28 rfl ⟨rfl, rfl, v35601, rfl, ⟨by omega, by omega⟩⟩
  exact wp_lc (ks := [3, 0, 1, 2]) (wl_c rfl (wl_c rfl (wl_c rfl wl_n))) rfl (by decide) (lp35598 _ a1 ⟨by omega, by omega⟩ rfl)
/-! StrikeAwake$Asking.gather(LStrikeAwake$Parish;LStrikeAwake$Census;)V -/
theorem e123 : wq_en 123 = some (5, 5, false, none) := rfl
theorem c123_0 : mc_cd 123 0 = some (.aload_n 0, 1) := by decide +kernel
theorem c123_1 : mc_cd 123 1 = some (.iconst 0, 1) := by decide +kernel
theorem c123_2 : mc_cd 123 2 = some (.putfield 28, 3) := by decide +kernel
theorem c123_5 : mc_cd 123 5 = some (.aload_n 2, 1) := by decide +kernel
theorem c123_6 : mc_cd 123 6 = some (.iconst 0, 1) := by decide +kernel
theorem c123_7 : mc_cd 123 7 = some (.aload_n 1, 1) := by decide +kernel
theorem c123_8 : mc_cd 123 8 = some (.invokevirtual 42, 3) := by decide +kernel
theorem c123_11 : mc_cd 123 11 = some (.istore_n 3, 1) := by decide +kernel
theorem c123_12 : mc_cd 123 12 = some (.iconst 0, 1) := by decide +kernel
theorem c123_13 : mc_cd 123 13 = some (.istore 4, 2) := by decide +kernel
theorem c123_15 : mc_cd 123 15 = some (.iload 4, 2) := by decide +kernel
theorem c123_17 : mc_cd 123 17 = some (.sipush 400, 3) := by decide +kernel
theorem c123_20 : mc_cd 123 20 = some (.if_icmp .ge 40, 3) := by decide +kernel
theorem c123_23 : mc_cd 123 23 = some (.iload_n 3, 1) := by decide +kernel
theorem c123_24 : mc_cd 123 24 = some (.ifCond .lt 36, 3) := by decide +kernel
theorem c123_27 : mc_cd 123 27 = some (.aload_n 0, 1) := by decide +kernel
theorem c123_28 : mc_cd 123 28 = some (.getfield 9, 3) := by decide +kernel
theorem c123_31 : mc_cd 123 31 = some (.iload 4, 2) := by decide +kernel
theorem c123_33 : mc_cd 123 33 = some (.iload_n 3, 1) := by decide +kernel
theorem c123_34 : mc_cd 123 34 = some (.iastore, 1) := by decide +kernel
theorem c123_35 : mc_cd 123 35 = some (.aload_n 0, 1) := by decide +kernel
theorem c123_36 : mc_cd 123 36 = some (.dup, 1) := by decide +kernel
theorem c123_37 : mc_cd 123 37 = some (.getfield 28, 3) := by decide +kernel
theorem c123_40 : mc_cd 123 40 = some (.iconst 1, 1) := by decide +kernel
theorem c123_41 : mc_cd 123 41 = some (.iadd, 1) := by decide +kernel
theorem c123_42 : mc_cd 123 42 = some (.putfield 28, 3) := by decide +kernel
theorem c123_45 : mc_cd 123 45 = some (.aload_n 2, 1) := by decide +kernel
theorem c123_46 : mc_cd 123 46 = some (.iload_n 3, 1) := by decide +kernel
theorem c123_47 : mc_cd 123 47 = some (.iconst 1, 1) := by decide +kernel
theorem c123_48 : mc_cd 123 48 = some (.iadd, 1) := by decide +kernel
theorem c123_49 : mc_cd 123 49 = some (.aload_n 1, 1) := by decide +kernel
theorem c123_50 : mc_cd 123 50 = some (.invokevirtual 42, 3) := by decide +kernel
theorem c123_53 : mc_cd 123 53 = some (.istore_n 3, 1) := by decide +kernel
theorem c123_54 : mc_cd 123 54 = some (.iinc 4 1, 3) := by decide +kernel
theorem c123_57 : mc_cd 123 57 = some (.goto (-42), 3) := by decide +kernel
theorem c123_60 : mc_cd 123 60 = some (.return_, 1) := by decide +kernel
abbrev q_123 (r0 : Nat) (r1 : Nat) (r2 : Nat) (T : wq_T) (H : wq_H) : Option Value → wq_T → wq_H → Prop := fun r T' H' => T = T' ∧ WT T H' ∧ wfr [(20, 4), (21, 999)] T H H' ∧ none = r
set_option maxHeartbeats 4000000 in
theorem s_123 {kt : Nat → Option mc_E} {T : wq_T} {H : wq_H} {r0 : Nat} {r1 : Nat} {r2 : Nat} (hW : WT T H) (g0 : T.2.2.2 r0 = some 20) (g1 : T.2.2.2 r1 = some 27) (g2 : T.2.2.2 r2 = some 12) : wpc kt 3 123 [.ref r0, .ref r1, .ref r2] T H (q_123 r0 r1 r2 T H) := by
  refine wp_enter e123 (Nat.le_of_ble_eq_true rfl) rfl ?_
  have f0 : wfr [(20, 4), (21, 999)] T H H := wfr.rf
  show wp _ _ 123 0 [(0, .ref r0), (1, .ref r1), (2, .ref r2)] [] _ H _
  refine wp_of e123 c123_0 (rw_aload_n (pc' := 1) (v := .ref r0) rfl rfl rfl ?_)
  refine wp_of e123 c123_1 (rw_iconst (pc' := 2) rfl ?_)
  refine wp_of e123 c123_2 (xp_I (pc' := 5) lf_5_28 hW g0 sh_20 (by decide) (by decide) ty_20_4 rfl rfl (by omega) (by omega) ⟨by omega, by omega⟩ rfl (fun H35862 e35863 w35864 => ?_))
  have f35865 := f0.put' e35863 g0 rfl
  have k35866 : H35862 r0 4 = 0 := wq_u_s e35863
  refine wp_of e123 c123_5 (rw_aload_n (pc' := 6) (v := .ref r2) rfl rfl rfl ?_)
  refine wp_of e123 c123_6 (rw_iconst (pc' := 7) rfl ?_)
  refine wp_of e123 c123_7 (rw_aload_n (pc' := 8) (v := .ref r1) rfl rfl rfl ?_)
  refine wp_of e123 c123_8 (xc_V (pc' := 11) (r := r2) (as := [vI 0, .ref r1]) (st := []) (lm_5_42) rfl rfl (Nat.le_of_ble_eq_true rfl) w35864 g2 sh_12 (by decide) rfl (by decide) (s_124 w35864 g2 ⟨by omega, by omega⟩ g1) (fun R35867 T35868 H35869 p35870 => ?_))
  obtain ⟨e35871, e35873, z35874, e35872, b35875⟩ := p35870
  subst e35871
  subst e35872
  subst e35873
  show wp _ _ 123 11 [(0, .ref r0), (1, .ref r1), (2, .ref r2)] [vI z35874] _ H35862 _
  refine wp_of e123 c123_11 (rw_istore_n (pc' := 12) (z := z35874) (L' := [(3, vI z35874), (0, .ref r0), (1, .ref r1), (2, .ref r2)]) rfl rfl rfl ?_)
  refine wp_of e123 c123_12 (rw_iconst (pc' := 13) rfl ?_)
  refine wp_of e123 c123_13 (rw_istore (pc' := 15) (z := 0) (L' := [(4, vI 0), (3, vI z35874), (0, .ref r0), (1, .ref r1), (2, .ref r2)]) rfl rfl rfl ?_)
  have lp36077 : ∀ (n36078 : Nat) (v36080 : Int) (v36081 : Int) (H36082 : wq_H), WT T H36082 → wfr [(20, 4), (21, 999)] T H35862 H36082 → (0 ≤ v36080 ∧ v36080 ≤ 400) → ((-1) ≤ v36081 ∧ v36081 ≤ 19999) → (H36082 r0 4 ≤ v36080) → (400 - v36080).toNat = n36078 → wp kt 2 123 15 [(4, vI v36080), (3, vI v36081), (0, .ref r0), (1, .ref r1), (2, .ref r2)] [] T H36082 (q_123 r0 r1 r2 T H) := by
    intro n36078
    induction n36078 using Nat.strongRecOn with
    | _ n36078 ih36079 =>
      intro v36080 v36081 H36082 w36083 f36084 b36085 b36086 x36087 m36088
      have f36089 := f35865.tr f36084 rfl
      refine wp_of e123 c123_15 (rw_iload (pc' := 17) (z := v36080) rfl rfl ?_)
      refine wp_of e123 c123_17 (rw_sipush (pc' := 20) (z := 400) rfl (by decide) ?_)
      refine wp_of e123 c123_20 (rw_icmp_ge (p1 := 60) (p2 := 23) (by decide) rfl ⟨by omega, by omega⟩ ⟨by omega, by omega⟩ (fun c36090 => ?_) (fun c36090 => ?_))
      · exact wp_return e123 c123_60 rfl ⟨rfl, w36083, f36089, rfl⟩
      · refine wp_of e123 c123_23 (rw_iload_n (pc' := 24) (z := v36081) rfl rfl ?_)
        refine wp_of e123 c123_24 (rw_if_lt (p1 := 60) (p2 := 27) (by decide) rfl ⟨by omega, by omega⟩ (fun c36091 => ?_) (fun c36091 => ?_))
        · exact wp_return e123 c123_60 rfl ⟨rfl, w36083, f36089, rfl⟩
        · refine wp_of e123 c123_27 (rw_aload_n (pc' := 28) (v := .ref r0) rfl rfl rfl ?_)
          refine wp_of e123 c123_28 (xg_R (pc' := 31) lf_5_9 w36083 g0 sh_20 (by decide) (by decide) ty_20_0 rfl rfl (fun r36092 q36093 g36094 => ?_))
          refine wp_of e123 c123_31 (rw_iload (pc' := 33) (z := v36080) rfl rfl ?_)
          refine wp_of e123 c123_33 (rw_iload_n (pc' := 34) (z := v36081) rfl rfl ?_)
          refine wp_of e123 c123_34 (xs_I (pc' := 35) w36083 g36094 (by decide) sh_21 (by decide) (ty_21 _) (by omega) (by omega) ⟨by omega, by omega⟩ (by omega) (by omega) rfl (fun H36095 e36096 w36097 => ?_))
          have f36098 := f36089.put' e36096 g36094 rfl
          have f36099 := f36084.put' e36096 g36094 rfl
          refine wp_of e123 c123_35 (rw_aload_n (pc' := 36) (v := .ref r0) rfl rfl rfl ?_)
          refine wp_of e123 c123_36 (rw_dup (pc' := 37) rfl rfl ?_)
          have k36100 : H36095 r0 4 = H36082 r0 4 := (wq_u_t e36096 g36094 g0 rfl 4)
          refine wp_of e123 c123_37 (xg_I (pc' := 40) lf_5_28 w36097 g0 sh_20 (by decide) (by decide) ty_20_4 rfl rfl (fun b36101 b36102 => ?_))
          refine wp_of e123 c123_40 (rw_iconst (pc' := 41) rfl ?_)
          refine wp_of e123 c123_41 (rw_iadd (pc' := 42) rfl ?_)
          refine wp_of e123 c123_42 (xp_I (pc' := 45) lf_5_28 w36097 g0 sh_20 (by decide) (by decide) ty_20_4 rfl rfl (by omega) (by omega) ⟨by omega, by omega⟩ rfl (fun H36103 e36104 w36105 => ?_))
          have f36106 := f36098.put' e36104 g0 rfl
          have f36107 := f36099.put' e36104 g0 rfl
          have k36108 : H36103 r0 4 = (H36095 r0 4) + 1 := wq_u_s e36104
          refine wp_of e123 c123_45 (rw_aload_n (pc' := 46) (v := .ref r2) rfl rfl rfl ?_)
          refine wp_of e123 c123_46 (rw_iload_n (pc' := 47) (z := v36081) rfl rfl ?_)
          refine wp_of e123 c123_47 (rw_iconst (pc' := 48) rfl ?_)
          refine wp_of e123 c123_48 (rw_iadd (pc' := 49) rfl ?_)
          refine wp_of e123 c123_49 (rw_aload_n (pc' := 50) (v := .ref r1) rfl rfl rfl ?_)
          refine wp_of e123 c123_50 (xc_V (pc' := 53) (r := r2) (as := [vI (v36081 + 1), .ref r1]) (st := []) (lm_5_42) rfl rfl (Nat.le_of_ble_eq_true rfl) w36105 g2 sh_12 (by decide) rfl (by decide) (s_124 w36105 g2 ⟨by omega, by omega⟩ g1) (fun R36109 T36110 H36111 p36112 => ?_))
          obtain ⟨e36113, e36115, z36116, e36114, b36117⟩ := p36112
          subst e36113
          subst e36114
          subst e36115
          show wp _ _ 123 53 [(4, vI v36080), (3, vI v36081), (0, .ref r0), (1, .ref r1), (2, .ref r2)] [vI z36116] _ H36103 _
          refine wp_of e123 c123_53 (rw_istore_n (pc' := 54) (z := z36116) (L' := [(3, vI z36116), (4, vI v36080), (0, .ref r0), (1, .ref r1), (2, .ref r2)]) rfl rfl rfl ?_)
          refine wp_of e123 c123_54 (rw_iinc (pc' := 57) (z := v36080) (L' := [(4, vI (v36080 + 1)), (3, vI z36116), (0, .ref r0), (1, .ref r1), (2, .ref r2)]) rfl rfl rfl rfl ?_)
          refine wp_of e123 c123_57 (rw_goto (p1 := 15) (by decide) ?_)
          exact wp_lc (ks := [4, 3, 0, 1, 2]) (wl_c rfl (wl_c rfl (wl_c rfl (wl_c rfl (wl_c rfl wl_n))))) rfl (by decide) (ih36079 _ (by omega) (v36080 + 1) z36116 H36103 w36105 f36107 ⟨by omega, by omega⟩ ⟨by omega, by omega⟩ (by omega) rfl)
  exact wp_lc (ks := [4, 3, 0, 1, 2]) (wl_c rfl (wl_c rfl (wl_c rfl (wl_c rfl (wl_c rfl wl_n))))) rfl (by decide) (lp36077 _ 0 z35874 H35862 w35864 wfr.rf ⟨by omega, by omega⟩ ⟨by omega, by omega⟩ (by omega) rfl)
/-! java/lang/Integer.bitCount(I)I -/
theorem e126 : wq_en 126 = some (15, 1, false, some FieldType.int) := rfl
theorem c126_0 : mc_cd 126 0 = some (.iload_n 0, 1) := by decide +kernel
theorem c126_1 : mc_cd 126 1 = some (.iload_n 0, 1) := by decide +kernel
theorem c126_2 : mc_cd 126 2 = some (.iconst 1, 1) := by decide +kernel
theorem c126_3 : mc_cd 126 3 = some (.iushr, 1) := by decide +kernel
theorem c126_4 : mc_cd 126 4 = some (.ldc_w 265, 3) := by decide +kernel
theorem c126_7 : mc_cd 126 7 = some (.iand, 1) := by decide +kernel
theorem c126_8 : mc_cd 126 8 = some (.isub, 1) := by decide +kernel
theorem c126_9 : mc_cd 126 9 = some (.istore_n 0, 1) := by decide +kernel
theorem c126_10 : mc_cd 126 10 = some (.iload_n 0, 1) := by decide +kernel
theorem c126_11 : mc_cd 126 11 = some (.ldc_w 266, 3) := by decide +kernel
theorem c126_14 : mc_cd 126 14 = some (.iand, 1) := by decide +kernel
theorem c126_15 : mc_cd 126 15 = some (.iload_n 0, 1) := by decide +kernel
theorem c126_16 : mc_cd 126 16 = some (.iconst 2, 1) := by decide +kernel
theorem c126_17 : mc_cd 126 17 = some (.iushr, 1) := by decide +kernel
theorem c126_18 : mc_cd 126 18 = some (.ldc_w 266, 3) := by decide +kernel
theorem c126_21 : mc_cd 126 21 = some (.iand, 1) := by decide +kernel
theorem c126_22 : mc_cd 126 22 = some (.iadd, 1) := by decide +kernel
theorem c126_23 : mc_cd 126 23 = some (.istore_n 0, 1) := by decide +kernel
theorem c126_24 : mc_cd 126 24 = some (.iload_n 0, 1) := by decide +kernel
theorem c126_25 : mc_cd 126 25 = some (.iload_n 0, 1) := by decide +kernel
theorem c126_26 : mc_cd 126 26 = some (.iconst 4, 1) := by decide +kernel
theorem c126_27 : mc_cd 126 27 = some (.iushr, 1) := by decide +kernel
theorem c126_28 : mc_cd 126 28 = some (.iadd, 1) := by decide +kernel
theorem c126_29 : mc_cd 126 29 = some (.ldc_w 267, 3) := by decide +kernel
theorem c126_32 : mc_cd 126 32 = some (.iand, 1) := by decide +kernel
theorem c126_33 : mc_cd 126 33 = some (.istore_n 0, 1) := by decide +kernel
theorem c126_34 : mc_cd 126 34 = some (.iload_n 0, 1) := by decide +kernel
theorem c126_35 : mc_cd 126 35 = some (.iload_n 0, 1) := by decide +kernel
theorem c126_36 : mc_cd 126 36 = some (.bipush 8, 2) := by decide +kernel
theorem c126_38 : mc_cd 126 38 = some (.iushr, 1) := by decide +kernel
theorem c126_39 : mc_cd 126 39 = some (.iadd, 1) := by decide +kernel
theorem c126_40 : mc_cd 126 40 = some (.istore_n 0, 1) := by decide +kernel
theorem c126_41 : mc_cd 126 41 = some (.iload_n 0, 1) := by decide +kernel
theorem c126_42 : mc_cd 126 42 = some (.iload_n 0, 1) := by decide +kernel
theorem c126_43 : mc_cd 126 43 = some (.bipush 16, 2) := by decide +kernel
theorem c126_45 : mc_cd 126 45 = some (.iushr, 1) := by decide +kernel
theorem c126_46 : mc_cd 126 46 = some (.iadd, 1) := by decide +kernel
theorem c126_47 : mc_cd 126 47 = some (.istore_n 0, 1) := by decide +kernel
theorem c126_48 : mc_cd 126 48 = some (.iload_n 0, 1) := by decide +kernel
theorem c126_49 : mc_cd 126 49 = some (.bipush 63, 2) := by decide +kernel
theorem c126_51 : mc_cd 126 51 = some (.iand, 1) := by decide +kernel
theorem c126_52 : mc_cd 126 52 = some (.ireturn, 1) := by decide +kernel
abbrev q_126 (a0 : Int) (T : wq_T) (H : wq_H) : Option Value → wq_T → wq_H → Prop := fun r T' H' => T = T' ∧ H = H' ∧ ∃ z : Int, some (vI z) = r ∧ ((-2147483648) ≤ z ∧ z ≤ 2147483647)
set_option maxHeartbeats 4000000 in
theorem s_126 {kt : Nat → Option mc_E} {T : wq_T} {H : wq_H} {a0 : Int} (hW : WT T H) (i0 : (-2147483648) ≤ a0 ∧ a0 ≤ 2147483647) : wpc kt 1 126 [vI a0] T H (q_126 a0 T H) := by
  refine wp_enter e126 (Nat.le_of_ble_eq_true rfl) rfl ?_
  show wp _ _ 126 0 [(0, vI a0)] [] _ H _
  refine wp_of e126 c126_0 (rw_iload_n (pc' := 1) (z := a0) rfl rfl ?_)
  refine wp_of e126 c126_1 (rw_iload_n (pc' := 2) (z := a0) rfl rfl ?_)
  refine wp_of e126 c126_2 (rw_iconst (pc' := 3) rfl ?_)
  refine wp_of e126 c126_3 (rw_iushr (pc' := 4) rfl ?_)
  obtain ⟨v36146, e36147⟩ : ∃ x : Int, x = wq_ushr a0 1 := ⟨_, rfl⟩
  rw [← e36147]
  have b36148 : -2147483648 ≤ v36146 ∧ v36146 ≤ 2147483647 := by
    rw [e36147]
    exact wI_ushr _ _
  refine wp_of e126 c126_4 (rw_ldc_wI (pc' := 7) (z := 1431655765) rfl rfl rfl ?_)
  refine wp_of e126 c126_7 (rw_iand (pc' := 8) rfl ?_)
  obtain ⟨v36149, e36150⟩ : ∃ x : Int, x = wq_and v36146 1431655765 := ⟨_, rfl⟩
  rw [← e36150]
  have b36151 : 0 ≤ v36149 ∧ v36149 ≤ 1431655765 := by
    rw [e36150]
    exact wq_and_b _ (by omega) (by omega)
  refine wp_of e126 c126_8 (rw_isubw (pc' := 9) rfl ?_)
  obtain ⟨v36152, e36153⟩ : ∃ x : Int, x = wq_w (a0 - v36149) := ⟨_, rfl⟩
  rw [← e36153]
  have b36154 : -2147483648 ≤ v36152 ∧ v36152 ≤ 2147483647 := by
    rw [e36153]
    exact wI_w _
  refine wp_of e126 c126_9 (rw_istore_n (pc' := 10) (z := v36152) (L' := [(0, vI v36152)]) rfl rfl rfl ?_)
  refine wp_of e126 c126_10 (rw_iload_n (pc' := 11) (z := v36152) rfl rfl ?_)
  refine wp_of e126 c126_11 (rw_ldc_wI (pc' := 14) (z := 858993459) rfl rfl rfl ?_)
  refine wp_of e126 c126_14 (rw_iand (pc' := 15) rfl ?_)
  obtain ⟨v36155, e36156⟩ : ∃ x : Int, x = wq_and v36152 858993459 := ⟨_, rfl⟩
  rw [← e36156]
  have b36157 : 0 ≤ v36155 ∧ v36155 ≤ 858993459 := by
    rw [e36156]
    exact wq_and_b _ (by omega) (by omega)
  refine wp_of e126 c126_15 (rw_iload_n (pc' := 16) (z := v36152) rfl rfl ?_)
  refine wp_of e126 c126_16 (rw_iconst (pc' := 17) rfl ?_)
  refine wp_of e126 c126_17 (rw_iushr (pc' := 18) rfl ?_)
  obtain ⟨v36158, e36159⟩ : ∃ x : Int, x = wq_ushr v36152 2 := ⟨_, rfl⟩
  rw [← e36159]
  have b36160 : -2147483648 ≤ v36158 ∧ v36158 ≤ 2147483647 := by
    rw [e36159]
    exact wI_ushr _ _
  refine wp_of e126 c126_18 (rw_ldc_wI (pc' := 21) (z := 858993459) rfl rfl rfl ?_)
  refine wp_of e126 c126_21 (rw_iand (pc' := 22) rfl ?_)
  obtain ⟨v36161, e36162⟩ : ∃ x : Int, x = wq_and v36158 858993459 := ⟨_, rfl⟩
  rw [← e36162]
  have b36163 : 0 ≤ v36161 ∧ v36161 ≤ 858993459 := by
    rw [e36162]
    exact wq_and_b _ (by omega) (by omega)
  refine wp_of e126 c126_22 (rw_iadd (pc' := 23) rfl ?_)
  refine wp_of e126 c126_23 (rw_istore_n (pc' := 24) (z := v36155 + v36161) (L' := [(0, vI (v36155 + v36161))]) rfl rfl rfl ?_)
  refine wp_of e126 c126_24 (rw_iload_n (pc' := 25) (z := v36155 + v36161) rfl rfl ?_)
  refine wp_of e126 c126_25 (rw_iload_n (pc' := 26) (z := v36155 + v36161) rfl rfl ?_)
  refine wp_of e126 c126_26 (rw_iconst (pc' := 27) rfl ?_)
  refine wp_of e126 c126_27 (rw_iushr (pc' := 28) rfl ?_)
  obtain ⟨v36164, e36165⟩ : ∃ x : Int, x = wq_ushr (v36155 + v36161) 4 := ⟨_, rfl⟩
  rw [← e36165]
  have b36166 : -2147483648 ≤ v36164 ∧ v36164 ≤ 2147483647 := by
    rw [e36165]
    exact wI_ushr _ _
  refine wp_of e126 c126_28 (rw_iaddw (pc' := 29) rfl ?_)
  obtain ⟨v36167, e36168⟩ : ∃ x : Int, x = wq_w ((v36155 + v36161) + v36164) := ⟨_, rfl⟩
  rw [← e36168]
  have b36169 : -2147483648 ≤ v36167 ∧ v36167 ≤ 2147483647 := by
    rw [e36168]
    exact wI_w _
  refine wp_of e126 c126_29 (rw_ldc_wI (pc' := 32) (z := 252645135) rfl rfl rfl ?_)
  refine wp_of e126 c126_32 (rw_iand (pc' := 33) rfl ?_)
  obtain ⟨v36170, e36171⟩ : ∃ x : Int, x = wq_and v36167 252645135 := ⟨_, rfl⟩
  rw [← e36171]
  have b36172 : 0 ≤ v36170 ∧ v36170 ≤ 252645135 := by
    rw [e36171]
    exact wq_and_b _ (by omega) (by omega)
  refine wp_of e126 c126_33 (rw_istore_n (pc' := 34) (z := v36170) (L' := [(0, vI v36170)]) rfl rfl rfl ?_)
  refine wp_of e126 c126_34 (rw_iload_n (pc' := 35) (z := v36170) rfl rfl ?_)
  refine wp_of e126 c126_35 (rw_iload_n (pc' := 36) (z := v36170) rfl rfl ?_)
  refine wp_of e126 c126_36 (rw_bipush (pc' := 38) (z := 8) rfl (by decide) ?_)
  refine wp_of e126 c126_38 (rw_iushr (pc' := 39) rfl ?_)
  obtain ⟨v36173, e36174⟩ : ∃ x : Int, x = wq_ushr v36170 8 := ⟨_, rfl⟩
  rw [← e36174]
  have b36175 : -2147483648 ≤ v36173 ∧ v36173 ≤ 2147483647 := by
    rw [e36174]
    exact wI_ushr _ _
  refine wp_of e126 c126_39 (rw_iaddw (pc' := 40) rfl ?_)
  obtain ⟨v36176, e36177⟩ : ∃ x : Int, x = wq_w (v36170 + v36173) := ⟨_, rfl⟩
  rw [← e36177]
  have b36178 : -2147483648 ≤ v36176 ∧ v36176 ≤ 2147483647 := by
    rw [e36177]
    exact wI_w _
  refine wp_of e126 c126_40 (rw_istore_n (pc' := 41) (z := v36176) (L' := [(0, vI v36176)]) rfl rfl rfl ?_)
  refine wp_of e126 c126_41 (rw_iload_n (pc' := 42) (z := v36176) rfl rfl ?_)
  refine wp_of e126 c126_42 (rw_iload_n (pc' := 43) (z := v36176) rfl rfl ?_)
  refine wp_of e126 c126_43 (rw_bipush (pc' := 45) (z := 16) rfl (by decide) ?_)
  refine wp_of e126 c126_45 (rw_iushr (pc' := 46) rfl ?_)
  obtain ⟨v36179, e36180⟩ : ∃ x : Int, x = wq_ushr v36176 16 := ⟨_, rfl⟩
  rw [← e36180]
  have b36181 : -2147483648 ≤ v36179 ∧ v36179 ≤ 2147483647 := by
    rw [e36180]
    exact wI_ushr _ _
  refine wp_of e126 c126_46 (rw_iaddw (pc' := 47) rfl ?_)
  obtain ⟨v36182, e36183⟩ : ∃ x : Int, x = wq_w (v36176 + v36179) := ⟨_, rfl⟩
  rw [← e36183]
  have b36184 : -2147483648 ≤ v36182 ∧ v36182 ≤ 2147483647 := by
    rw [e36183]
    exact wI_w _
  refine wp_of e126 c126_47 (rw_istore_n (pc' := 48) (z := v36182) (L' := [(0, vI v36182)]) rfl rfl rfl ?_)
  refine wp_of e126 c126_48 (rw_iload_n (pc' := 49) (z := v36182) rfl rfl ?_)
  refine wp_of e126 c126_49 (rw_bipush (pc' := 51) (z := 63) rfl (by decide) ?_)
  refine wp_of e126 c126_51 (rw_iand (pc' := 52) rfl ?_)
  obtain ⟨v36185, e36186⟩ : ∃ x : Int, x = wq_and v36182 63 := ⟨_, rfl⟩
  rw [← e36186]
  have b36187 : 0 ≤ v36185 ∧ v36185 ≤ 63 := by
    rw [e36186]
    exact wq_and_b _ (by omega) (by omega)
  exact wp_ireturn e126 c126_52 rfl ⟨rfl, rfl, v36185, rfl, ⟨by omega, by omega⟩⟩
/-! StrikeAwake$Asking.lookOf(LStrikeAwake$Parish;II)I -/
theorem e128 : wq_en 128 = some (5, 5, false, some FieldType.int) := rfl
theorem c128_0 : mc_cd 128 0 = some (.iconst 0, 1) := by decide +kernel
theorem c128_1 : mc_cd 128 1 = some (.istore_n 3, 1) := by decide +kernel
theorem c128_2 : mc_cd 128 2 = some (.iconst 0, 1) := by decide +kernel
theorem c128_3 : mc_cd 128 3 = some (.istore 4, 2) := by decide +kernel
theorem c128_5 : mc_cd 128 5 = some (.iload 4, 2) := by decide +kernel
theorem c128_7 : mc_cd 128 7 = some (.aload_n 0, 1) := by decide +kernel
theorem c128_8 : mc_cd 128 8 = some (.getfield 46, 3) := by decide +kernel
theorem c128_11 : mc_cd 128 11 = some (.if_icmp .ge 39, 3) := by decide +kernel
theorem c128_14 : mc_cd 128 14 = some (.iload_n 2, 1) := by decide +kernel
theorem c128_15 : mc_cd 128 15 = some (.iload 4, 2) := by decide +kernel
theorem c128_17 : mc_cd 128 17 = some (.invokestatic 67, 3) := by decide +kernel
theorem c128_20 : mc_cd 128 20 = some (.ifCond .eq 24, 3) := by decide +kernel
theorem c128_23 : mc_cd 128 23 = some (.iload_n 3, 1) := by decide +kernel
theorem c128_24 : mc_cd 128 24 = some (.aload_n 0, 1) := by decide +kernel
theorem c128_25 : mc_cd 128 25 = some (.iload_n 1, 1) := by decide +kernel
theorem c128_26 : mc_cd 128 26 = some (.iload 4, 2) := by decide +kernel
theorem c128_28 : mc_cd 128 28 = some (.invokevirtual 71, 3) := by decide +kernel
theorem c128_31 : mc_cd 128 31 = some (.aload_n 0, 1) := by decide +kernel
theorem c128_32 : mc_cd 128 32 = some (.getfield 75, 3) := by decide +kernel
theorem c128_35 : mc_cd 128 35 = some (.iload 4, 2) := by decide +kernel
theorem c128_37 : mc_cd 128 37 = some (.aaload, 1) := by decide +kernel
theorem c128_38 : mc_cd 128 38 = some (.getfield 79, 3) := by decide +kernel
theorem c128_41 : mc_cd 128 41 = some (.imul, 1) := by decide +kernel
theorem c128_42 : mc_cd 128 42 = some (.iadd, 1) := by decide +kernel
theorem c128_43 : mc_cd 128 43 = some (.istore_n 3, 1) := by decide +kernel
theorem c128_44 : mc_cd 128 44 = some (.iinc 4 1, 3) := by decide +kernel
theorem c128_47 : mc_cd 128 47 = some (.goto (-42), 3) := by decide +kernel
theorem c128_50 : mc_cd 128 50 = some (.iload_n 3, 1) := by decide +kernel
theorem c128_51 : mc_cd 128 51 = some (.ireturn, 1) := by decide +kernel
abbrev q_128 (r0 : Nat) (a1 : Int) (a2 : Int) (T : wq_T) (H : wq_H) : Option Value → wq_T → wq_H → Prop := fun r T' H' => T = T' ∧ H = H' ∧ ∃ z : Int, some (vI z) = r ∧ ((-2147483648) ≤ z ∧ z ≤ 2147483647)
set_option maxHeartbeats 4000000 in
theorem s_128 {kt : Nat → Option mc_E} {T : wq_T} {H : wq_H} {r0 : Nat} {a1 : Int} {a2 : Int} (hW : WT T H) (g0 : T.2.2.2 r0 = some 27) (i1 : 0 ≤ a1 ∧ a1 ≤ 19999) (i2 : (-2147483648) ≤ a2 ∧ a2 ≤ 2147483647) : wpc kt 2 128 [.ref r0, vI a1, vI a2] T H (q_128 r0 a1 a2 T H) := by
  refine wp_enter e128 (Nat.le_of_ble_eq_true rfl) rfl ?_
  show wp _ _ 128 0 [(0, .ref r0), (1, vI a1), (2, vI a2)] [] _ H _
  refine wp_of e128 c128_0 (rw_iconst (pc' := 1) rfl ?_)
  refine wp_of e128 c128_1 (rw_istore_n (pc' := 2) (z := 0) (L' := [(3, vI 0), (0, .ref r0), (1, vI a1), (2, vI a2)]) rfl rfl rfl ?_)
  refine wp_of e128 c128_2 (rw_iconst (pc' := 3) rfl ?_)
  refine wp_of e128 c128_3 (rw_istore (pc' := 5) (z := 0) (L' := [(4, vI 0), (3, vI 0), (0, .ref r0), (1, vI a1), (2, vI a2)]) rfl rfl rfl ?_)
  have lp36695 : ∀ (n36696 : Nat) (v36698 : Int) (v36699 : Int), (0 ≤ v36698 ∧ v36698 ≤ 6) → ((-2147483648) ≤ v36699 ∧ v36699 ≤ 2147483647) → (6 - v36698).toNat = n36696 → wp kt 1 128 5 [(4, vI v36698), (3, vI v36699), (0, .ref r0), (1, vI a1), (2, vI a2)] [] T H (q_128 r0 a1 a2 T H) := by
    intro n36696
    induction n36696 using Nat.strongRecOn with
    | _ n36696 ih36697 =>
      intro v36698 v36699 b36702 b36703 m36704
      refine wp_of e128 c128_5 (rw_iload (pc' := 7) (z := v36698) rfl rfl ?_)
      refine wp_of e128 c128_7 (rw_aload_n (pc' := 8) (v := .ref r0) rfl rfl rfl ?_)
      refine wp_of e128 c128_8 (xg_I (pc' := 11) lf_5_46 hW g0 sh_27 (by decide) (by decide) ty_27_10 rfl rfl (fun b36705 b36706 => ?_))
      refine wp_of e128 c128_11 (rw_icmp_ge (p1 := 50) (p2 := 14) (by decide) rfl ⟨by omega, by omega⟩ ⟨by omega, by omega⟩ (fun c36707 => ?_) (fun c36707 => ?_))
      · refine wp_of e128 c128_50 (rw_iload_n (pc' := 51) (z := v36699) rfl rfl ?_)
        exact wp_ireturn e128 c128_51 rfl ⟨rfl, rfl, v36699, rfl, ⟨by omega, by omega⟩⟩
      · refine wp_of e128 c128_14 (rw_iload_n (pc' := 15) (z := a2) rfl rfl ?_)
        refine wp_of e128 c128_15 (rw_iload (pc' := 17) (z := v36698) rfl rfl ?_)
        refine wp_of e128 c128_17 (xc_S (pc' := 20) (as := [vI a2, vI v36698]) (st := []) (lm_5_67) rfl rfl (Nat.le_of_ble_eq_true rfl) rfl (by decide) (s_36 hW ⟨by omega, by omega⟩ ⟨by omega, by omega⟩) (fun R36708 T36709 H36710 p36711 => ?_))
        obtain ⟨e36712, e36714, z36715, e36713, b36716⟩ := p36711
        subst e36712
        subst e36713
        subst e36714
        show wp _ _ 128 20 [(4, vI v36698), (3, vI v36699), (0, .ref r0), (1, vI a1), (2, vI a2)] [vI z36715] _ H _
        refine wp_of e128 c128_20 (rw_if_eq (p1 := 44) (p2 := 23) (by decide) rfl ⟨by omega, by omega⟩ (fun c36717 => ?_) (fun c36717 => ?_))
        · refine wp_of e128 c128_44 (rw_iinc (pc' := 47) (z := v36698) (L' := [(4, vI (v36698 + 1)), (3, vI v36699), (0, .ref r0), (1, vI a1), (2, vI a2)]) rfl rfl rfl rfl ?_)
          refine wp_of e128 c128_47 (rw_goto (p1 := 5) (by decide) ?_)
          exact wp_lc (ks := [4, 3, 0, 1, 2]) (wl_c rfl (wl_c rfl (wl_c rfl (wl_c rfl (wl_c rfl wl_n))))) rfl (by decide) (ih36697 _ (by omega) (v36698 + 1) v36699 ⟨by omega, by omega⟩ ⟨by omega, by omega⟩ rfl)
        · refine wp_of e128 c128_23 (rw_iload_n (pc' := 24) (z := v36699) rfl rfl ?_)
          refine wp_of e128 c128_24 (rw_aload_n (pc' := 25) (v := .ref r0) rfl rfl rfl ?_)
          refine wp_of e128 c128_25 (rw_iload_n (pc' := 26) (z := a1) rfl rfl ?_)
          refine wp_of e128 c128_26 (rw_iload (pc' := 28) (z := v36698) rfl rfl ?_)
          refine wp_of e128 c128_28 (xc_V (pc' := 31) (r := r0) (as := [vI a1, vI v36698]) (st := [vI v36699]) (lm_5_71) rfl rfl (Nat.le_of_ble_eq_true rfl) hW g0 sh_27 (by decide) rfl (by decide) (s_96 hW g0 ⟨by omega, by omega⟩ ⟨by omega, by omega⟩) (fun R36718 T36719 H36720 p36721 => ?_))
          obtain ⟨e36722, e36724, z36725, e36723, b36726⟩ := p36721
          subst e36722
          subst e36723
          subst e36724
          show wp _ _ 128 31 [(4, vI v36698), (3, vI v36699), (0, .ref r0), (1, vI a1), (2, vI a2)] [vI z36725, vI v36699] _ H _
          refine wp_of e128 c128_31 (rw_aload_n (pc' := 32) (v := .ref r0) rfl rfl rfl ?_)
          refine wp_of e128 c128_32 (xg_R (pc' := 35) lf_5_75 hW g0 sh_27 (by decide) (by decide) ty_27_0 rfl rfl (fun r36727 q36728 g36729 => ?_))
          refine wp_of e128 c128_35 (rw_iload (pc' := 37) (z := v36698) rfl rfl ?_)
          refine wp_of e128 c128_37 (xa_R (pc' := 38) (by decide) hW g36729 sh_28 (by decide) (ty_28 _) (by omega) (by omega) rfl (fun r36730 q36731 g36732 => ?_))
          refine wp_of e128 c128_38 (xg_I (pc' := 41) lf_5_79 hW g36732 sh_35 (by decide) (by decide) ty_35_17 rfl rfl (fun b36733 b36734 => ?_))
          refine wp_of e128 c128_41 (rw_imulw (pc' := 42) rfl ?_)
          obtain ⟨v36735, e36736⟩ : ∃ x : Int, x = wq_w (z36725 * (H r36730 17)) := ⟨_, rfl⟩
          rw [← e36736]
          have b36737 : -2147483648 ≤ v36735 ∧ v36735 ≤ 2147483647 := by
            rw [e36736]
            exact wI_w _
          refine wp_of e128 c128_42 (rw_iaddw (pc' := 43) rfl ?_)
          obtain ⟨v36738, e36739⟩ : ∃ x : Int, x = wq_w (v36699 + v36735) := ⟨_, rfl⟩
          rw [← e36739]
          have b36740 : -2147483648 ≤ v36738 ∧ v36738 ≤ 2147483647 := by
            rw [e36739]
            exact wI_w _
          refine wp_of e128 c128_43 (rw_istore_n (pc' := 44) (z := v36738) (L' := [(3, vI v36738), (4, vI v36698), (0, .ref r0), (1, vI a1), (2, vI a2)]) rfl rfl rfl ?_)
          refine wp_of e128 c128_44 (rw_iinc (pc' := 47) (z := v36698) (L' := [(4, vI (v36698 + 1)), (3, vI v36738), (0, .ref r0), (1, vI a1), (2, vI a2)]) rfl rfl rfl rfl ?_)
          refine wp_of e128 c128_47 (rw_goto (p1 := 5) (by decide) ?_)
          exact wp_lc (ks := [4, 3, 0, 1, 2]) (wl_c rfl (wl_c rfl (wl_c rfl (wl_c rfl (wl_c rfl wl_n))))) rfl (by decide) (ih36697 _ (by omega) (v36698 + 1) v36738 ⟨by omega, by omega⟩ ⟨by omega, by omega⟩ rfl)
  exact wp_lc (ks := [4, 3, 0, 1, 2]) (wl_c rfl (wl_c rfl (wl_c rfl (wl_c rfl (wl_c rfl wl_n))))) rfl (by decide) (lp36695 _ 0 0 ⟨by omega, by omega⟩ ⟨by omega, by omega⟩ rfl)
/-! StrikeAwake$Asking.slotOf(I)I -/
theorem e129 : wq_en 129 = some (5, 4, false, some FieldType.int) := rfl
theorem c129_0 : mc_cd 129 0 = some (.iload_n 1, 1) := by decide +kernel
theorem c129_1 : mc_cd 129 1 = some (.sipush 1023, 3) := by decide +kernel
theorem c129_4 : mc_cd 129 4 = some (.iand, 1) := by decide +kernel
theorem c129_5 : mc_cd 129 5 = some (.istore_n 2, 1) := by decide +kernel
theorem c129_6 : mc_cd 129 6 = some (.iconst 0, 1) := by decide +kernel
theorem c129_7 : mc_cd 129 7 = some (.istore_n 3, 1) := by decide +kernel
theorem c129_8 : mc_cd 129 8 = some (.iload_n 3, 1) := by decide +kernel
theorem c129_9 : mc_cd 129 9 = some (.sipush 1024, 3) := by decide +kernel
theorem c129_12 : mc_cd 129 12 = some (.if_icmp .ge 43, 3) := by decide +kernel
theorem c129_15 : mc_cd 129 15 = some (.aload_n 0, 1) := by decide +kernel
theorem c129_16 : mc_cd 129 16 = some (.getfield 21, 3) := by decide +kernel
theorem c129_19 : mc_cd 129 19 = some (.iload_n 2, 1) := by decide +kernel
theorem c129_20 : mc_cd 129 20 = some (.iaload, 1) := by decide +kernel
theorem c129_21 : mc_cd 129 21 = some (.ifCond .lt 18, 3) := by decide +kernel
theorem c129_24 : mc_cd 129 24 = some (.aload_n 0, 1) := by decide +kernel
theorem c129_25 : mc_cd 129 25 = some (.getfield 18, 3) := by decide +kernel
theorem c129_28 : mc_cd 129 28 = some (.aload_n 0, 1) := by decide +kernel
theorem c129_29 : mc_cd 129 29 = some (.getfield 21, 3) := by decide +kernel
theorem c129_32 : mc_cd 129 32 = some (.iload_n 2, 1) := by decide +kernel
theorem c129_33 : mc_cd 129 33 = some (.iaload, 1) := by decide +kernel
theorem c129_34 : mc_cd 129 34 = some (.iaload, 1) := by decide +kernel
theorem c129_35 : mc_cd 129 35 = some (.iload_n 1, 1) := by decide +kernel
theorem c129_36 : mc_cd 129 36 = some (.if_icmp .ne 5, 3) := by decide +kernel
theorem c129_39 : mc_cd 129 39 = some (.iload_n 2, 1) := by decide +kernel
theorem c129_40 : mc_cd 129 40 = some (.ireturn, 1) := by decide +kernel
theorem c129_41 : mc_cd 129 41 = some (.iload_n 2, 1) := by decide +kernel
theorem c129_42 : mc_cd 129 42 = some (.iconst 1, 1) := by decide +kernel
theorem c129_43 : mc_cd 129 43 = some (.iadd, 1) := by decide +kernel
theorem c129_44 : mc_cd 129 44 = some (.sipush 1023, 3) := by decide +kernel
theorem c129_47 : mc_cd 129 47 = some (.iand, 1) := by decide +kernel
theorem c129_48 : mc_cd 129 48 = some (.istore_n 2, 1) := by decide +kernel
theorem c129_49 : mc_cd 129 49 = some (.iinc 3 1, 3) := by decide +kernel
theorem c129_52 : mc_cd 129 52 = some (.goto (-44), 3) := by decide +kernel
theorem c129_55 : mc_cd 129 55 = some (.iload_n 2, 1) := by decide +kernel
theorem c129_56 : mc_cd 129 56 = some (.ireturn, 1) := by decide +kernel
abbrev q_129 (r0 : Nat) (a1 : Int) (T : wq_T) (H : wq_H) : Option Value → wq_T → wq_H → Prop := fun r T' H' => T = T' ∧ H = H' ∧ ∃ z : Int, some (vI z) = r ∧ (0 ≤ z ∧ z ≤ 1023)
set_option maxHeartbeats 4000000 in
theorem s_129 {kt : Nat → Option mc_E} {T : wq_T} {H : wq_H} {r0 : Nat} {a1 : Int} (hW : WT T H) (g0 : T.2.2.2 r0 = some 20) (i1 : (-2147483648) ≤ a1 ∧ a1 ≤ 2147483647) : wpc kt 1 129 [.ref r0, vI a1] T H (q_129 r0 a1 T H) := by
  refine wp_enter e129 (Nat.le_of_ble_eq_true rfl) rfl ?_
  show wp _ _ 129 0 [(0, .ref r0), (1, vI a1)] [] _ H _
  refine wp_of e129 c129_0 (rw_iload_n (pc' := 1) (z := a1) rfl rfl ?_)
  refine wp_of e129 c129_1 (rw_sipush (pc' := 4) (z := 1023) rfl (by decide) ?_)
  refine wp_of e129 c129_4 (rw_iand (pc' := 5) rfl ?_)
  obtain ⟨v36897, e36898⟩ : ∃ x : Int, x = wq_and a1 1023 := ⟨_, rfl⟩
  rw [← e36898]
  have b36899 : 0 ≤ v36897 ∧ v36897 ≤ 1023 := by
    rw [e36898]
    exact wq_and_b _ (by omega) (by omega)
  refine wp_of e129 c129_5 (rw_istore_n (pc' := 6) (z := v36897) (L' := [(2, vI v36897), (0, .ref r0), (1, vI a1)]) rfl rfl rfl ?_)
  refine wp_of e129 c129_6 (rw_iconst (pc' := 7) rfl ?_)
  refine wp_of e129 c129_7 (rw_istore_n (pc' := 8) (z := 0) (L' := [(3, vI 0), (2, vI v36897), (0, .ref r0), (1, vI a1)]) rfl rfl rfl ?_)
  have lp37036 : ∀ (n37037 : Nat) (v37039 : Int) (v37040 : Int), (0 ≤ v37039 ∧ v37039 ≤ 1024) → (0 ≤ v37040 ∧ v37040 ≤ 1023) → (1024 - v37039).toNat = n37037 → wp kt 0 129 8 [(3, vI v37039), (2, vI v37040), (0, .ref r0), (1, vI a1)] [] T H (q_129 r0 a1 T H) := by
    intro n37037
    induction n37037 using Nat.strongRecOn with
    | _ n37037 ih37038 =>
      intro v37039 v37040 b37043 b37044 m37045
      refine wp_of e129 c129_8 (rw_iload_n (pc' := 9) (z := v37039) rfl rfl ?_)
      refine wp_of e129 c129_9 (rw_sipush (pc' := 12) (z := 1024) rfl (by decide) ?_)
      refine wp_of e129 c129_12 (rw_icmp_ge (p1 := 55) (p2 := 15) (by decide) rfl ⟨by omega, by omega⟩ ⟨by omega, by omega⟩ (fun c37046 => ?_) (fun c37046 => ?_))
      · refine wp_of e129 c129_55 (rw_iload_n (pc' := 56) (z := v37040) rfl rfl ?_)
        exact wp_ireturn e129 c129_56 rfl ⟨rfl, rfl, v37040, rfl, ⟨by omega, by omega⟩⟩
      · refine wp_of e129 c129_15 (rw_aload_n (pc' := 16) (v := .ref r0) rfl rfl rfl ?_)
        refine wp_of e129 c129_16 (xg_R (pc' := 19) lf_5_21 hW g0 sh_20 (by decide) (by decide) ty_20_3 rfl rfl (fun r37047 q37048 g37049 => ?_))
        refine wp_of e129 c129_19 (rw_iload_n (pc' := 20) (z := v37040) rfl rfl ?_)
        refine wp_of e129 c129_20 (xa_I (so := 0) (pc' := 21) hW g37049 sh_24 (by decide) (ty_24 _) (by omega) (by omega) rfl (fun b37050 b37051 => ?_))
        refine wp_of e129 c129_21 (rw_if_lt (p1 := 39) (p2 := 24) (by decide) rfl ⟨by omega, by omega⟩ (fun c37052 => ?_) (fun c37052 => ?_))
        · refine wp_of e129 c129_39 (rw_iload_n (pc' := 40) (z := v37040) rfl rfl ?_)
          exact wp_ireturn e129 c129_40 rfl ⟨rfl, rfl, v37040, rfl, ⟨by omega, by omega⟩⟩
        · refine wp_of e129 c129_24 (rw_aload_n (pc' := 25) (v := .ref r0) rfl rfl rfl ?_)
          refine wp_of e129 c129_25 (xg_R (pc' := 28) lf_5_18 hW g0 sh_20 (by decide) (by decide) ty_20_2 rfl rfl (fun r37053 q37054 g37055 => ?_))
          refine wp_of e129 c129_28 (rw_aload_n (pc' := 29) (v := .ref r0) rfl rfl rfl ?_)
          refine wp_of e129 c129_29 (xg_K (pc' := 32) lf_5_21 hW g0 sh_20 (by decide) (by decide) rfl q37048 rfl ?_)
          refine wp_of e129 c129_32 (rw_iload_n (pc' := 33) (z := v37040) rfl rfl ?_)
          refine wp_of e129 c129_33 (xa_I (so := 0) (pc' := 34) hW g37049 sh_24 (by decide) (ty_24 _) (by omega) (by omega) rfl (fun b37056 b37057 => ?_))
          refine wp_of e129 c129_34 (xa_I (so := 0) (pc' := 35) hW g37055 sh_23 (by decide) (ty_23 _) (by omega) (by omega) rfl (fun b37058 b37059 => ?_))
          refine wp_of e129 c129_35 (rw_iload_n (pc' := 36) (z := a1) rfl rfl ?_)
          refine wp_of e129 c129_36 (rw_icmp_ne (p1 := 41) (p2 := 39) (by decide) rfl ⟨by omega, by omega⟩ ⟨by omega, by omega⟩ (fun c37060 => ?_) (fun c37060 => ?_))
          · refine wp_of e129 c129_41 (rw_iload_n (pc' := 42) (z := v37040) rfl rfl ?_)
            refine wp_of e129 c129_42 (rw_iconst (pc' := 43) rfl ?_)
            refine wp_of e129 c129_43 (rw_iadd (pc' := 44) rfl ?_)
            refine wp_of e129 c129_44 (rw_sipush (pc' := 47) (z := 1023) rfl (by decide) ?_)
            refine wp_of e129 c129_47 (rw_iand (pc' := 48) rfl ?_)
            obtain ⟨v37061, e37062⟩ : ∃ x : Int, x = wq_and (v37040 + 1) 1023 := ⟨_, rfl⟩
            rw [← e37062]
            have b37063 : 0 ≤ v37061 ∧ v37061 ≤ 1023 := by
              rw [e37062]
              exact wq_and_b _ (by omega) (by omega)
            refine wp_of e129 c129_48 (rw_istore_n (pc' := 49) (z := v37061) (L' := [(2, vI v37061), (3, vI v37039), (0, .ref r0), (1, vI a1)]) rfl rfl rfl ?_)
            refine wp_of e129 c129_49 (rw_iinc (pc' := 52) (z := v37039) (L' := [(3, vI (v37039 + 1)), (2, vI v37061), (0, .ref r0), (1, vI a1)]) rfl rfl rfl rfl ?_)
            refine wp_of e129 c129_52 (rw_goto (p1 := 8) (by decide) ?_)
            exact wp_lc (ks := [3, 2, 0, 1]) (wl_c rfl (wl_c rfl (wl_c rfl (wl_c rfl wl_n)))) rfl (by decide) (ih37038 _ (by omega) (v37039 + 1) v37061 ⟨by omega, by omega⟩ ⟨by omega, by omega⟩ rfl)
          · refine wp_of e129 c129_39 (rw_iload_n (pc' := 40) (z := v37040) rfl rfl ?_)
            exact wp_ireturn e129 c129_40 rfl ⟨rfl, rfl, v37040, rfl, ⟨by omega, by omega⟩⟩
  exact wp_lc (ks := [3, 2, 0, 1]) (wl_c rfl (wl_c rfl (wl_c rfl (wl_c rfl wl_n)))) rfl (by decide) (lp37036 _ 0 v36897 ⟨by omega, by omega⟩ ⟨by omega, by omega⟩ rfl)
/-! StrikeAwake$Asking.tells(LStrikeAwake$Parish;I)Z -/
theorem e127 : wq_en 127 = some (5, 5, false, some FieldType.boolean) := rfl
theorem c127_0 : mc_cd 127 0 = some (.iconst 0, 1) := by decide +kernel
theorem c127_1 : mc_cd 127 1 = some (.istore_n 3, 1) := by decide +kernel
theorem c127_2 : mc_cd 127 2 = some (.iload_n 3, 1) := by decide +kernel
theorem c127_3 : mc_cd 127 3 = some (.sipush 1024, 3) := by decide +kernel
theorem c127_6 : mc_cd 127 6 = some (.if_icmp .ge 16, 3) := by decide +kernel
theorem c127_9 : mc_cd 127 9 = some (.aload_n 0, 1) := by decide +kernel
theorem c127_10 : mc_cd 127 10 = some (.getfield 21, 3) := by decide +kernel
theorem c127_13 : mc_cd 127 13 = some (.iload_n 3, 1) := by decide +kernel
theorem c127_14 : mc_cd 127 14 = some (.iconst (-1), 1) := by decide +kernel
theorem c127_15 : mc_cd 127 15 = some (.iastore, 1) := by decide +kernel
theorem c127_16 : mc_cd 127 16 = some (.iinc 3 1, 3) := by decide +kernel
theorem c127_19 : mc_cd 127 19 = some (.goto (-17), 3) := by decide +kernel
theorem c127_22 : mc_cd 127 22 = some (.iconst 0, 1) := by decide +kernel
theorem c127_23 : mc_cd 127 23 = some (.istore_n 3, 1) := by decide +kernel
theorem c127_24 : mc_cd 127 24 = some (.iload_n 3, 1) := by decide +kernel
theorem c127_25 : mc_cd 127 25 = some (.aload_n 0, 1) := by decide +kernel
theorem c127_26 : mc_cd 127 26 = some (.getfield 28, 3) := by decide +kernel
theorem c127_29 : mc_cd 127 29 = some (.if_icmp .ge 82, 3) := by decide +kernel
theorem c127_32 : mc_cd 127 32 = some (.aload_n 0, 1) := by decide +kernel
theorem c127_33 : mc_cd 127 33 = some (.getfield 18, 3) := by decide +kernel
theorem c127_36 : mc_cd 127 36 = some (.iload_n 3, 1) := by decide +kernel
theorem c127_37 : mc_cd 127 37 = some (.aload_n 1, 1) := by decide +kernel
theorem c127_38 : mc_cd 127 38 = some (.aload_n 0, 1) := by decide +kernel
theorem c127_39 : mc_cd 127 39 = some (.getfield 9, 3) := by decide +kernel
theorem c127_42 : mc_cd 127 42 = some (.iload_n 3, 1) := by decide +kernel
theorem c127_43 : mc_cd 127 43 = some (.iaload, 1) := by decide +kernel
theorem c127_44 : mc_cd 127 44 = some (.iload_n 2, 1) := by decide +kernel
theorem c127_45 : mc_cd 127 45 = some (.invokestatic 61, 3) := by decide +kernel
theorem c127_48 : mc_cd 127 48 = some (.iastore, 1) := by decide +kernel
theorem c127_49 : mc_cd 127 49 = some (.aload_n 0, 1) := by decide +kernel
theorem c127_50 : mc_cd 127 50 = some (.aload_n 0, 1) := by decide +kernel
theorem c127_51 : mc_cd 127 51 = some (.getfield 18, 3) := by decide +kernel
theorem c127_54 : mc_cd 127 54 = some (.iload_n 3, 1) := by decide +kernel
theorem c127_55 : mc_cd 127 55 = some (.iaload, 1) := by decide +kernel
theorem c127_56 : mc_cd 127 56 = some (.invokevirtual 64, 3) := by decide +kernel
theorem c127_59 : mc_cd 127 59 = some (.istore 4, 2) := by decide +kernel
theorem c127_61 : mc_cd 127 61 = some (.aload_n 0, 1) := by decide +kernel
theorem c127_62 : mc_cd 127 62 = some (.getfield 21, 3) := by decide +kernel
theorem c127_65 : mc_cd 127 65 = some (.iload 4, 2) := by decide +kernel
theorem c127_67 : mc_cd 127 67 = some (.iaload, 1) := by decide +kernel
theorem c127_68 : mc_cd 127 68 = some (.ifCond .ge 14, 3) := by decide +kernel
theorem c127_71 : mc_cd 127 71 = some (.aload_n 0, 1) := by decide +kernel
theorem c127_72 : mc_cd 127 72 = some (.getfield 21, 3) := by decide +kernel
theorem c127_75 : mc_cd 127 75 = some (.iload 4, 2) := by decide +kernel
theorem c127_77 : mc_cd 127 77 = some (.iload_n 3, 1) := by decide +kernel
theorem c127_78 : mc_cd 127 78 = some (.iastore, 1) := by decide +kernel
theorem c127_79 : mc_cd 127 79 = some (.goto 26, 3) := by decide +kernel
theorem c127_82 : mc_cd 127 82 = some (.aload_n 0, 1) := by decide +kernel
theorem c127_83 : mc_cd 127 83 = some (.getfield 15, 3) := by decide +kernel
theorem c127_86 : mc_cd 127 86 = some (.aload_n 0, 1) := by decide +kernel
theorem c127_87 : mc_cd 127 87 = some (.getfield 21, 3) := by decide +kernel
theorem c127_90 : mc_cd 127 90 = some (.iload 4, 2) := by decide +kernel
theorem c127_92 : mc_cd 127 92 = some (.iaload, 1) := by decide +kernel
theorem c127_93 : mc_cd 127 93 = some (.iaload, 1) := by decide +kernel
theorem c127_94 : mc_cd 127 94 = some (.aload_n 0, 1) := by decide +kernel
theorem c127_95 : mc_cd 127 95 = some (.getfield 15, 3) := by decide +kernel
theorem c127_98 : mc_cd 127 98 = some (.iload_n 3, 1) := by decide +kernel
theorem c127_99 : mc_cd 127 99 = some (.iaload, 1) := by decide +kernel
theorem c127_100 : mc_cd 127 100 = some (.if_icmp .eq 5, 3) := by decide +kernel
theorem c127_103 : mc_cd 127 103 = some (.iconst 0, 1) := by decide +kernel
theorem c127_104 : mc_cd 127 104 = some (.ireturn, 1) := by decide +kernel
theorem c127_105 : mc_cd 127 105 = some (.iinc 3 1, 3) := by decide +kernel
theorem c127_108 : mc_cd 127 108 = some (.goto (-84), 3) := by decide +kernel
theorem c127_111 : mc_cd 127 111 = some (.iconst 1, 1) := by decide +kernel
theorem c127_112 : mc_cd 127 112 = some (.ireturn, 1) := by decide +kernel
abbrev q_127 (r0 : Nat) (r1 : Nat) (a2 : Int) (T : wq_T) (H : wq_H) : Option Value → wq_T → wq_H → Prop := fun r T' H' => T = T' ∧ WT T H' ∧ wfr [(23, 999), (24, 999)] T H H' ∧ ∃ z : Int, some (vI z) = r ∧ (0 ≤ z ∧ z ≤ 1)
set_option maxHeartbeats 4000000 in
theorem s_127 {kt : Nat → Option mc_E} {T : wq_T} {H : wq_H} {r0 : Nat} {r1 : Nat} {a2 : Int} (hW : WT T H) (g0 : T.2.2.2 r0 = some 20) (g1 : T.2.2.2 r1 = some 27) (i2 : (-2147483648) ≤ a2 ∧ a2 ≤ 2147483647) : wpc kt 3 127 [.ref r0, .ref r1, vI a2] T H (q_127 r0 r1 a2 T H) := by
  refine wp_enter e127 (Nat.le_of_ble_eq_true rfl) rfl ?_
  have f0 : wfr [(23, 999), (24, 999)] T H H := wfr.rf
  show wp _ _ 127 0 [(0, .ref r0), (1, .ref r1), (2, vI a2)] [] _ H _
  refine wp_of e127 c127_0 (rw_iconst (pc' := 1) rfl ?_)
  refine wp_of e127 c127_1 (rw_istore_n (pc' := 2) (z := 0) (L' := [(3, vI 0), (0, .ref r0), (1, .ref r1), (2, vI a2)]) rfl rfl rfl ?_)
  have lp37715 : ∀ (n37716 : Nat) (v37718 : Int) (H37719 : wq_H), WT T H37719 → wfr [(24, 999)] T H H37719 → (0 ≤ v37718 ∧ v37718 ≤ 1024) → (1024 - v37718).toNat = n37716 → wp kt 2 127 2 [(3, vI v37718), (0, .ref r0), (1, .ref r1), (2, vI a2)] [] T H37719 (q_127 r0 r1 a2 T H) := by
    intro n37716
    induction n37716 using Nat.strongRecOn with
    | _ n37716 ih37717 =>
      intro v37718 H37719 w37720 f37721 b37722 m37723
      have f37724 := f0.tr f37721 rfl
      refine wp_of e127 c127_2 (rw_iload_n (pc' := 3) (z := v37718) rfl rfl ?_)
      refine wp_of e127 c127_3 (rw_sipush (pc' := 6) (z := 1024) rfl (by decide) ?_)
      refine wp_of e127 c127_6 (rw_icmp_ge (p1 := 22) (p2 := 9) (by decide) rfl ⟨by omega, by omega⟩ ⟨by omega, by omega⟩ (fun c37725 => ?_) (fun c37725 => ?_))
      · refine wp_of e127 c127_22 (rw_iconst (pc' := 23) rfl ?_)
        refine wp_of e127 c127_23 (rw_istore_n (pc' := 24) (z := 0) (L' := [(3, vI 0), (0, .ref r0), (1, .ref r1), (2, vI a2)]) rfl rfl rfl ?_)
        have lp38182 : ∀ (n38183 : Nat) (v38185 : Int) (H38186 : wq_H), WT T H38186 → wfr [(23, 999), (24, 999)] T H37719 H38186 → (0 ≤ v38185 ∧ v38185 ≤ 400) → (400 - v38185).toNat = n38183 → wp kt 2 127 24 [(3, vI v38185), (0, .ref r0), (1, .ref r1), (2, vI a2)] [] T H38186 (q_127 r0 r1 a2 T H) := by
          intro n38183
          induction n38183 using Nat.strongRecOn with
          | _ n38183 ih38184 =>
            intro v38185 H38186 w38187 f38188 b38189 m38190
            have f38191 := f37724.tr f38188 rfl
            refine wp_of e127 c127_24 (rw_iload_n (pc' := 25) (z := v38185) rfl rfl ?_)
            refine wp_of e127 c127_25 (rw_aload_n (pc' := 26) (v := .ref r0) rfl rfl rfl ?_)
            refine wp_of e127 c127_26 (xg_I (pc' := 29) lf_5_28 w38187 g0 sh_20 (by decide) (by decide) ty_20_4 rfl rfl (fun b38192 b38193 => ?_))
            refine wp_of e127 c127_29 (rw_icmp_ge (p1 := 111) (p2 := 32) (by decide) rfl ⟨by omega, by omega⟩ ⟨by omega, by omega⟩ (fun c38194 => ?_) (fun c38194 => ?_))
            · refine wp_of e127 c127_111 (rw_iconst (pc' := 112) rfl ?_)
              exact wp_zreturn e127 c127_112 rfl (by omega) ⟨rfl, w38187, f38191, 1, rfl, ⟨by omega, by omega⟩⟩
            · refine wp_of e127 c127_32 (rw_aload_n (pc' := 33) (v := .ref r0) rfl rfl rfl ?_)
              refine wp_of e127 c127_33 (xg_R (pc' := 36) lf_5_18 w38187 g0 sh_20 (by decide) (by decide) ty_20_2 rfl rfl (fun r38195 q38196 g38197 => ?_))
              refine wp_of e127 c127_36 (rw_iload_n (pc' := 37) (z := v38185) rfl rfl ?_)
              refine wp_of e127 c127_37 (rw_aload_n (pc' := 38) (v := .ref r1) rfl rfl rfl ?_)
              refine wp_of e127 c127_38 (rw_aload_n (pc' := 39) (v := .ref r0) rfl rfl rfl ?_)
              refine wp_of e127 c127_39 (xg_R (pc' := 42) lf_5_9 w38187 g0 sh_20 (by decide) (by decide) ty_20_0 rfl rfl (fun r38198 q38199 g38200 => ?_))
              refine wp_of e127 c127_42 (rw_iload_n (pc' := 43) (z := v38185) rfl rfl ?_)
              refine wp_of e127 c127_43 (xa_I (so := 0) (pc' := 44) w38187 g38200 sh_21 (by decide) (ty_21 _) (by omega) (by omega) rfl (fun b38201 b38202 => ?_))
              refine wp_of e127 c127_44 (rw_iload_n (pc' := 45) (z := a2) rfl rfl ?_)
              refine wp_of e127 c127_45 (xc_S (pc' := 48) (as := [.ref r1, vI (H38186 r38198 (v38185.toNat)), vI a2]) (st := [vI v38185, .ref r38195]) (lm_5_61) rfl rfl (Nat.le_of_ble_eq_true rfl) rfl (by decide) (s_128 w38187 g1 ⟨by omega, by omega⟩ ⟨by omega, by omega⟩) (fun R38203 T38204 H38205 p38206 => ?_))
              obtain ⟨e38207, e38209, z38210, e38208, b38211⟩ := p38206
              subst e38207
              subst e38208
              subst e38209
              show wp _ _ 127 48 [(3, vI v38185), (0, .ref r0), (1, .ref r1), (2, vI a2)] [vI z38210, vI v38185, .ref r38195] _ H38186 _
              refine wp_of e127 c127_48 (xs_I (pc' := 49) w38187 g38197 (by decide) sh_23 (by decide) (ty_23 _) (by omega) (by omega) ⟨by omega, by omega⟩ (by omega) (by omega) rfl (fun H38212 e38213 w38214 => ?_))
              have f38215 := f38191.put' e38213 g38197 rfl
              have f38216 := f38188.put' e38213 g38197 rfl
              refine wp_of e127 c127_49 (rw_aload_n (pc' := 50) (v := .ref r0) rfl rfl rfl ?_)
              refine wp_of e127 c127_50 (rw_aload_n (pc' := 51) (v := .ref r0) rfl rfl rfl ?_)
              have k38217 : H38212 r0 2 = H38186 r0 2 := (wq_u_t e38213 g38197 g0 rfl 2)
              have q38218 : H38212 r0 2 = (r38195 : Int) := k38217.trans q38196
              refine wp_of e127 c127_51 (xg_K (pc' := 54) lf_5_18 w38214 g0 sh_20 (by decide) (by decide) rfl q38218 rfl ?_)
              refine wp_of e127 c127_54 (rw_iload_n (pc' := 55) (z := v38185) rfl rfl ?_)
              refine wp_of e127 c127_55 (xa_I (so := 0) (pc' := 56) w38214 g38197 sh_23 (by decide) (ty_23 _) (by omega) (by omega) rfl (fun b38219 b38220 => ?_))
              refine wp_of e127 c127_56 (xc_V (pc' := 59) (r := r0) (as := [vI (H38212 r38195 (v38185.toNat))]) (st := []) (lm_5_64) rfl rfl (Nat.le_of_ble_eq_true rfl) w38214 g0 sh_20 (by decide) rfl (by decide) (s_129 w38214 g0 ⟨by omega, by omega⟩) (fun R38221 T38222 H38223 p38224 => ?_))
              obtain ⟨e38225, e38227, z38228, e38226, b38229⟩ := p38224
              subst e38225
              subst e38226
              subst e38227
              show wp _ _ 127 59 [(3, vI v38185), (0, .ref r0), (1, .ref r1), (2, vI a2)] [vI z38228] _ H38212 _
              refine wp_of e127 c127_59 (rw_istore (pc' := 61) (z := z38228) (L' := [(4, vI z38228), (3, vI v38185), (0, .ref r0), (1, .ref r1), (2, vI a2)]) rfl rfl rfl ?_)
              refine wp_of e127 c127_61 (rw_aload_n (pc' := 62) (v := .ref r0) rfl rfl rfl ?_)
              refine wp_of e127 c127_62 (xg_R (pc' := 65) lf_5_21 w38214 g0 sh_20 (by decide) (by decide) ty_20_3 rfl rfl (fun r38230 q38231 g38232 => ?_))
              refine wp_of e127 c127_65 (rw_iload (pc' := 67) (z := z38228) rfl rfl ?_)
              refine wp_of e127 c127_67 (xa_I (so := 0) (pc' := 68) w38214 g38232 sh_24 (by decide) (ty_24 _) (by omega) (by omega) rfl (fun b38233 b38234 => ?_))
              refine wp_of e127 c127_68 (rw_if_ge (p1 := 82) (p2 := 71) (by decide) rfl ⟨by omega, by omega⟩ (fun c38235 => ?_) (fun c38235 => ?_))
              · refine wp_of e127 c127_82 (rw_aload_n (pc' := 83) (v := .ref r0) rfl rfl rfl ?_)
                refine wp_of e127 c127_83 (xg_R (pc' := 86) lf_5_15 w38214 g0 sh_20 (by decide) (by decide) ty_20_1 rfl rfl (fun r38236 q38237 g38238 => ?_))
                refine wp_of e127 c127_86 (rw_aload_n (pc' := 87) (v := .ref r0) rfl rfl rfl ?_)
                refine wp_of e127 c127_87 (xg_K (pc' := 90) lf_5_21 w38214 g0 sh_20 (by decide) (by decide) rfl q38231 rfl ?_)
                refine wp_of e127 c127_90 (rw_iload (pc' := 92) (z := z38228) rfl rfl ?_)
                refine wp_of e127 c127_92 (xa_I (so := 0) (pc' := 93) w38214 g38232 sh_24 (by decide) (ty_24 _) (by omega) (by omega) rfl (fun b38239 b38240 => ?_))
                refine wp_of e127 c127_93 (xa_I (so := 0) (pc' := 94) w38214 g38238 sh_22 (by decide) (ty_22 _) (by omega) (by omega) rfl (fun b38241 b38242 => ?_))
                refine wp_of e127 c127_94 (rw_aload_n (pc' := 95) (v := .ref r0) rfl rfl rfl ?_)
                refine wp_of e127 c127_95 (xg_K (pc' := 98) lf_5_15 w38214 g0 sh_20 (by decide) (by decide) rfl q38237 rfl ?_)
                refine wp_of e127 c127_98 (rw_iload_n (pc' := 99) (z := v38185) rfl rfl ?_)
                refine wp_of e127 c127_99 (xa_I (so := 0) (pc' := 100) w38214 g38238 sh_22 (by decide) (ty_22 _) (by omega) (by omega) rfl (fun b38243 b38244 => ?_))
                refine wp_of e127 c127_100 (rw_icmp_eq (p1 := 105) (p2 := 103) (by decide) rfl ⟨by omega, by omega⟩ ⟨by omega, by omega⟩ (fun c38245 => ?_) (fun c38245 => ?_))
                · refine wp_of e127 c127_105 (rw_iinc (pc' := 108) (z := v38185) (L' := [(3, vI (v38185 + 1)), (4, vI z38228), (0, .ref r0), (1, .ref r1), (2, vI a2)]) rfl rfl rfl rfl ?_)
                  refine wp_of e127 c127_108 (rw_goto (p1 := 24) (by decide) ?_)
                  exact wp_lc (ks := [3, 4, 0, 1, 2]) (wl_c rfl (wl_c rfl (wl_c rfl (wl_c rfl wl_n)))) rfl (by decide) (ih38184 _ (by omega) (v38185 + 1) H38212 w38214 f38216 ⟨by omega, by omega⟩ rfl)
                · refine wp_of e127 c127_103 (rw_iconst (pc' := 104) rfl ?_)
                  exact wp_zreturn e127 c127_104 rfl (by omega) ⟨rfl, w38214, f38215, 0, rfl, ⟨by omega, by omega⟩⟩
              · refine wp_of e127 c127_71 (rw_aload_n (pc' := 72) (v := .ref r0) rfl rfl rfl ?_)
                refine wp_of e127 c127_72 (xg_K (pc' := 75) lf_5_21 w38214 g0 sh_20 (by decide) (by decide) rfl q38231 rfl ?_)
                refine wp_of e127 c127_75 (rw_iload (pc' := 77) (z := z38228) rfl rfl ?_)
                refine wp_of e127 c127_77 (rw_iload_n (pc' := 78) (z := v38185) rfl rfl ?_)
                refine wp_of e127 c127_78 (xs_I (pc' := 79) w38214 g38232 (by decide) sh_24 (by decide) (ty_24 _) (by omega) (by omega) ⟨by omega, by omega⟩ (by omega) (by omega) rfl (fun H38246 e38247 w38248 => ?_))
                have f38249 := f38215.put' e38247 g38232 rfl
                have f38250 := f38216.put' e38247 g38232 rfl
                refine wp_of e127 c127_79 (rw_goto (p1 := 105) (by decide) ?_)
                refine wp_of e127 c127_105 (rw_iinc (pc' := 108) (z := v38185) (L' := [(3, vI (v38185 + 1)), (4, vI z38228), (0, .ref r0), (1, .ref r1), (2, vI a2)]) rfl rfl rfl rfl ?_)
                refine wp_of e127 c127_108 (rw_goto (p1 := 24) (by decide) ?_)
                exact wp_lc (ks := [3, 4, 0, 1, 2]) (wl_c rfl (wl_c rfl (wl_c rfl (wl_c rfl wl_n)))) rfl (by decide) (ih38184 _ (by omega) (v38185 + 1) H38246 w38248 f38250 ⟨by omega, by omega⟩ rfl)
        exact wp_lc (ks := [3, 0, 1, 2]) (wl_c rfl (wl_c rfl (wl_c rfl (wl_c rfl wl_n)))) rfl (by decide) (lp38182 _ 0 H37719 w37720 wfr.rf ⟨by omega, by omega⟩ rfl)
      · refine wp_of e127 c127_9 (rw_aload_n (pc' := 10) (v := .ref r0) rfl rfl rfl ?_)
        refine wp_of e127 c127_10 (xg_R (pc' := 13) lf_5_21 w37720 g0 sh_20 (by decide) (by decide) ty_20_3 rfl rfl (fun r38251 q38252 g38253 => ?_))
        refine wp_of e127 c127_13 (rw_iload_n (pc' := 14) (z := v37718) rfl rfl ?_)
        refine wp_of e127 c127_14 (rw_iconst (pc' := 15) rfl ?_)
        refine wp_of e127 c127_15 (xs_I (pc' := 16) w37720 g38253 (by decide) sh_24 (by decide) (ty_24 _) (by omega) (by omega) ⟨by omega, by omega⟩ (by omega) (by omega) rfl (fun H38254 e38255 w38256 => ?_))
        have f38257 := f37724.put' e38255 g38253 rfl
        have f38258 := f37721.put' e38255 g38253 rfl
        refine wp_of e127 c127_16 (rw_iinc (pc' := 19) (z := v37718) (L' := [(3, vI (v37718 + 1)), (0, .ref r0), (1, .ref r1), (2, vI a2)]) rfl rfl rfl rfl ?_)
        refine wp_of e127 c127_19 (rw_goto (p1 := 2) (by decide) ?_)
        exact wp_lc (ks := [3, 0, 1, 2]) (wl_c rfl (wl_c rfl (wl_c rfl (wl_c rfl wl_n)))) rfl (by decide) (ih37717 _ (by omega) (v37718 + 1) H38254 w38256 f38258 ⟨by omega, by omega⟩ rfl)
  exact wp_lc (ks := [3, 0, 1, 2]) (wl_c rfl (wl_c rfl (wl_c rfl (wl_c rfl wl_n)))) rfl (by decide) (lp37715 _ 0 H hW wfr.rf ⟨by omega, by omega⟩ rfl)
/-! StrikeAwake$Asking.fewest(LStrikeAwake$Parish;)I -/
theorem e125 : wq_en 125 = some (5, 5, false, some FieldType.int) := rfl
theorem c125_0 : mc_cd 125 0 = some (.iconst 1, 1) := by decide +kernel
theorem c125_1 : mc_cd 125 1 = some (.aload_n 1, 1) := by decide +kernel
theorem c125_2 : mc_cd 125 2 = some (.getfield 46, 3) := by decide +kernel
theorem c125_5 : mc_cd 125 5 = some (.ishl, 1) := by decide +kernel
theorem c125_6 : mc_cd 125 6 = some (.iconst 1, 1) := by decide +kernel
theorem c125_7 : mc_cd 125 7 = some (.isub, 1) := by decide +kernel
theorem c125_8 : mc_cd 125 8 = some (.istore_n 2, 1) := by decide +kernel
theorem c125_9 : mc_cd 125 9 = some (.iconst 0, 1) := by decide +kernel
theorem c125_10 : mc_cd 125 10 = some (.istore_n 3, 1) := by decide +kernel
theorem c125_11 : mc_cd 125 11 = some (.iload_n 3, 1) := by decide +kernel
theorem c125_12 : mc_cd 125 12 = some (.aload_n 1, 1) := by decide +kernel
theorem c125_13 : mc_cd 125 13 = some (.getfield 46, 3) := by decide +kernel
theorem c125_16 : mc_cd 125 16 = some (.if_icmp .ge 46, 3) := by decide +kernel
theorem c125_19 : mc_cd 125 19 = some (.iconst 0, 1) := by decide +kernel
theorem c125_20 : mc_cd 125 20 = some (.istore 4, 2) := by decide +kernel
theorem c125_22 : mc_cd 125 22 = some (.iload 4, 2) := by decide +kernel
theorem c125_24 : mc_cd 125 24 = some (.iload_n 2, 1) := by decide +kernel
theorem c125_25 : mc_cd 125 25 = some (.if_icmp .ge 31, 3) := by decide +kernel
theorem c125_28 : mc_cd 125 28 = some (.iload 4, 2) := by decide +kernel
theorem c125_30 : mc_cd 125 30 = some (.invokestatic 51, 3) := by decide +kernel
theorem c125_33 : mc_cd 125 33 = some (.iload_n 3, 1) := by decide +kernel
theorem c125_34 : mc_cd 125 34 = some (.if_icmp .ne 16, 3) := by decide +kernel
theorem c125_37 : mc_cd 125 37 = some (.aload_n 0, 1) := by decide +kernel
theorem c125_38 : mc_cd 125 38 = some (.aload_n 1, 1) := by decide +kernel
theorem c125_39 : mc_cd 125 39 = some (.iload 4, 2) := by decide +kernel
theorem c125_41 : mc_cd 125 41 = some (.invokevirtual 57, 3) := by decide +kernel
theorem c125_44 : mc_cd 125 44 = some (.ifCond .eq 6, 3) := by decide +kernel
theorem c125_47 : mc_cd 125 47 = some (.iload 4, 2) := by decide +kernel
theorem c125_49 : mc_cd 125 49 = some (.ireturn, 1) := by decide +kernel
theorem c125_50 : mc_cd 125 50 = some (.iinc 4 1, 3) := by decide +kernel
theorem c125_53 : mc_cd 125 53 = some (.goto (-31), 3) := by decide +kernel
theorem c125_56 : mc_cd 125 56 = some (.iinc 3 1, 3) := by decide +kernel
theorem c125_59 : mc_cd 125 59 = some (.goto (-48), 3) := by decide +kernel
theorem c125_62 : mc_cd 125 62 = some (.iload_n 2, 1) := by decide +kernel
theorem c125_63 : mc_cd 125 63 = some (.ireturn, 1) := by decide +kernel
abbrev q_125 (r0 : Nat) (r1 : Nat) (T : wq_T) (H : wq_H) : Option Value → wq_T → wq_H → Prop := fun r T' H' => T = T' ∧ WT T H' ∧ wfr [(23, 999), (24, 999)] T H H' ∧ ∃ z : Int, some (vI z) = r ∧ ((-2147483648) ≤ z ∧ z ≤ 2147483647)
set_option maxHeartbeats 4000000 in
theorem s_125 {kt : Nat → Option mc_E} {T : wq_T} {H : wq_H} {r0 : Nat} {r1 : Nat} (hW : WT T H) (g0 : T.2.2.2 r0 = some 20) (g1 : T.2.2.2 r1 = some 27) : wpc kt 4 125 [.ref r0, .ref r1] T H (q_125 r0 r1 T H) := by
  refine wp_enter e125 (Nat.le_of_ble_eq_true rfl) rfl ?_
  have f0 : wfr [(23, 999), (24, 999)] T H H := wfr.rf
  show wp _ _ 125 0 [(0, .ref r0), (1, .ref r1)] [] _ H _
  refine wp_of e125 c125_0 (rw_iconst (pc' := 1) rfl ?_)
  refine wp_of e125 c125_1 (rw_aload_n (pc' := 2) (v := .ref r1) rfl rfl rfl ?_)
  refine wp_of e125 c125_2 (xg_I (pc' := 5) lf_5_46 hW g1 sh_27 (by decide) (by decide) ty_27_10 rfl rfl (fun b39962 b39963 => ?_))
  refine wp_of e125 c125_5 (rw_ishl (pc' := 6) rfl ?_)
  obtain ⟨v39964, e39965⟩ : ∃ x : Int, x = wq_shl 1 (H r1 10) := ⟨_, rfl⟩
  rw [← e39965]
  have b39966 : -2147483648 ≤ v39964 ∧ v39964 ≤ 2147483647 := by
    rw [e39965]
    exact wI_shl _ _
  refine wp_of e125 c125_6 (rw_iconst (pc' := 7) rfl ?_)
  refine wp_of e125 c125_7 (rw_isubw (pc' := 8) rfl ?_)
  obtain ⟨v39967, e39968⟩ : ∃ x : Int, x = wq_w (v39964 - 1) := ⟨_, rfl⟩
  rw [← e39968]
  have b39969 : -2147483648 ≤ v39967 ∧ v39967 ≤ 2147483647 := by
    rw [e39968]
    exact wI_w _
  refine wp_of e125 c125_8 (rw_istore_n (pc' := 9) (z := v39967) (L' := [(2, vI v39967), (0, .ref r0), (1, .ref r1)]) rfl rfl rfl ?_)
  refine wp_of e125 c125_9 (rw_iconst (pc' := 10) rfl ?_)
  refine wp_of e125 c125_10 (rw_istore_n (pc' := 11) (z := 0) (L' := [(3, vI 0), (2, vI v39967), (0, .ref r0), (1, .ref r1)]) rfl rfl rfl ?_)
  have lp41454 : ∀ (n41455 : Nat) (v41457 : Int) (H41458 : wq_H), WT T H41458 → wfr [(23, 999), (24, 999)] T H H41458 → (0 ≤ v41457 ∧ v41457 ≤ 6) → (6 - v41457).toNat = n41455 → wp kt 3 125 11 [(3, vI v41457), (2, vI v39967), (0, .ref r0), (1, .ref r1)] [] T H41458 (q_125 r0 r1 T H) := by
    intro n41455
    induction n41455 using Nat.strongRecOn with
    | _ n41455 ih41456 =>
      intro v41457 H41458 w41459 f41460 b41461 m41462
      have f41463 := f0.tr f41460 rfl
      refine wp_of e125 c125_11 (rw_iload_n (pc' := 12) (z := v41457) rfl rfl ?_)
      refine wp_of e125 c125_12 (rw_aload_n (pc' := 13) (v := .ref r1) rfl rfl rfl ?_)
      have k41464 : H41458 r1 10 = H r1 10 := (f41460 r1 10 _ g1 rfl)
      refine wp_of e125 c125_13 (xg_I (pc' := 16) lf_5_46 w41459 g1 sh_27 (by decide) (by decide) ty_27_10 rfl rfl (fun b41465 b41466 => ?_))
      refine wp_of e125 c125_16 (rw_icmp_ge (p1 := 62) (p2 := 19) (by decide) rfl ⟨by omega, by omega⟩ ⟨by omega, by omega⟩ (fun c41467 => ?_) (fun c41467 => ?_))
      · refine wp_of e125 c125_62 (rw_iload_n (pc' := 63) (z := v39967) rfl rfl ?_)
        exact wp_ireturn e125 c125_63 rfl ⟨rfl, w41459, f41463, v39967, rfl, ⟨by omega, by omega⟩⟩
      · refine wp_of e125 c125_19 (rw_iconst (pc' := 20) rfl ?_)
        refine wp_of e125 c125_20 (rw_istore (pc' := 22) (z := 0) (L' := [(4, vI 0), (3, vI v41457), (2, vI v39967), (0, .ref r0), (1, .ref r1)]) rfl rfl rfl ?_)
        have lp41660 : ∀ (n41661 : Nat) (v41663 : Int) (H41664 : wq_H), WT T H41664 → wfr [(23, 999), (24, 999)] T H41458 H41664 → (0 ≤ v41663 ∧ v41663 ≤ 2147483647) → (2147483647 - v41663).toNat = n41661 → wp kt 3 125 22 [(4, vI v41663), (3, vI v41457), (2, vI v39967), (0, .ref r0), (1, .ref r1)] [] T H41664 (q_125 r0 r1 T H) := by
          intro n41661
          induction n41661 using Nat.strongRecOn with
          | _ n41661 ih41662 =>
            intro v41663 H41664 w41665 f41666 b41667 m41668
            have f41669 := f41463.tr f41666 rfl
            have f41670 := f41460.tr f41666 rfl
            refine wp_of e125 c125_22 (rw_iload (pc' := 24) (z := v41663) rfl rfl ?_)
            refine wp_of e125 c125_24 (rw_iload_n (pc' := 25) (z := v39967) rfl rfl ?_)
            refine wp_of e125 c125_25 (rw_icmp_ge (p1 := 56) (p2 := 28) (by decide) rfl ⟨by omega, by omega⟩ ⟨by omega, by omega⟩ (fun c41671 => ?_) (fun c41671 => ?_))
            · refine wp_of e125 c125_56 (rw_iinc (pc' := 59) (z := v41457) (L' := [(3, vI (v41457 + 1)), (4, vI v41663), (2, vI v39967), (0, .ref r0), (1, .ref r1)]) rfl rfl rfl rfl ?_)
              refine wp_of e125 c125_59 (rw_goto (p1 := 11) (by decide) ?_)
              exact wp_lc (ks := [3, 4, 2, 0, 1]) (wl_c rfl (wl_c rfl (wl_c rfl (wl_c rfl wl_n)))) rfl (by decide) (ih41456 _ (by omega) (v41457 + 1) H41664 w41665 f41670 ⟨by omega, by omega⟩ rfl)
            · refine wp_of e125 c125_28 (rw_iload (pc' := 30) (z := v41663) rfl rfl ?_)
              refine wp_of e125 c125_30 (xc_S (pc' := 33) (as := [vI v41663]) (st := []) (lm_5_51) rfl rfl (Nat.le_of_ble_eq_true rfl) rfl (by decide) (s_126 w41665 ⟨by omega, by omega⟩) (fun R41672 T41673 H41674 p41675 => ?_))
              obtain ⟨e41676, e41678, z41679, e41677, b41680⟩ := p41675
              subst e41676
              subst e41677
              subst e41678
              show wp _ _ 125 33 [(4, vI v41663), (3, vI v41457), (2, vI v39967), (0, .ref r0), (1, .ref r1)] [vI z41679] _ H41664 _
              refine wp_of e125 c125_33 (rw_iload_n (pc' := 34) (z := v41457) rfl rfl ?_)
              refine wp_of e125 c125_34 (rw_icmp_ne (p1 := 50) (p2 := 37) (by decide) rfl ⟨by omega, by omega⟩ ⟨by omega, by omega⟩ (fun c41681 => ?_) (fun c41681 => ?_))
              · refine wp_of e125 c125_50 (rw_iinc (pc' := 53) (z := v41663) (L' := [(4, vI (v41663 + 1)), (3, vI v41457), (2, vI v39967), (0, .ref r0), (1, .ref r1)]) rfl rfl rfl rfl ?_)
                refine wp_of e125 c125_53 (rw_goto (p1 := 22) (by decide) ?_)
                exact wp_lc (ks := [4, 3, 2, 0, 1]) (wl_c rfl (wl_c rfl (wl_c rfl (wl_c rfl (wl_c rfl wl_n))))) rfl (by decide) (ih41662 _ (by omega) (v41663 + 1) H41664 w41665 f41666 ⟨by omega, by omega⟩ rfl)
              · refine wp_of e125 c125_37 (rw_aload_n (pc' := 38) (v := .ref r0) rfl rfl rfl ?_)
                refine wp_of e125 c125_38 (rw_aload_n (pc' := 39) (v := .ref r1) rfl rfl rfl ?_)
                refine wp_of e125 c125_39 (rw_iload (pc' := 41) (z := v41663) rfl rfl ?_)
                refine wp_of e125 c125_41 (xc_V (pc' := 44) (r := r0) (as := [.ref r1, vI v41663]) (st := []) (lm_5_57) rfl rfl (Nat.le_of_ble_eq_true rfl) w41665 g0 sh_20 (by decide) rfl (by decide) (s_127 w41665 g0 g1 ⟨by omega, by omega⟩) (fun R41682 T41683 H41684 p41685 => ?_))
                obtain ⟨e41686, w41688, f41689, z41690, e41687, b41691⟩ := p41685
                subst e41686
                subst e41687
                have f41692 := f41669.tr f41689 rfl
                have f41693 := f41670.tr f41689 rfl
                have f41694 := f41666.tr f41689 rfl
                show wp _ _ 125 44 [(4, vI v41663), (3, vI v41457), (2, vI v39967), (0, .ref r0), (1, .ref r1)] [vI z41690] _ H41684 _
                refine wp_of e125 c125_44 (rw_if_eq (p1 := 50) (p2 := 47) (by decide) rfl ⟨by omega, by omega⟩ (fun c41695 => ?_) (fun c41695 => ?_))
                · refine wp_of e125 c125_50 (rw_iinc (pc' := 53) (z := v41663) (L' := [(4, vI (v41663 + 1)), (3, vI v41457), (2, vI v39967), (0, .ref r0), (1, .ref r1)]) rfl rfl rfl rfl ?_)
                  refine wp_of e125 c125_53 (rw_goto (p1 := 22) (by decide) ?_)
                  exact wp_lc (ks := [4, 3, 2, 0, 1]) (wl_c rfl (wl_c rfl (wl_c rfl (wl_c rfl (wl_c rfl wl_n))))) rfl (by decide) (ih41662 _ (by omega) (v41663 + 1) H41684 w41688 f41694 ⟨by omega, by omega⟩ rfl)
                · refine wp_of e125 c125_47 (rw_iload (pc' := 49) (z := v41663) rfl rfl ?_)
                  exact wp_ireturn e125 c125_49 rfl ⟨rfl, w41688, f41692, v41663, rfl, ⟨by omega, by omega⟩⟩
        exact wp_lc (ks := [4, 3, 2, 0, 1]) (wl_c rfl (wl_c rfl (wl_c rfl (wl_c rfl (wl_c rfl wl_n))))) rfl (by decide) (lp41660 _ 0 H41458 w41459 wfr.rf ⟨by omega, by omega⟩ rfl)
  exact wp_lc (ks := [3, 2, 0, 1]) (wl_c rfl (wl_c rfl (wl_c rfl (wl_c rfl wl_n)))) rfl (by decide) (lp41454 _ 0 H hW wfr.rf ⟨by omega, by omega⟩ rfl)
/-! StrikeAwake$Asking.fewestForAll(LStrikeAwake$Parish;LStrikeAwake$Census;)I -/
theorem e122 : wq_en 122 = some (5, 4, false, some FieldType.int) := rfl
theorem c122_0 : mc_cd 122 0 = some (.aload_n 0, 1) := by decide +kernel
theorem c122_1 : mc_cd 122 1 = some (.aload_n 1, 1) := by decide +kernel
theorem c122_2 : mc_cd 122 2 = some (.aload_n 2, 1) := by decide +kernel
theorem c122_3 : mc_cd 122 3 = some (.invokevirtual 24, 3) := by decide +kernel
theorem c122_6 : mc_cd 122 6 = some (.iconst 0, 1) := by decide +kernel
theorem c122_7 : mc_cd 122 7 = some (.istore_n 3, 1) := by decide +kernel
theorem c122_8 : mc_cd 122 8 = some (.iload_n 3, 1) := by decide +kernel
theorem c122_9 : mc_cd 122 9 = some (.aload_n 0, 1) := by decide +kernel
theorem c122_10 : mc_cd 122 10 = some (.getfield 28, 3) := by decide +kernel
theorem c122_13 : mc_cd 122 13 = some (.if_icmp .ge 21, 3) := by decide +kernel
theorem c122_16 : mc_cd 122 16 = some (.aload_n 0, 1) := by decide +kernel
theorem c122_17 : mc_cd 122 17 = some (.getfield 15, 3) := by decide +kernel
theorem c122_20 : mc_cd 122 20 = some (.iload_n 3, 1) := by decide +kernel
theorem c122_21 : mc_cd 122 21 = some (.aload_n 0, 1) := by decide +kernel
theorem c122_22 : mc_cd 122 22 = some (.getfield 9, 3) := by decide +kernel
theorem c122_25 : mc_cd 122 25 = some (.iload_n 3, 1) := by decide +kernel
theorem c122_26 : mc_cd 122 26 = some (.iaload, 1) := by decide +kernel
theorem c122_27 : mc_cd 122 27 = some (.iastore, 1) := by decide +kernel
theorem c122_28 : mc_cd 122 28 = some (.iinc 3 1, 3) := by decide +kernel
theorem c122_31 : mc_cd 122 31 = some (.goto (-23), 3) := by decide +kernel
theorem c122_34 : mc_cd 122 34 = some (.aload_n 0, 1) := by decide +kernel
theorem c122_35 : mc_cd 122 35 = some (.aload_n 1, 1) := by decide +kernel
theorem c122_36 : mc_cd 122 36 = some (.invokevirtual 32, 3) := by decide +kernel
theorem c122_39 : mc_cd 122 39 = some (.ireturn, 1) := by decide +kernel
abbrev q_122 (r0 : Nat) (r1 : Nat) (r2 : Nat) (T : wq_T) (H : wq_H) : Option Value → wq_T → wq_H → Prop := fun r T' H' => T = T' ∧ WT T H' ∧ wfr [(20, 4), (22, 999), (23, 999), (21, 999), (24, 999)] T H H' ∧ ∃ z : Int, some (vI z) = r ∧ ((-2147483648) ≤ z ∧ z ≤ 2147483647)
set_option maxHeartbeats 4000000 in
theorem s_122 {kt : Nat → Option mc_E} {T : wq_T} {H : wq_H} {r0 : Nat} {r1 : Nat} {r2 : Nat} (hW : WT T H) (g0 : T.2.2.2 r0 = some 20) (g1 : T.2.2.2 r1 = some 27) (g2 : T.2.2.2 r2 = some 12) : wpc kt 5 122 [.ref r0, .ref r1, .ref r2] T H (q_122 r0 r1 r2 T H) := by
  refine wp_enter e122 (Nat.le_of_ble_eq_true rfl) rfl ?_
  have f0 : wfr [(20, 4), (22, 999), (23, 999), (21, 999), (24, 999)] T H H := wfr.rf
  show wp _ _ 122 0 [(0, .ref r0), (1, .ref r1), (2, .ref r2)] [] _ H _
  refine wp_of e122 c122_0 (rw_aload_n (pc' := 1) (v := .ref r0) rfl rfl rfl ?_)
  refine wp_of e122 c122_1 (rw_aload_n (pc' := 2) (v := .ref r1) rfl rfl rfl ?_)
  refine wp_of e122 c122_2 (rw_aload_n (pc' := 3) (v := .ref r2) rfl rfl rfl ?_)
  refine wp_of e122 c122_3 (xc_V (pc' := 6) (r := r0) (as := [.ref r1, .ref r2]) (st := []) (lm_5_24) rfl rfl (Nat.le_of_ble_eq_true rfl) hW g0 sh_20 (by decide) rfl (by decide) (s_123 hW g0 g1 g2) (fun R41852 T41853 H41854 p41855 => ?_))
  obtain ⟨e41856, w41858, f41859, e41857⟩ := p41855
  subst e41856
  subst e41857
  have f41860 := f0.tr f41859 rfl
  show wp _ _ 122 6 [(0, .ref r0), (1, .ref r1), (2, .ref r2)] [] _ H41854 _
  refine wp_of e122 c122_6 (rw_iconst (pc' := 7) rfl ?_)
  refine wp_of e122 c122_7 (rw_istore_n (pc' := 8) (z := 0) (L' := [(3, vI 0), (0, .ref r0), (1, .ref r1), (2, .ref r2)]) rfl rfl rfl ?_)
  have lp41981 : ∀ (n41982 : Nat) (v41984 : Int) (H41985 : wq_H), WT T H41985 → wfr [(22, 999)] T H41854 H41985 → (0 ≤ v41984 ∧ v41984 ≤ 400) → (400 - v41984).toNat = n41982 → wp kt 4 122 8 [(3, vI v41984), (0, .ref r0), (1, .ref r1)] [] T H41985 (q_122 r0 r1 r2 T H) := by
    intro n41982
    induction n41982 using Nat.strongRecOn with
    | _ n41982 ih41983 =>
      intro v41984 H41985 w41986 f41987 b41988 m41989
      have f41990 := f41860.tr f41987 rfl
      refine wp_of e122 c122_8 (rw_iload_n (pc' := 9) (z := v41984) rfl rfl ?_)
      refine wp_of e122 c122_9 (rw_aload_n (pc' := 10) (v := .ref r0) rfl rfl rfl ?_)
      refine wp_of e122 c122_10 (xg_I (pc' := 13) lf_5_28 w41986 g0 sh_20 (by decide) (by decide) ty_20_4 rfl rfl (fun b41991 b41992 => ?_))
      refine wp_of e122 c122_13 (rw_icmp_ge (p1 := 34) (p2 := 16) (by decide) rfl ⟨by omega, by omega⟩ ⟨by omega, by omega⟩ (fun c41993 => ?_) (fun c41993 => ?_))
      · refine wp_of e122 c122_34 (rw_aload_n (pc' := 35) (v := .ref r0) rfl rfl rfl ?_)
        refine wp_of e122 c122_35 (rw_aload_n (pc' := 36) (v := .ref r1) rfl rfl rfl ?_)
        refine wp_of e122 c122_36 (xc_V (pc' := 39) (r := r0) (as := [.ref r1]) (st := []) (lm_5_32) rfl rfl (Nat.le_of_ble_eq_true rfl) w41986 g0 sh_20 (by decide) rfl (by decide) (s_125 w41986 g0 g1) (fun R41994 T41995 H41996 p41997 => ?_))
        obtain ⟨e41998, w42000, f42001, z42002, e41999, b42003⟩ := p41997
        subst e41998
        subst e41999
        have f42004 := f41990.tr f42001 rfl
        show wp _ _ 122 39 [(3, vI v41984), (0, .ref r0), (1, .ref r1)] [vI z42002] _ H41996 _
        exact wp_ireturn e122 c122_39 rfl ⟨rfl, w42000, f42004, z42002, rfl, ⟨by omega, by omega⟩⟩
      · refine wp_of e122 c122_16 (rw_aload_n (pc' := 17) (v := .ref r0) rfl rfl rfl ?_)
        refine wp_of e122 c122_17 (xg_R (pc' := 20) lf_5_15 w41986 g0 sh_20 (by decide) (by decide) ty_20_1 rfl rfl (fun r42005 q42006 g42007 => ?_))
        refine wp_of e122 c122_20 (rw_iload_n (pc' := 21) (z := v41984) rfl rfl ?_)
        refine wp_of e122 c122_21 (rw_aload_n (pc' := 22) (v := .ref r0) rfl rfl rfl ?_)
        refine wp_of e122 c122_22 (xg_R (pc' := 25) lf_5_9 w41986 g0 sh_20 (by decide) (by decide) ty_20_0 rfl rfl (fun r42008 q42009 g42010 => ?_))
        refine wp_of e122 c122_25 (rw_iload_n (pc' := 26) (z := v41984) rfl rfl ?_)
        refine wp_of e122 c122_26 (xa_I (so := 0) (pc' := 27) w41986 g42010 sh_21 (by decide) (ty_21 _) (by omega) (by omega) rfl (fun b42011 b42012 => ?_))
        refine wp_of e122 c122_27 (xs_I (pc' := 28) w41986 g42007 (by decide) sh_22 (by decide) (ty_22 _) (by omega) (by omega) ⟨by omega, by omega⟩ (by omega) (by omega) rfl (fun H42013 e42014 w42015 => ?_))
        have f42016 := f41990.put' e42014 g42007 rfl
        have f42017 := f41987.put' e42014 g42007 rfl
        refine wp_of e122 c122_28 (rw_iinc (pc' := 31) (z := v41984) (L' := [(3, vI (v41984 + 1)), (0, .ref r0), (1, .ref r1)]) rfl rfl rfl rfl ?_)
        refine wp_of e122 c122_31 (rw_goto (p1 := 8) (by decide) ?_)
        exact wp_lc (ks := [3, 0, 1]) (wl_c rfl (wl_c rfl (wl_c rfl wl_n))) rfl (by decide) (ih41983 _ (by omega) (v41984 + 1) H42013 w42015 f42017 ⟨by omega, by omega⟩ rfl)
  exact wp_lc (ks := [3, 0, 1, 2]) (wl_c rfl (wl_c rfl (wl_c rfl wl_n))) rfl (by decide) (lp41981 _ 0 H41854 w41858 wfr.rf ⟨by omega, by omega⟩ rfl)
/-! StrikeAwake.ask()I -/
theorem e120 : wq_en 120 = some (0, 2, false, some FieldType.int) := rfl
theorem c120_0 : mc_cd 120 0 = some (.aload_n 0, 1) := by decide +kernel
theorem c120_1 : mc_cd 120 1 = some (.aload_n 0, 1) := by decide +kernel
theorem c120_2 : mc_cd 120 2 = some (.getfield 58, 3) := by decide +kernel
theorem c120_5 : mc_cd 120 5 = some (.invokevirtual 227, 3) := by decide +kernel
theorem c120_8 : mc_cd 120 8 = some (.istore_n 1, 1) := by decide +kernel
theorem c120_9 : mc_cd 120 9 = some (.iload_n 1, 1) := by decide +kernel
theorem c120_10 : mc_cd 120 10 = some (.ifCond .eq 9, 3) := by decide +kernel
theorem c120_13 : mc_cd 120 13 = some (.aload_n 0, 1) := by decide +kernel
theorem c120_14 : mc_cd 120 14 = some (.iload_n 1, 1) := by decide +kernel
theorem c120_15 : mc_cd 120 15 = some (.invokevirtual 70, 3) := by decide +kernel
theorem c120_18 : mc_cd 120 18 = some (.ireturn, 1) := by decide +kernel
theorem c120_19 : mc_cd 120 19 = some (.aload_n 0, 1) := by decide +kernel
theorem c120_20 : mc_cd 120 20 = some (.aload_n 0, 1) := by decide +kernel
theorem c120_21 : mc_cd 120 21 = some (.getfield 37, 3) := by decide +kernel
theorem c120_24 : mc_cd 120 24 = some (.aload_n 0, 1) := by decide +kernel
theorem c120_25 : mc_cd 120 25 = some (.getfield 51, 3) := by decide +kernel
theorem c120_28 : mc_cd 120 28 = some (.aload_n 0, 1) := by decide +kernel
theorem c120_29 : mc_cd 120 29 = some (.getfield 30, 3) := by decide +kernel
theorem c120_32 : mc_cd 120 32 = some (.invokevirtual 230, 3) := by decide +kernel
theorem c120_35 : mc_cd 120 35 = some (.invokevirtual 99, 3) := by decide +kernel
theorem c120_38 : mc_cd 120 38 = some (.ireturn, 1) := by decide +kernel
abbrev q_120 (r0 : Nat) (T : wq_T) (H : wq_H) : Option Value → wq_T → wq_H → Prop := fun r T' H' => T = T' ∧ WT T H' ∧ wfr [(20, 4), (12, 5), (12, 6), (12, 7), (12, 8), (12, 9), (1, 10), (6, 5), (8, 999), (10, 999), (15, 999), (22, 999), (9, 999), (18, 999), (23, 999), (19, 999), (21, 999), (7, 999), (11, 999), (24, 999), (17, 999), (13, 999)] T H H' ∧ ∃ z : Int, some (vI z) = r ∧ ((-2147483648) ≤ z ∧ z ≤ 2147483647)
set_option maxHeartbeats 4000000 in
theorem s_120 {kt : Nat → Option mc_E} {T : wq_T} {H : wq_H} {r0 : Nat} (hW : WT T H) (g0 : T.2.2.2 r0 = some 1) : wpc kt 7 120 [.ref r0] T H (q_120 r0 T H) := by
  refine wp_enter e120 (Nat.le_of_ble_eq_true rfl) rfl ?_
  have f0 : wfr [(20, 4), (12, 5), (12, 6), (12, 7), (12, 8), (12, 9), (1, 10), (6, 5), (8, 999), (10, 999), (15, 999), (22, 999), (9, 999), (18, 999), (23, 999), (19, 999), (21, 999), (7, 999), (11, 999), (24, 999), (17, 999), (13, 999)] T H H := wfr.rf
  show wp _ _ 120 0 [(0, .ref r0)] [] _ H _
  refine wp_of e120 c120_0 (rw_aload_n (pc' := 1) (v := .ref r0) rfl rfl rfl ?_)
  refine wp_of e120 c120_1 (rw_aload_n (pc' := 2) (v := .ref r0) rfl rfl rfl ?_)
  refine wp_of e120 c120_2 (xg_I (pc' := 5) lf_0_58 hW g0 sh_1 (by decide) (by decide) ty_1_8 rfl rfl (fun b42075 b42076 => ?_))
  refine wp_of e120 c120_5 (xc_V (pc' := 8) (r := r0) (as := [vI (H r0 8)]) (st := []) (lm_0_227) rfl rfl (Nat.le_of_ble_eq_true rfl) hW g0 sh_1 (by decide) rfl (by decide) (s_121 hW g0 ⟨by omega, by omega⟩) (fun R42077 T42078 H42079 p42080 => ?_))
  obtain ⟨e42081, w42083, f42084, z42086, e42082, b42087, p42085⟩ := p42080
  subst e42081
  subst e42082
  have f42088 := f0.tr f42084 rfl
  show wp _ _ 120 8 [(0, .ref r0)] [vI z42086] _ H42079 _
  refine wp_of e120 c120_8 (rw_istore_n (pc' := 9) (z := z42086) (L' := [(1, vI z42086), (0, .ref r0)]) rfl rfl rfl ?_)
  refine wp_of e120 c120_9 (rw_iload_n (pc' := 10) (z := z42086) rfl rfl ?_)
  refine wp_of e120 c120_10 (rw_if_eq (p1 := 19) (p2 := 13) (by decide) rfl ⟨by omega, by omega⟩ (fun c42089 => ?_) (fun c42089 => ?_))
  · refine wp_of e120 c120_19 (rw_aload_n (pc' := 20) (v := .ref r0) rfl rfl rfl ?_)
    refine wp_of e120 c120_20 (rw_aload_n (pc' := 21) (v := .ref r0) rfl rfl rfl ?_)
    refine wp_of e120 c120_21 (xg_R (pc' := 24) lf_0_37 w42083 g0 sh_1 (by decide) (by decide) ty_1_4 rfl rfl (fun r42090 q42091 g42092 => ?_))
    refine wp_of e120 c120_24 (rw_aload_n (pc' := 25) (v := .ref r0) rfl rfl rfl ?_)
    refine wp_of e120 c120_25 (xg_R (pc' := 28) lf_0_51 w42083 g0 sh_1 (by decide) (by decide) ty_1_6 rfl rfl (fun r42093 q42094 g42095 => ?_))
    refine wp_of e120 c120_28 (rw_aload_n (pc' := 29) (v := .ref r0) rfl rfl rfl ?_)
    refine wp_of e120 c120_29 (xg_R (pc' := 32) lf_0_30 w42083 g0 sh_1 (by decide) (by decide) ty_1_3 rfl rfl (fun r42096 q42097 g42098 => ?_))
    refine wp_of e120 c120_32 (xc_V (pc' := 35) (r := r42090) (as := [.ref r42093, .ref r42096]) (st := [.ref r0]) (lm_0_230) rfl rfl (Nat.le_of_ble_eq_true rfl) w42083 g42092 sh_20 (by decide) rfl (by decide) (s_122 w42083 g42092 g42095 g42098) (fun R42099 T42100 H42101 p42102 => ?_))
    obtain ⟨e42103, w42105, f42106, z42107, e42104, b42108⟩ := p42102
    subst e42103
    subst e42104
    have f42109 := f42088.tr f42106 rfl
    show wp _ _ 120 35 [(1, vI z42086), (0, .ref r0)] [vI z42107, .ref r0] _ H42101 _
    refine wp_of e120 c120_35 (xc_V (pc' := 38) (r := r0) (as := [vI z42107]) (st := []) (lm_0_99) rfl rfl (Nat.le_of_ble_eq_true rfl) w42105 g0 sh_1 (by decide) rfl (by decide) (s_51 w42105 g0 ⟨by omega, by omega⟩) (fun R42110 T42111 H42112 p42113 => ?_))
    obtain ⟨e42114, w42116, f42117, z42118, e42115, b42119⟩ := p42113
    subst e42114
    subst e42115
    have f42120 := f42109.tr f42117 rfl
    show wp _ _ 120 38 [(1, vI z42086), (0, .ref r0)] [vI z42118] _ H42112 _
    exact wp_ireturn e120 c120_38 rfl ⟨rfl, w42116, f42120, z42118, rfl, ⟨by omega, by omega⟩⟩
  · refine wp_of e120 c120_13 (rw_aload_n (pc' := 14) (v := .ref r0) rfl rfl rfl ?_)
    refine wp_of e120 c120_14 (rw_iload_n (pc' := 15) (z := z42086) rfl rfl ?_)
    refine wp_of e120 c120_15 (xc_V (pc' := 18) (r := r0) (as := [vI z42086]) (st := []) (lm_0_70) rfl rfl (Nat.le_of_ble_eq_true rfl) w42083 g0 sh_1 (by decide) rfl (by decide) (s_12 w42083 g0 ⟨by omega, by omega⟩) (fun R42121 T42122 H42123 p42124 => ?_))
    obtain ⟨e42125, w42127, f42128, z42129, e42126, b42130⟩ := p42124
    subst e42125
    subst e42126
    have f42131 := f42088.tr f42128 rfl
    show wp _ _ 120 18 [(1, vI z42086), (0, .ref r0)] [vI z42129] _ H42123 _
    exact wp_ireturn e120 c120_18 rfl ⟨rfl, w42127, f42131, z42129, rfl, ⟨by omega, by omega⟩⟩
